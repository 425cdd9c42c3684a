/-! LineGolomb: public methods, where they throw -/
set_option maxHeartbeats 4000000 in
set_option maxRecDepth 100000 in
theorem t_X_codeA (l : Launch) (hst : l.stackTraces = false) (D : va_G) (tw : Nat) (sa : Nat → Nat) (x sw sr br bq bi ne li sp q : Nat) (lb : Int32) (k0 v0 : Int32) (hq : q ≤ 29) (hbad : k0 < 0 ∨ nI q < k0 ∨ v0 < 0 ∨ nI (2 ^ q) < v0) : vx_Met l y_X_code (WSY y_X_code b_X_code 5 (some .int)) ({ frames := 6, cells := 1, slots := 6, locals := 110 }) (va_Pc [.ref x, .int k0, .int v0] (fun U => va_P D CLS [(x, .inr (4, [.int (nI bi), .int (nI ne), .int (nI li), .int (nI sp), .int (nI q), .ref sw, .ref sr, .ref br, .ref bq, .int lb]))] U.heap ∧ va_K D CLS [] U ∧ EV (fun _ => False) tw U ∧ EX (fun _ => False) sa U)) QT (XT "java/lang/IllegalArgumentException") 1 6 (fun _ => False) := by
  refine vx_ofW (cc := b_X_code) (maxL := 5) (ret := (some .int)) (by decide) rfl ?_
  intro p e s m args below meth c s₁ B hml hnt hv
  obtain ⟨rfl, hP, hK, hE, hEX⟩ := hv
  have hx := B.exec
  have hb := B.bytes
  have hr := B.returns
  have hts := atoms_spec (ws := WSY y_X_code b_X_code 5 (some .int)) B.pre
  have hg : ∀ w ∈ GW, w.before _ s = true := fun w h => hts w (List.mem_cons_of_mem _ h)
  have hown : s.vm.findClass "LineGolomb" = some m.cls := findClass_of_methodNamed B.named
  have hlocks := B.notSynchronized
  have hS : va_S (fun _ => False) s.heap s.heap [] := va_S.rf
  have hl := lv_entry ([.ref x, .int k0, .int v0]) (n := 5) (Nat.le_of_ble_eq_true rfl)
  rw [lg_entry_eq]
  generalize (lg_sl ([.ref x, .int k0, .int v0]) ++ List.replicate (5 - (lg_sl ([.ref x, .int k0, .int v0])).length) Slot.unset).toArray = ls at hl ⊢
  have hl : lv_has ls 5 [(0, .ref x), (1, .int k0), (2, .int v0)] := hl
  refine lv_iload_n hx hb d_X_code_0 rfl (lv_at hl 1 rfl) ?_
  refine lv_if_lt (tgt := 12) hx hb d_X_code_1 (by decide) (fun c_1 => ?_) (fun c_1 => ?_)
  · skip
    exact vx_throwS (A := fun _ => False) (cls := "java/lang/IllegalArgumentException") (names := ["java/lang/RuntimeException", "java/lang/Exception"]) (text := "k is not 0 .. Q") hx hb hst hown (by decide) (by decide) (hg _ gw_201) (hg _ gw_11) hEX.st_70 hEX.at_IAE XG_IAE hEX.2.2.1 hEX.2.2.2 hS (hl.1.trans hml.symm) d_X_code_12 d_X_code_15 d_X_code_16 d_X_code_18 d_X_code_21 (fun x9 h9 => (hnt x9 h9).elim) (by decide) (Nat.le_of_ble_eq_true rfl) (by decide) (by decide) hlocks (fun t ht g1 g2 => ⟨(), trivial, rfl, g1, fun q9 h9 _ => g2 q9 h9⟩) (fun z9 h9 => by cases h9) (by decide) (by decide)
  · skip
    refine lv_iload_n hx hb d_X_code_4 rfl (lv_at hl 1 rfl) ?_
    refine lv_aload_n hx hb d_X_code_5 rfl (lv_at hl 0 rfl) ?_
    refine va_get (D := D) (ci := 4) (v := .int (nI q)) (C := R_X) (T := T_X) (N := 10) hx hb hg in_X hown hK hP 0 rfl rfl 4 (by decide) (hg _ gw_120) (fun _ h9 => h9) rfl d_X_code_6 ?_
    refine lv_icmp_le (tgt := 22) hx hb d_X_code_9 (by decide) (fun c_2 => ?_) (fun c_2 => ?_)
    · skip
      refine lv_iload_n hx hb d_X_code_22 rfl (lv_at hl 2 rfl) ?_
      refine lv_if_lt (tgt := 36) hx hb d_X_code_23 (by decide) (fun c_3 => ?_) (fun c_3 => ?_)
      · skip
        exact vx_throwS (A := fun _ => False) (cls := "java/lang/IllegalArgumentException") (names := ["java/lang/RuntimeException", "java/lang/Exception"]) (text := "the number is not 0 .. 2^Q") hx hb hst hown (by decide) (by decide) (hg _ gw_201) (hg _ gw_11) hEX.st_75 hEX.at_IAE XG_IAE hEX.2.2.1 hEX.2.2.2 hS (hl.1.trans hml.symm) d_X_code_36 d_X_code_39 d_X_code_40 d_X_code_42 d_X_code_45 (fun x9 h9 => (hnt x9 h9).elim) (by decide) (Nat.le_of_ble_eq_true rfl) (by decide) (by decide) hlocks (fun t ht g1 g2 => ⟨(), trivial, rfl, g1, fun q9 h9 _ => g2 q9 h9⟩) (fun z9 h9 => by cases h9) (by decide) (by decide)
      · skip
        refine lv_iload_n hx hb d_X_code_26 rfl (lv_at hl 2 rfl) ?_
        refine lv_iconst (v := 1) hx hb d_X_code_27 (by decide) ?_
        refine lv_aload_n hx hb d_X_code_28 rfl (lv_at hl 0 rfl) ?_
        refine va_get (D := D) (ci := 4) (v := .int (nI q)) (C := R_X) (T := T_X) (N := 10) hx hb hg in_X hown hK hP 0 rfl rfl 4 (by decide) (hg _ gw_120) (fun _ h9 => h9) rfl d_X_code_29 ?_
        refine lv_ishl hx hb d_X_code_32 ?_
        refine tpi (y := nI (2 ^ q)) (sh1 (by omega)) ?_
        refine lv_icmp_le (tgt := 46) hx hb d_X_code_33 (by decide) (fun c_4 => ?_) (fun c_4 => ?_)
        · skip
          exfalso
          rcases hbad with q9 | q9 | q9 | q9
          · exact c_1 q9
          · exact absurd q9 (Int32.not_lt.mpr c_2)
          · exact c_3 q9
          · exact absurd q9 (Int32.not_lt.mpr c_4)
        · skip
          exact vx_throwS (A := fun _ => False) (cls := "java/lang/IllegalArgumentException") (names := ["java/lang/RuntimeException", "java/lang/Exception"]) (text := "the number is not 0 .. 2^Q") hx hb hst hown (by decide) (by decide) (hg _ gw_201) (hg _ gw_11) hEX.st_75 hEX.at_IAE XG_IAE hEX.2.2.1 hEX.2.2.2 hS (hl.1.trans hml.symm) d_X_code_36 d_X_code_39 d_X_code_40 d_X_code_42 d_X_code_45 (fun x9 h9 => (hnt x9 h9).elim) (by decide) (Nat.le_of_ble_eq_true rfl) (by decide) (by decide) hlocks (fun t ht g1 g2 => ⟨(), trivial, rfl, g1, fun q9 h9 _ => g2 q9 h9⟩) (fun z9 h9 => by cases h9) (by decide) (by decide)
    · skip
      exact vx_throwS (A := fun _ => False) (cls := "java/lang/IllegalArgumentException") (names := ["java/lang/RuntimeException", "java/lang/Exception"]) (text := "k is not 0 .. Q") hx hb hst hown (by decide) (by decide) (hg _ gw_201) (hg _ gw_11) hEX.st_70 hEX.at_IAE XG_IAE hEX.2.2.1 hEX.2.2.2 hS (hl.1.trans hml.symm) d_X_code_12 d_X_code_15 d_X_code_16 d_X_code_18 d_X_code_21 (fun x9 h9 => (hnt x9 h9).elim) (by decide) (Nat.le_of_ble_eq_true rfl) (by decide) (by decide) hlocks (fun t ht g1 g2 => ⟨(), trivial, rfl, g1, fun q9 h9 _ => g2 q9 h9⟩) (fun z9 h9 => by cases h9) (by decide) (by decide)
set_option maxHeartbeats 4000000 in
set_option maxRecDepth 100000 in
theorem t_X_codeU (l : Launch) (hst : l.stackTraces = false) (D : va_G) (tw : Nat) (sa : Nat → Nat) (x sw sr br bq bi ne li sp q : Nat) (lb : Int32) (ra : Nat) (cB : ClassId) (u : Nat) (f : Nat → Int32) (K N : Nat) (hq : q ≤ 29) (hKq : K ≤ q) (hN : N ≤ 2 ^ q) (hli : q + 1 ≤ li) (hlb : li ≤ 200) (hu6 : u ≤ 6000) (hu : ¬ u + nlen q K N (li - q - 1) ≤ 6000) : vx_Met l y_X_code (WSY y_X_code b_X_code 5 (some .int)) ({ frames := 6, cells := 1, slots := 6, locals := 110 }) (va_Pc [.ref x, .int (nI K), .int (nI N)] (fun U => va_P D CLS [(x, .inr (4, [.int (nI bi), .int (nI ne), .int (nI li), .int (nI sp), .int (nI q), .ref sw, .ref sr, .ref br, .ref bq, .int lb])), (br, .inr (1, [.ref ra, .int (nI u)])), (ra, .inl (cB, 6000, .inl f))] U.heap ∧ va_K D CLS [(cB, .byte)] U ∧ EV (fun _ => False) tw U ∧ EX (fun _ => False) sa U)) QT (XT "java/lang/UnsupportedOperationException") 1 6 (fun _ => False) := by
  refine vx_ofW (cc := b_X_code) (maxL := 5) (ret := (some .int)) (by decide) rfl ?_
  intro p e s m args below meth c s₁ B hml hnt hv
  obtain ⟨rfl, hP, hK, hE, hEX⟩ := hv
  have hx := B.exec
  have hb := B.bytes
  have hr := B.returns
  have hts := atoms_spec (ws := WSY y_X_code b_X_code 5 (some .int)) B.pre
  have hg : ∀ w ∈ GW, w.before _ s = true := fun w h => hts w (List.mem_cons_of_mem _ h)
  have hown : s.vm.findClass "LineGolomb" = some m.cls := findClass_of_methodNamed B.named
  have hlocks := B.notSynchronized
  have hS : va_S (fun _ => False) s.heap s.heap [] := va_S.rf
  have hl := lv_entry ([.ref x, .int (nI K), .int (nI N)]) (n := 5) (Nat.le_of_ble_eq_true rfl)
  rw [lg_entry_eq]
  generalize (lg_sl ([.ref x, .int (nI K), .int (nI N)]) ++ List.replicate (5 - (lg_sl ([.ref x, .int (nI K), .int (nI N)])).length) Slot.unset).toArray = ls at hl ⊢
  have hl : lv_has ls 5 [(0, .ref x), (1, .int (nI K)), (2, .int (nI N))] := hl
  have hp := pw30 (show q ≤ 30 by omega)
  have hq29 : 2 ^ q ≤ 2 ^ 29 := Nat.pow_le_pow_right (by decide) hq
  have hlen : nlen q K N (li - q - 1) < 2 ^ 31 := by unfold nlen; have := Nat.div_le_self N (2 ^ K); split <;> omega
  refine lv_iload_n hx hb d_X_code_0 rfl (lv_at hl 1 rfl) ?_
  refine lv_if_lt (tgt := 12) hx hb d_X_code_1 (by decide) (fun c_1 => ?_) (fun c_1 => ?_)
  · skip
    exact absurd c_1 (nI_pos (by omega))
  · skip
    refine lv_iload_n hx hb d_X_code_4 rfl (lv_at hl 1 rfl) ?_
    refine lv_aload_n hx hb d_X_code_5 rfl (lv_at hl 0 rfl) ?_
    refine va_get (D := D) (ci := 4) (v := .int (nI q)) (C := R_X) (T := T_X) (N := 10) hx hb hg in_X hown hK hP 0 rfl rfl 4 (by decide) (hg _ gw_120) (fun _ h9 => h9) rfl d_X_code_6 ?_
    refine lv_icmp_le (tgt := 22) hx hb d_X_code_9 (by decide) (fun c_2 => ?_) (fun c_2 => ?_)
    · skip
      refine lv_iload_n hx hb d_X_code_22 rfl (lv_at hl 2 rfl) ?_
      refine lv_if_lt (tgt := 36) hx hb d_X_code_23 (by decide) (fun c_3 => ?_) (fun c_3 => ?_)
      · skip
        exact absurd c_3 (nI_pos (by omega))
      · skip
        refine lv_iload_n hx hb d_X_code_26 rfl (lv_at hl 2 rfl) ?_
        refine lv_iconst (v := 1) hx hb d_X_code_27 (by decide) ?_
        refine lv_aload_n hx hb d_X_code_28 rfl (lv_at hl 0 rfl) ?_
        refine va_get (D := D) (ci := 4) (v := .int (nI q)) (C := R_X) (T := T_X) (N := 10) hx hb hg in_X hown hK hP 0 rfl rfl 4 (by decide) (hg _ gw_120) (fun _ h9 => h9) rfl d_X_code_29 ?_
        refine lv_ishl hx hb d_X_code_32 ?_
        refine tpi (y := nI (2 ^ q)) (sh1 (by omega)) ?_
        refine lv_icmp_le (tgt := 46) hx hb d_X_code_33 (by decide) (fun c_4 => ?_) (fun c_4 => ?_)
        · skip
          refine lv_aload_n hx hb d_X_code_46 rfl (lv_at hl 0 rfl) ?_
          refine lv_aload_n hx hb d_X_code_47 rfl (lv_at hl 0 rfl) ?_
          refine va_get (D := D) (ci := 4) (v := .int (nI li)) (C := R_X) (T := T_X) (N := 10) hx hb hg in_X hown hK hP 0 rfl rfl 2 (by decide) (hg _ gw_118) (fun _ h9 => h9) rfl d_X_code_48 ?_
          have hPc := hP.sub (ws' := [(x, .inr (4, [.int (nI bi), .int (nI ne), .int (nI li), .int (nI sp), .int (nI q), .ref sw, .ref sr, .ref br, .ref bq, .int lb]))]) [0] rfl
          have hKc := hK.sub (tys' := []) [] rfl
          refine pci (va_runV (As := [.int (nI li)]) (rest := []) ⟨hx, hb, hml, hown, hg⟩ (c_X_mostZeros l D x sw sr br bq bi ne li sp q lb li hli) (cwV 1 hg (gV gw_269 gw_271 gs_3 gw_1 gw_272) rfl rfl rfl (by decide +kernel) ⟨Nat.le_of_ble_eq_true rfl, Nat.le_of_ble_eq_true rfl⟩) ⟨fun a U g mk q => by obtain ⟨q0, qP, qK⟩ := q; exact ⟨q0, qP, va_K.moved (u := U) (U := U.calling g mk a) (Vm.Alike.refl U.vm) qK⟩, va_recv hKc hPc (ci := 4) (q0 := 0) rfl rfl, fun U hU hW => ⟨rfl, by rw [hU]; exact hPc, va_K.moved hW.alike hKc⟩⟩ rfl rfl hl.1 rfl (lv_room (Nat.le_of_ble_eq_true rfl)) d_X_code_51 (⟨Nat.le_of_ble_eq_true rfl, Nat.le_of_ble_eq_true rfl⟩)) ?_
          refine lv_istore_n (lv' := [(3, .int (nI (li - q - 1))), (0, .ref x), (1, .int (nI K)), (2, .int (nI N))]) hx hb d_X_code_54 rfl hl (by decide) rfl (fun ls hl => ?_)
          refine lv_aload_n hx hb d_X_code_55 rfl (lv_at hl 1 rfl) ?_
          refine lv_iload_n hx hb d_X_code_56 rfl (lv_at hl 2 rfl) ?_
          refine lv_iload_n hx hb d_X_code_57 rfl (lv_at hl 3 rfl) ?_
          refine lv_iload_n hx hb d_X_code_58 rfl (lv_at hl 0 rfl) ?_
          have hPc := hP.sub (ws' := [(x, .inr (4, [.int (nI bi), .int (nI ne), .int (nI li), .int (nI sp), .int (nI q), .ref sw, .ref sr, .ref br, .ref bq, .int lb]))]) [0] rfl
          have hKc := hK.sub (tys' := []) [] rfl
          refine pci (va_runV (As := [.int (nI K), .int (nI N), .int (nI (li - q - 1))]) (rest := []) ⟨hx, hb, hml, hown, hg⟩ (c_X_numberLength l D x sw sr br bq bi ne li sp q lb K N (li - q - 1) (by omega) (by omega) (by omega)) (cwV 3 hg (gV gw_273 gw_275 gs_4 gw_1 gw_276) rfl rfl rfl (by decide +kernel) ⟨Nat.le_of_ble_eq_true rfl, Nat.le_of_ble_eq_true rfl⟩) ⟨fun a U g mk q => by obtain ⟨q0, qP, qK⟩ := q; exact ⟨q0, qP, va_K.moved (u := U) (U := U.calling g mk a) (Vm.Alike.refl U.vm) qK⟩, va_recv hKc hPc (ci := 4) (q0 := 0) rfl rfl, fun U hU hW => ⟨rfl, by rw [hU]; exact hPc, va_K.moved hW.alike hKc⟩⟩ rfl rfl hl.1 rfl (lv_room (Nat.le_of_ble_eq_true rfl)) d_X_code_59 (⟨Nat.le_of_ble_eq_true rfl, Nat.le_of_ble_eq_true rfl⟩)) ?_
          refine lv_istore (lv' := [(4, .int (nI (nlen q K N (li - q - 1)))), (3, .int (nI (li - q - 1))), (0, .ref x), (1, .int (nI K)), (2, .int (nI N))]) hx hb d_X_code_62 hl (by decide) rfl (fun ls hl => ?_)
          refine lv_aload_n hx hb d_X_code_64 rfl (lv_at hl 2 rfl) ?_
          refine va_get (D := D) (ci := 4) (v := .ref br) (C := R_X) (T := T_X) (N := 10) hx hb hg in_X hown hK hP 0 rfl rfl 7 (by decide) (hg _ gw_123) (fun _ h9 => h9) rfl d_X_code_65 ?_
          refine lv_iload hx hb d_X_code_68 (lv_at hl 0 rfl) ?_
          have hPc := hP.sub (ws' := [(br, .inr (1, [.ref ra, .int (nI u)])), (ra, .inl (cB, 6000, .inl f))]) [1, 2] rfl
          have hKc := hK.sub (tys' := [(cB, .byte)]) [0] rfl
          refine pci (va_runV (As := [.int (nI (nlen q K N (li - q - 1)))]) (rest := []) ⟨hx, hb, hml, hown, hg⟩ (c_B_hasRoom l D br ra cB u f (nlen q K N (li - q - 1)) (by omega) (by omega)) (cwV 1 hg (gV gw_277 gw_278 gw_279 gw_2 gw_280) rfl rfl rfl (by decide +kernel) ⟨Nat.le_of_ble_eq_true rfl, Nat.le_of_ble_eq_true rfl⟩) ⟨fun a U g mk q => by obtain ⟨q0, qP, qK⟩ := q; exact ⟨q0, qP, va_K.moved (u := U) (U := U.calling g mk a) (Vm.Alike.refl U.vm) qK⟩, va_recv hKc hPc (ci := 1) (q0 := 0) rfl rfl, fun U hU hW => ⟨rfl, by rw [hU]; exact hPc, va_K.moved hW.alike hKc⟩⟩ rfl rfl hl.1 rfl (lv_room (Nat.le_of_ble_eq_true rfl)) d_X_code_70 (⟨Nat.le_of_ble_eq_true rfl, Nat.le_of_ble_eq_true rfl⟩)) ?_
          refine tpi (y := 0) (if_neg hu) ?_
          refine lv_if_ne (tgt := 86) hx hb d_X_code_73 (by decide) (fun c_5 => ?_) (fun c_5 => ?_)
          · skip
            exact absurd rfl c_5
          · skip
            exact vx_throwS (A := fun _ => False) (cls := "java/lang/UnsupportedOperationException") (names := ["java/lang/RuntimeException", "java/lang/Exception"]) (text := "too many bits") hx hb hst hown (by decide) (by decide) (hg _ gw_281) (hg _ gw_12) hEX.st_89 hEX.at_UOE XG_UOE hEX.2.2.1 hEX.2.2.2 hS (hl.1.trans hml.symm) d_X_code_76 d_X_code_79 d_X_code_80 d_X_code_82 d_X_code_85 (fun x9 h9 => (hnt x9 h9).elim) (by decide) (Nat.le_of_ble_eq_true rfl) (by decide) (by decide) hlocks (fun t ht g1 g2 => ⟨(), trivial, rfl, g1, fun q9 h9 _ => g2 q9 h9⟩) (fun z9 h9 => by cases h9) (by decide) (by decide)
        · skip
          exact absurd (nI_le hN (by omega)) c_4
    · skip
      exact absurd (nI_le hKq (by omega)) c_2
set_option maxHeartbeats 4000000 in
set_option maxRecDepth 100000 in
theorem t_X_runA (l : Launch) (hst : l.stackTraces = false) (D : va_G) (tw : Nat) (sa : Nat → Nat) (x sw sr br bq bi ne li sp q : Nat) (lb : Int32) (v0 te : Int32) (hbad : v0 < 0 ∨ nI 65535 < v0) : vx_Met l y_X_run (WSY y_X_run b_X_run 8 (some .int)) ({ frames := 6, cells := 1, slots := 6, locals := 110 }) (va_Pc [.ref x, .int v0, .int te] (fun U => va_P D CLS [(x, .inr (4, [.int (nI bi), .int (nI ne), .int (nI li), .int (nI sp), .int (nI q), .ref sw, .ref sr, .ref br, .ref bq, .int lb]))] U.heap ∧ va_K D CLS [] U ∧ EV (fun _ => False) tw U ∧ EX (fun _ => False) sa U)) QT (XT "java/lang/IllegalArgumentException") 1 6 (fun _ => False) := by
  refine vx_ofW (cc := b_X_run) (maxL := 8) (ret := (some .int)) (by decide) rfl ?_
  intro p e s m args below meth c s₁ B hml hnt hv
  obtain ⟨rfl, hP, hK, hE, hEX⟩ := hv
  have hx := B.exec
  have hb := B.bytes
  have hr := B.returns
  have hts := atoms_spec (ws := WSY y_X_run b_X_run 8 (some .int)) B.pre
  have hg : ∀ w ∈ GW, w.before _ s = true := fun w h => hts w (List.mem_cons_of_mem _ h)
  have hown : s.vm.findClass "LineGolomb" = some m.cls := findClass_of_methodNamed B.named
  have hlocks := B.notSynchronized
  have hS : va_S (fun _ => False) s.heap s.heap [] := va_S.rf
  have hl := lv_entry ([.ref x, .int v0, .int te]) (n := 8) (Nat.le_of_ble_eq_true rfl)
  rw [lg_entry_eq]
  generalize (lg_sl ([.ref x, .int v0, .int te]) ++ List.replicate (8 - (lg_sl ([.ref x, .int v0, .int te])).length) Slot.unset).toArray = ls at hl ⊢
  have hl : lv_has ls 8 [(0, .ref x), (1, .int v0), (2, .int te)] := hl
  refine lv_iload_n hx hb d_X_run_0 rfl (lv_at hl 1 rfl) ?_
  refine lv_if_lt (tgt := 10) hx hb d_X_run_1 (by decide) (fun c_1 => ?_) (fun c_1 => ?_)
  · skip
    exact vx_throwS (A := fun _ => False) (cls := "java/lang/IllegalArgumentException") (names := ["java/lang/RuntimeException", "java/lang/Exception"]) (text := "samples are not 0 .. 65535") hx hb hst hown (by decide) (by decide) (hg _ gw_201) (hg _ gw_11) hEX.st_97 hEX.at_IAE XG_IAE hEX.2.2.1 hEX.2.2.2 hS (hl.1.trans hml.symm) d_X_run_10 d_X_run_13 d_X_run_14 d_X_run_16 d_X_run_19 (fun x9 h9 => (hnt x9 h9).elim) (by decide) (Nat.le_of_ble_eq_true rfl) (by decide) (by decide) hlocks (fun t ht g1 g2 => ⟨(), trivial, rfl, g1, fun q9 h9 _ => g2 q9 h9⟩) (fun z9 h9 => by cases h9) (by decide) (by decide)
  · skip
    refine lv_iload_n hx hb d_X_run_4 rfl (lv_at hl 1 rfl) ?_
    refine lv_ldc (v := 65535) hx hb hown (hg _ gw_317) d_X_run_5 ?_
    refine lv_icmp_le (tgt := 20) hx hb d_X_run_7 (by decide) (fun c_2 => ?_) (fun c_2 => ?_)
    · skip
      exact absurd hbad (fun q9 => q9.elim c_1 (Int32.not_lt.mpr c_2))
    · skip
      exact vx_throwS (A := fun _ => False) (cls := "java/lang/IllegalArgumentException") (names := ["java/lang/RuntimeException", "java/lang/Exception"]) (text := "samples are not 0 .. 65535") hx hb hst hown (by decide) (by decide) (hg _ gw_201) (hg _ gw_11) hEX.st_97 hEX.at_IAE XG_IAE hEX.2.2.1 hEX.2.2.2 hS (hl.1.trans hml.symm) d_X_run_10 d_X_run_13 d_X_run_14 d_X_run_16 d_X_run_19 (fun x9 h9 => (hnt x9 h9).elim) (by decide) (Nat.le_of_ble_eq_true rfl) (by decide) (by decide) hlocks (fun t ht g1 g2 => ⟨(), trivial, rfl, g1, fun q9 h9 _ => g2 q9 h9⟩) (fun z9 h9 => by cases h9) (by decide) (by decide)
set_option maxHeartbeats 4000000 in
set_option maxRecDepth 100000 in
theorem t_X_runU0 (l : Launch) (hst : l.stackTraces = false) (D : va_G) (tw : Nat) (sa : Nat → Nat) (x sw sr br bq bi ne li sp q : Nat) (lb : Int32) (e0 e1 pl rw ra : Nat) (cB : ClassId) (u : Nat) (f : Nat → Int32) (n0 m0 : Nat) (hpl : pl < 32) (hn : n0 ≤ 65535) (hm1 : ∀ j, j < m0 → 2 ^ wdt (rac pl j) ≤ rrc n0 pl j) (hm2 : rrc n0 pl m0 < 2 ^ wdt (rac pl m0)) (hm3 : m0 ≤ 40) (hu6 : u ≤ 6000) (hu : ¬ u + (m0 + 1 + wdt (rac pl m0)) ≤ 6000) : vx_Met l y_X_run (WSY y_X_run b_X_run 8 (some .int)) ({ frames := 6, cells := 1, slots := 6, locals := 110 }) (va_Pc [.ref x, .int (nI n0), .int 0] (fun U => va_P D CLS [(x, .inr (4, [.int (nI bi), .int (nI ne), .int (nI li), .int (nI sp), .int (nI q), .ref sw, .ref sr, .ref br, .ref bq, .int lb])), (sw, .inr (3, [.ref e0, .ref e1, .int (nI pl), .int (nI rw)])), (br, .inr (1, [.ref ra, .int (nI u)])), (ra, .inl (cB, 6000, .inl f))] U.heap ∧ va_K D CLS [(cB, .byte)] U ∧ EV (fun _ => False) tw U ∧ EX (fun _ => False) sa U)) QT (XT "java/lang/UnsupportedOperationException") 1 6 (fun _ => False) := by
  refine vx_ofW (cc := b_X_run) (maxL := 8) (ret := (some .int)) (by decide) rfl ?_
  intro p e s m args below meth c s₁ B hml hnt hv
  obtain ⟨rfl, hP, hK, hE, hEX⟩ := hv
  have hx := B.exec
  have hb := B.bytes
  have hr := B.returns
  have hts := atoms_spec (ws := WSY y_X_run b_X_run 8 (some .int)) B.pre
  have hg : ∀ w ∈ GW, w.before _ s = true := fun w h => hts w (List.mem_cons_of_mem _ h)
  have hown : s.vm.findClass "LineGolomb" = some m.cls := findClass_of_methodNamed B.named
  have hlocks := B.notSynchronized
  have hS : va_S (fun _ => False) s.heap s.heap [] := va_S.rf
  have hl := lv_entry ([.ref x, .int (nI n0), .int 0]) (n := 8) (Nat.le_of_ble_eq_true rfl)
  rw [lg_entry_eq]
  generalize (lg_sl ([.ref x, .int (nI n0), .int 0]) ++ List.replicate (8 - (lg_sl ([.ref x, .int (nI n0), .int 0])).length) Slot.unset).toArray = ls at hl ⊢
  have hl : lv_has ls 8 [(0, .ref x), (1, .int (nI n0)), (2, .int 0)] := hl
  have hwd := wdt_le (rac pl m0) (rac_lt hpl m0)
  have hrl := rrc_le n0 pl m0
  refine lv_iload_n hx hb d_X_run_0 rfl (lv_at hl 1 rfl) ?_
  refine lv_if_lt (tgt := 10) hx hb d_X_run_1 (by decide) (fun c_1 => ?_) (fun c_1 => ?_)
  · skip
    exact absurd c_1 (nI_pos (by omega))
  · skip
    refine lv_iload_n hx hb d_X_run_4 rfl (lv_at hl 1 rfl) ?_
    refine lv_ldc (v := 65535) hx hb hown (hg _ gw_317) d_X_run_5 ?_
    refine lv_icmp_le (tgt := 20) hx hb d_X_run_7 (by decide) (fun c_2 => ?_) (fun c_2 => ?_)
    · skip
      refine lv_iload_n hx hb d_X_run_20 rfl (lv_at hl 1 rfl) ?_
      refine lv_istore_n (lv' := [(3, .int (nI n0)), (0, .ref x), (1, .int (nI n0)), (2, .int 0)]) hx hb d_X_run_21 rfl hl (by decide) rfl (fun ls hl => ?_)
      refine lv_aload_n hx hb d_X_run_22 rfl (lv_at hl 1 rfl) ?_
      refine va_get (D := D) (ci := 4) (v := .ref sw) (C := R_X) (T := T_X) (N := 10) hx hb hg in_X hown hK hP 0 rfl rfl 5 (by decide) (hg _ gw_121) (fun _ h9 => h9) rfl d_X_run_23 ?_
      refine va_getN (D := D) (ci := 3) (v := .int (nI pl)) (C := R_S) (T := T_S) (N := 4) hx hb hg in_S hown hK hP 1 rfl rfl 2 (by decide) (va_Nw.use rfl (hE.nw nw_104)) (fun _ h9 => h9) rfl d_X_run_26 ?_
      refine lv_istore (lv' := [(4, .int (nI pl)), (3, .int (nI n0)), (0, .ref x), (1, .int (nI n0)), (2, .int 0)]) hx hb d_X_run_29 hl (by decide) rfl (fun ls hl => ?_)
      refine lv_iconst (v := 0) hx hb d_X_run_31 (by decide) ?_
      refine lv_istore (lv' := [(5, .int 0), (4, .int (nI pl)), (3, .int (nI n0)), (0, .ref x), (1, .int (nI n0)), (2, .int 0)]) hx hb d_X_run_32 hl (by decide) rfl (fun ls hl => ?_)
      have tail : ∀ (ls : Array Slot), lv_has ls 8 [(5, .int (nI m0)), (4, .int (nI (rac pl m0))), (3, .int (nI (rrc n0 pl m0))), (0, .ref x), (1, .int (nI n0)), (2, .int 0)] → W p l e (headSpec (WSY y_X_run b_X_run 8 (some .int)) ({ frames := 6, cells := 1, slots := 6, locals := 110 })).room s m ([.ref x, .int (nI n0), .int 0] : List Value).toArray below meth c s.heap [] 0 0 (vx_MQ below QT (XT "java/lang/UnsupportedOperationException") ([.ref x, .int (nI n0), .int 0] : List Value).toArray s 1 6 (fun _ => False)) (F0 m 75 ls []) := by
        intro ls hl
        refine lv_iload hx hb d_X_run_75 (lv_at hl 1 rfl) ?_
        have hPc := hP.sub (ws' := []) [] rfl
        have hKc := hK.sub (tys' := []) [] rfl
        refine pci (va_runS (As := [.int (nI (rac pl m0))]) (rest := []) ⟨hx, hb, hml, hown, hg⟩ (c_X_widthOf l D tw (rac pl m0) (rac_lt hpl m0)) (va_cwS 1 hg (gS gw_319 gw_320 gw_1 gw_321) rfl rfl rfl (by decide +kernel) ⟨Nat.le_of_ble_eq_true rfl, Nat.le_of_ble_eq_true rfl⟩) ⟨fun a U g mk q => by obtain ⟨q0, qP, qK, qX⟩ := q; exact ⟨q0, qP, va_K.moved (u := U) (U := U.calling g mk a) (Vm.Alike.refl U.vm) qK, qX.blind⟩, fun U hU hW => ⟨rfl, by rw [hU]; exact hPc, va_K.moved hW.alike hKc, hE.call hS noF hU hW⟩⟩ rfl rfl hl.1 rfl (lv_room (Nat.le_of_ble_eq_true rfl)) d_X_run_77 (⟨Nat.le_of_ble_eq_true rfl, Nat.le_of_ble_eq_true rfl⟩)) ?_
        refine lv_istore (lv' := [(6, .int (nI (wdt (rac pl m0)))), (5, .int (nI m0)), (4, .int (nI (rac pl m0))), (3, .int (nI (rrc n0 pl m0))), (0, .ref x), (1, .int (nI n0)), (2, .int 0)]) hx hb d_X_run_80 hl (by decide) rfl (fun ls hl => ?_)
        refine lv_iload_n hx hb d_X_run_82 rfl (lv_at hl 6 rfl) ?_
        refine lv_if_eq (tgt := 93) hx hb d_X_run_83 (by decide) (fun c_3 => ?_) (fun c_3 => ?_)
        · skip
          refine lv_iload_n hx hb d_X_run_93 rfl (lv_at hl 6 rfl) ?_
          refine lv_if_eq (tgt := 102) hx hb d_X_run_94 (by decide) (fun c_4 => ?_) (fun c_4 => ?_)
          · skip
            refine lv_iload hx hb d_X_run_102 (lv_at hl 1 rfl) ?_
            refine lv_iconst (v := 1) hx hb d_X_run_104 (by decide) ?_
            refine lv_iadd hx hb d_X_run_105 ?_
            refine tpi (y := nI (m0 + 1)) (nI_1 m0) ?_
            refine lv_iload hx hb d_X_run_106 (lv_at hl 0 rfl) ?_
            refine lv_iadd hx hb d_X_run_108 ?_
            refine tpi (y := nI (m0 + 1 + wdt (rac pl m0))) (nI_add _ _) ?_
            refine lv_istore (lv' := [(7, .int (nI (m0 + 1 + wdt (rac pl m0)))), (6, .int (nI (wdt (rac pl m0)))), (5, .int (nI m0)), (4, .int (nI (rac pl m0))), (3, .int (nI (rrc n0 pl m0))), (0, .ref x), (1, .int (nI n0)), (2, .int 0)]) hx hb d_X_run_109 hl (by decide) rfl (fun ls hl => ?_)
            refine lv_aload_n hx hb d_X_run_111 rfl (lv_at hl 5 rfl) ?_
            refine va_get (D := D) (ci := 4) (v := .ref br) (C := R_X) (T := T_X) (N := 10) hx hb hg in_X hown hK hP 0 rfl rfl 7 (by decide) (hg _ gw_123) (fun _ h9 => h9) rfl d_X_run_112 ?_
            refine lv_iload hx hb d_X_run_115 (lv_at hl 0 rfl) ?_
            have hPc := hP.sub (ws' := [(br, .inr (1, [.ref ra, .int (nI u)])), (ra, .inl (cB, 6000, .inl f))]) [2, 3] rfl
            have hKc := hK.sub (tys' := [(cB, .byte)]) [0] rfl
            refine pci (va_runV (As := [.int (nI (m0 + 1 + wdt (rac pl m0)))]) (rest := []) ⟨hx, hb, hml, hown, hg⟩ (c_B_hasRoom l D br ra cB u f (m0 + 1 + wdt (rac pl m0)) (by omega) (by omega)) (cwV 1 hg (gV gw_277 gw_278 gw_279 gw_2 gw_280) rfl rfl rfl (by decide +kernel) ⟨Nat.le_of_ble_eq_true rfl, Nat.le_of_ble_eq_true rfl⟩) ⟨fun a U g mk q => by obtain ⟨q0, qP, qK⟩ := q; exact ⟨q0, qP, va_K.moved (u := U) (U := U.calling g mk a) (Vm.Alike.refl U.vm) qK⟩, va_recv hKc hPc (ci := 1) (q0 := 0) rfl rfl, fun U hU hW => ⟨rfl, by rw [hU]; exact hPc, va_K.moved hW.alike hKc⟩⟩ rfl rfl hl.1 rfl (lv_room (Nat.le_of_ble_eq_true rfl)) d_X_run_117 (⟨Nat.le_of_ble_eq_true rfl, Nat.le_of_ble_eq_true rfl⟩)) ?_
            refine tpi (y := 0) (if_neg hu) ?_
            refine lv_if_ne (tgt := 133) hx hb d_X_run_120 (by decide) (fun c_5 => ?_) (fun c_5 => ?_)
            · skip
              exact absurd rfl c_5
            · skip
              exact vx_throwS (A := fun _ => False) (cls := "java/lang/UnsupportedOperationException") (names := ["java/lang/RuntimeException", "java/lang/Exception"]) (text := "too many bits") hx hb hst hown (by decide) (by decide) (hg _ gw_281) (hg _ gw_12) hEX.st_89 hEX.at_UOE XG_UOE hEX.2.2.1 hEX.2.2.2 hS (hl.1.trans hml.symm) d_X_run_123 d_X_run_126 d_X_run_127 d_X_run_129 d_X_run_132 (fun x9 h9 => (hnt x9 h9).elim) (by decide) (Nat.le_of_ble_eq_true rfl) (by decide) (by decide) hlocks (fun t ht g1 g2 => ⟨(), trivial, rfl, g1, fun q9 h9 _ => g2 q9 h9⟩) (fun z9 h9 => by cases h9) (by decide) (by decide)
          · skip
            exact absurd rfl c_4
        · skip
          exact absurd rfl c_3
      have loop : ∀ (d j : Nat), j + d = m0 → ∀ (ls : Array Slot), lv_has ls 8 [(5, .int (nI j)), (4, .int (nI (rac pl j))), (3, .int (nI (rrc n0 pl j))), (0, .ref x), (1, .int (nI n0)), (2, .int 0)] → W p l e (headSpec (WSY y_X_run b_X_run 8 (some .int)) ({ frames := 6, cells := 1, slots := 6, locals := 110 })).room s m ([.ref x, .int (nI n0), .int 0] : List Value).toArray below meth c s.heap [] 0 0 (vx_MQ below QT (XT "java/lang/UnsupportedOperationException") ([.ref x, .int (nI n0), .int 0] : List Value).toArray s 1 6 (fun _ => False)) (F0 m 34 ls []) := by
        intro d
        induction d with
        | zero =>
          intro j hj ls hl
          obtain rfl : m0 = j := by omega
          have hwj := wdt_le (rac pl m0) (rac_lt hpl m0)
          have hpj := pw15 hwj
          have hrj := rrc_le n0 pl m0
          refine lv_iload hx hb d_X_run_34 (lv_at hl 0 rfl) ?_
          refine lv_ldc (v := 65535) hx hb hown (hg _ gw_317) d_X_run_36 ?_
          refine lv_icmp_ge (tgt := 75) hx hb d_X_run_38 (by decide) (fun c_6 => ?_) (fun c_6 => ?_)
          · skip
            exact absurd ((nI_leI (a := 65535) (by omega) (by omega)).mp c_6) (by omega)
          · skip
            refine lv_iload_n hx hb d_X_run_41 rfl (lv_at hl 2 rfl) ?_
            refine lv_iconst (v := 1) hx hb d_X_run_42 (by decide) ?_
            refine lv_iload hx hb d_X_run_43 (lv_at hl 1 rfl) ?_
            have hPc := hP.sub (ws' := []) [] rfl
            have hKc := hK.sub (tys' := []) [] rfl
            refine pci (va_runS (As := [.int (nI (rac pl m0))]) (rest := [.int 1, .int (nI (rrc n0 pl m0))]) ⟨hx, hb, hml, hown, hg⟩ (c_X_widthOf l D tw (rac pl m0) (rac_lt hpl m0)) (va_cwS 1 hg (gS gw_319 gw_320 gw_1 gw_321) rfl rfl rfl (by decide +kernel) ⟨Nat.le_of_ble_eq_true rfl, Nat.le_of_ble_eq_true rfl⟩) ⟨fun a U g mk q => by obtain ⟨q0, qP, qK, qX⟩ := q; exact ⟨q0, qP, va_K.moved (u := U) (U := U.calling g mk a) (Vm.Alike.refl U.vm) qK, qX.blind⟩, fun U hU hW => ⟨rfl, by rw [hU]; exact hPc, va_K.moved hW.alike hKc, hE.call hS noF hU hW⟩⟩ rfl rfl hl.1 rfl (lv_room (Nat.le_of_ble_eq_true rfl)) d_X_run_45 (⟨Nat.le_of_ble_eq_true rfl, Nat.le_of_ble_eq_true rfl⟩)) ?_
            refine lv_ishl hx hb d_X_run_48 ?_
            refine tpi (y := nI (2 ^ wdt (rac pl m0))) (sh1 (by omega)) ?_
            refine lv_icmp_lt (tgt := 75) hx hb d_X_run_49 (by decide) (fun c_7 => ?_) (fun c_7 => ?_)
            · skip
              exact tail ls (lv_sub hl [0, 1, 2, 3, 4, 5] rfl)
            · skip
              exact absurd ((nI_ltI (by omega) (by omega)).mpr hm2) c_7
        | succ d ih =>
          intro j hj ls hl
          have hwj := wdt_le (rac pl j) (rac_lt hpl j)
          have hpj := pw15 hwj
          have hrj := rrc_le n0 pl j
          refine lv_iload hx hb d_X_run_34 (lv_at hl 0 rfl) ?_
          refine lv_ldc (v := 65535) hx hb hown (hg _ gw_317) d_X_run_36 ?_
          refine lv_icmp_ge (tgt := 75) hx hb d_X_run_38 (by decide) (fun c_8 => ?_) (fun c_8 => ?_)
          · skip
            exact absurd ((nI_leI (a := 65535) (by omega) (by omega)).mp c_8) (by omega)
          · skip
            refine lv_iload_n hx hb d_X_run_41 rfl (lv_at hl 2 rfl) ?_
            refine lv_iconst (v := 1) hx hb d_X_run_42 (by decide) ?_
            refine lv_iload hx hb d_X_run_43 (lv_at hl 1 rfl) ?_
            have hPc := hP.sub (ws' := []) [] rfl
            have hKc := hK.sub (tys' := []) [] rfl
            refine pci (va_runS (As := [.int (nI (rac pl j))]) (rest := [.int 1, .int (nI (rrc n0 pl j))]) ⟨hx, hb, hml, hown, hg⟩ (c_X_widthOf l D tw (rac pl j) (rac_lt hpl j)) (va_cwS 1 hg (gS gw_319 gw_320 gw_1 gw_321) rfl rfl rfl (by decide +kernel) ⟨Nat.le_of_ble_eq_true rfl, Nat.le_of_ble_eq_true rfl⟩) ⟨fun a U g mk q => by obtain ⟨q0, qP, qK, qX⟩ := q; exact ⟨q0, qP, va_K.moved (u := U) (U := U.calling g mk a) (Vm.Alike.refl U.vm) qK, qX.blind⟩, fun U hU hW => ⟨rfl, by rw [hU]; exact hPc, va_K.moved hW.alike hKc, hE.call hS noF hU hW⟩⟩ rfl rfl hl.1 rfl (lv_room (Nat.le_of_ble_eq_true rfl)) d_X_run_45 (⟨Nat.le_of_ble_eq_true rfl, Nat.le_of_ble_eq_true rfl⟩)) ?_
            refine lv_ishl hx hb d_X_run_48 ?_
            refine tpi (y := nI (2 ^ wdt (rac pl j))) (sh1 (by omega)) ?_
            refine lv_icmp_lt (tgt := 75) hx hb d_X_run_49 (by decide) (fun c_9 => ?_) (fun c_9 => ?_)
            · skip
              exact absurd ((nI_ltI (by omega) (by omega)).mp c_9) (by have := hm1 j (by omega); omega)
            · skip
              refine lv_iload_n hx hb d_X_run_52 rfl (lv_at hl 2 rfl) ?_
              refine lv_iconst (v := 1) hx hb d_X_run_53 (by decide) ?_
              refine lv_iload hx hb d_X_run_54 (lv_at hl 1 rfl) ?_
              have hPc := hP.sub (ws' := []) [] rfl
              have hKc := hK.sub (tys' := []) [] rfl
              refine pci (va_runS (As := [.int (nI (rac pl j))]) (rest := [.int 1, .int (nI (rrc n0 pl j))]) ⟨hx, hb, hml, hown, hg⟩ (c_X_widthOf l D tw (rac pl j) (rac_lt hpl j)) (va_cwS 1 hg (gS gw_319 gw_320 gw_1 gw_321) rfl rfl rfl (by decide +kernel) ⟨Nat.le_of_ble_eq_true rfl, Nat.le_of_ble_eq_true rfl⟩) ⟨fun a U g mk q => by obtain ⟨q0, qP, qK, qX⟩ := q; exact ⟨q0, qP, va_K.moved (u := U) (U := U.calling g mk a) (Vm.Alike.refl U.vm) qK, qX.blind⟩, fun U hU hW => ⟨rfl, by rw [hU]; exact hPc, va_K.moved hW.alike hKc, hE.call hS noF hU hW⟩⟩ rfl rfl hl.1 rfl (lv_room (Nat.le_of_ble_eq_true rfl)) d_X_run_56 (⟨Nat.le_of_ble_eq_true rfl, Nat.le_of_ble_eq_true rfl⟩)) ?_
              refine lv_ishl hx hb d_X_run_59 ?_
              refine tpi (y := nI (2 ^ wdt (rac pl j))) (sh1 (by omega)) ?_
              refine lv_isub hx hb d_X_run_60 ?_
              refine tpi (y := nI (rrc n0 pl (j + 1))) (pk_sub (hm1 j (by omega))) ?_
              refine lv_istore_n (lv' := [(3, .int (nI (rrc n0 pl (j + 1)))), (5, .int (nI j)), (4, .int (nI (rac pl j))), (0, .ref x), (1, .int (nI n0)), (2, .int 0)]) hx hb d_X_run_61 rfl hl (by decide) rfl (fun ls hl => ?_)
              refine lv_iload hx hb d_X_run_62 (lv_at hl 2 rfl) ?_
              have hPc := hP.sub (ws' := []) [] rfl
              have hKc := hK.sub (tys' := []) [] rfl
              refine pci (va_runS (As := [.int (nI (rac pl j))]) (rest := []) ⟨hx, hb, hml, hown, hg⟩ (c_X_stepAbove l D tw (rac pl j) (rac_lt hpl j)) (va_cwS 1 hg (gS gw_324 gw_325 gw_1 gw_326) rfl rfl rfl (by decide +kernel) ⟨Nat.le_of_ble_eq_true rfl, Nat.le_of_ble_eq_true rfl⟩) ⟨fun a U g mk q => by obtain ⟨q0, qP, qK, qX⟩ := q; exact ⟨q0, qP, va_K.moved (u := U) (U := U.calling g mk a) (Vm.Alike.refl U.vm) qK, qX.blind⟩, fun U hU hW => ⟨rfl, by rw [hU]; exact hPc, va_K.moved hW.alike hKc, hE.call hS noF hU hW⟩⟩ rfl rfl hl.1 rfl (lv_room (Nat.le_of_ble_eq_true rfl)) d_X_run_64 (⟨Nat.le_of_ble_eq_true rfl, Nat.le_of_ble_eq_true rfl⟩)) ?_
              refine lv_istore (lv' := [(4, .int (nI (rac pl (j + 1)))), (3, .int (nI (rrc n0 pl (j + 1)))), (5, .int (nI j)), (0, .ref x), (1, .int (nI n0)), (2, .int 0)]) hx hb d_X_run_67 hl (by decide) rfl (fun ls hl => ?_)
              refine lv_iinc (v := nI (j + 1)) (lv' := [(5, .int (nI (j + 1))), (4, .int (nI (rac pl (j + 1)))), (3, .int (nI (rrc n0 pl (j + 1)))), (0, .ref x), (1, .int (nI n0)), (2, .int 0)]) hx hb d_X_run_69 hl (k := 2) rfl (nI_1 j) (by decide) rfl (fun ls hl => ?_)
              refine lv_goto (tgt := 34) hx hb d_X_run_72 (by decide) ?_
              exact ih (j + 1) (by omega) ls (lv_sub hl [0, 1, 2, 3, 4, 5] rfl)
      exact loop m0 0 (by omega) ls hl
    · skip
      exact absurd (nI_le hn (by omega)) c_2
set_option maxHeartbeats 4000000 in
set_option maxRecDepth 100000 in
theorem t_X_runU1 (l : Launch) (hst : l.stackTraces = false) (D : va_G) (tw : Nat) (sa : Nat → Nat) (x sw sr br bq bi ne li sp q : Nat) (lb : Int32) (e0 e1 pl rw ra : Nat) (cB : ClassId) (u : Nat) (f : Nat → Int32) (n0 m0 : Nat) (hpl : pl < 32) (hn : n0 ≤ 65535) (hm1 : ∀ j, j < m0 → 2 ^ wdt (rac pl j) ≤ rrc n0 pl j) (hm2 : rrc n0 pl m0 < 2 ^ wdt (rac pl m0)) (hm3 : m0 ≤ 40) (hu6 : u ≤ 6000) (hu : ¬ u + ((if 0 < rrc n0 pl m0 then m0 + 1 else m0)) ≤ 6000) : vx_Met l y_X_run (WSY y_X_run b_X_run 8 (some .int)) ({ frames := 6, cells := 1, slots := 6, locals := 110 }) (va_Pc [.ref x, .int (nI n0), .int 1] (fun U => va_P D CLS [(x, .inr (4, [.int (nI bi), .int (nI ne), .int (nI li), .int (nI sp), .int (nI q), .ref sw, .ref sr, .ref br, .ref bq, .int lb])), (sw, .inr (3, [.ref e0, .ref e1, .int (nI pl), .int (nI rw)])), (br, .inr (1, [.ref ra, .int (nI u)])), (ra, .inl (cB, 6000, .inl f))] U.heap ∧ va_K D CLS [(cB, .byte)] U ∧ EV (fun _ => False) tw U ∧ EX (fun _ => False) sa U)) QT (XT "java/lang/UnsupportedOperationException") 1 6 (fun _ => False) := by
  refine vx_ofW (cc := b_X_run) (maxL := 8) (ret := (some .int)) (by decide) rfl ?_
  intro p e s m args below meth c s₁ B hml hnt hv
  obtain ⟨rfl, hP, hK, hE, hEX⟩ := hv
  have hx := B.exec
  have hb := B.bytes
  have hr := B.returns
  have hts := atoms_spec (ws := WSY y_X_run b_X_run 8 (some .int)) B.pre
  have hg : ∀ w ∈ GW, w.before _ s = true := fun w h => hts w (List.mem_cons_of_mem _ h)
  have hown : s.vm.findClass "LineGolomb" = some m.cls := findClass_of_methodNamed B.named
  have hlocks := B.notSynchronized
  have hS : va_S (fun _ => False) s.heap s.heap [] := va_S.rf
  have hl := lv_entry ([.ref x, .int (nI n0), .int 1]) (n := 8) (Nat.le_of_ble_eq_true rfl)
  rw [lg_entry_eq]
  generalize (lg_sl ([.ref x, .int (nI n0), .int 1]) ++ List.replicate (8 - (lg_sl ([.ref x, .int (nI n0), .int 1])).length) Slot.unset).toArray = ls at hl ⊢
  have hl : lv_has ls 8 [(0, .ref x), (1, .int (nI n0)), (2, .int 1)] := hl
  have hwd := wdt_le (rac pl m0) (rac_lt hpl m0)
  have hrl := rrc_le n0 pl m0
  refine lv_iload_n hx hb d_X_run_0 rfl (lv_at hl 1 rfl) ?_
  refine lv_if_lt (tgt := 10) hx hb d_X_run_1 (by decide) (fun c_1 => ?_) (fun c_1 => ?_)
  · skip
    exact absurd c_1 (nI_pos (by omega))
  · skip
    refine lv_iload_n hx hb d_X_run_4 rfl (lv_at hl 1 rfl) ?_
    refine lv_ldc (v := 65535) hx hb hown (hg _ gw_317) d_X_run_5 ?_
    refine lv_icmp_le (tgt := 20) hx hb d_X_run_7 (by decide) (fun c_2 => ?_) (fun c_2 => ?_)
    · skip
      refine lv_iload_n hx hb d_X_run_20 rfl (lv_at hl 1 rfl) ?_
      refine lv_istore_n (lv' := [(3, .int (nI n0)), (0, .ref x), (1, .int (nI n0)), (2, .int 1)]) hx hb d_X_run_21 rfl hl (by decide) rfl (fun ls hl => ?_)
      refine lv_aload_n hx hb d_X_run_22 rfl (lv_at hl 1 rfl) ?_
      refine va_get (D := D) (ci := 4) (v := .ref sw) (C := R_X) (T := T_X) (N := 10) hx hb hg in_X hown hK hP 0 rfl rfl 5 (by decide) (hg _ gw_121) (fun _ h9 => h9) rfl d_X_run_23 ?_
      refine va_getN (D := D) (ci := 3) (v := .int (nI pl)) (C := R_S) (T := T_S) (N := 4) hx hb hg in_S hown hK hP 1 rfl rfl 2 (by decide) (va_Nw.use rfl (hE.nw nw_104)) (fun _ h9 => h9) rfl d_X_run_26 ?_
      refine lv_istore (lv' := [(4, .int (nI pl)), (3, .int (nI n0)), (0, .ref x), (1, .int (nI n0)), (2, .int 1)]) hx hb d_X_run_29 hl (by decide) rfl (fun ls hl => ?_)
      refine lv_iconst (v := 0) hx hb d_X_run_31 (by decide) ?_
      refine lv_istore (lv' := [(5, .int 0), (4, .int (nI pl)), (3, .int (nI n0)), (0, .ref x), (1, .int (nI n0)), (2, .int 1)]) hx hb d_X_run_32 hl (by decide) rfl (fun ls hl => ?_)
      have tail : ∀ (ls : Array Slot), lv_has ls 8 [(5, .int (nI m0)), (4, .int (nI (rac pl m0))), (3, .int (nI (rrc n0 pl m0))), (0, .ref x), (1, .int (nI n0)), (2, .int 1)] → W p l e (headSpec (WSY y_X_run b_X_run 8 (some .int)) ({ frames := 6, cells := 1, slots := 6, locals := 110 })).room s m ([.ref x, .int (nI n0), .int 1] : List Value).toArray below meth c s.heap [] 0 0 (vx_MQ below QT (XT "java/lang/UnsupportedOperationException") ([.ref x, .int (nI n0), .int 1] : List Value).toArray s 1 6 (fun _ => False)) (F0 m 75 ls []) := by
        intro ls hl
        refine lv_iload hx hb d_X_run_75 (lv_at hl 1 rfl) ?_
        have hPc := hP.sub (ws' := []) [] rfl
        have hKc := hK.sub (tys' := []) [] rfl
        refine pci (va_runS (As := [.int (nI (rac pl m0))]) (rest := []) ⟨hx, hb, hml, hown, hg⟩ (c_X_widthOf l D tw (rac pl m0) (rac_lt hpl m0)) (va_cwS 1 hg (gS gw_319 gw_320 gw_1 gw_321) rfl rfl rfl (by decide +kernel) ⟨Nat.le_of_ble_eq_true rfl, Nat.le_of_ble_eq_true rfl⟩) ⟨fun a U g mk q => by obtain ⟨q0, qP, qK, qX⟩ := q; exact ⟨q0, qP, va_K.moved (u := U) (U := U.calling g mk a) (Vm.Alike.refl U.vm) qK, qX.blind⟩, fun U hU hW => ⟨rfl, by rw [hU]; exact hPc, va_K.moved hW.alike hKc, hE.call hS noF hU hW⟩⟩ rfl rfl hl.1 rfl (lv_room (Nat.le_of_ble_eq_true rfl)) d_X_run_77 (⟨Nat.le_of_ble_eq_true rfl, Nat.le_of_ble_eq_true rfl⟩)) ?_
        refine lv_istore (lv' := [(6, .int (nI (wdt (rac pl m0)))), (5, .int (nI m0)), (4, .int (nI (rac pl m0))), (3, .int (nI (rrc n0 pl m0))), (0, .ref x), (1, .int (nI n0)), (2, .int 1)]) hx hb d_X_run_80 hl (by decide) rfl (fun ls hl => ?_)
        refine lv_iload_n hx hb d_X_run_82 rfl (lv_at hl 6 rfl) ?_
        refine lv_if_eq (tgt := 93) hx hb d_X_run_83 (by decide) (fun c_3 => ?_) (fun c_3 => ?_)
        · skip
          exact absurd c_3 (by decide)
        · skip
          refine lv_iload_n hx hb d_X_run_86 rfl (lv_at hl 3 rfl) ?_
          refine lv_if_le (tgt := 93) hx hb d_X_run_87 (by decide) (fun c_4 => ?_) (fun c_4 => ?_)
          · skip
            have hr0 : ¬ 0 < rrc n0 pl m0 := fun q9 => nI_nle q9 (by omega) c_4
            have hln : (if 0 < rrc n0 pl m0 then m0 + 1 else m0) = m0 := if_neg hr0
            refine lv_iload_n hx hb d_X_run_93 rfl (lv_at hl 6 rfl) ?_
            refine lv_if_eq (tgt := 102) hx hb d_X_run_94 (by decide) (fun c_5 => ?_) (fun c_5 => ?_)
            · skip
              exact absurd c_5 (by decide)
            · skip
              refine lv_iload hx hb d_X_run_97 (lv_at hl 1 rfl) ?_
              refine lv_goto (tgt := 109) hx hb d_X_run_99 (by decide) ?_
              refine tpi (y := nI ((if 0 < rrc n0 pl m0 then m0 + 1 else m0))) (by rw [hln]) ?_
              refine lv_istore (lv' := [(7, .int (nI ((if 0 < rrc n0 pl m0 then m0 + 1 else m0)))), (6, .int (nI (wdt (rac pl m0)))), (5, .int (nI m0)), (4, .int (nI (rac pl m0))), (3, .int (nI (rrc n0 pl m0))), (0, .ref x), (1, .int (nI n0)), (2, .int 1)]) hx hb d_X_run_109 hl (by decide) rfl (fun ls hl => ?_)
              refine lv_aload_n hx hb d_X_run_111 rfl (lv_at hl 5 rfl) ?_
              refine va_get (D := D) (ci := 4) (v := .ref br) (C := R_X) (T := T_X) (N := 10) hx hb hg in_X hown hK hP 0 rfl rfl 7 (by decide) (hg _ gw_123) (fun _ h9 => h9) rfl d_X_run_112 ?_
              refine lv_iload hx hb d_X_run_115 (lv_at hl 0 rfl) ?_
              have hPc := hP.sub (ws' := [(br, .inr (1, [.ref ra, .int (nI u)])), (ra, .inl (cB, 6000, .inl f))]) [2, 3] rfl
              have hKc := hK.sub (tys' := [(cB, .byte)]) [0] rfl
              refine pci (va_runV (As := [.int (nI ((if 0 < rrc n0 pl m0 then m0 + 1 else m0)))]) (rest := []) ⟨hx, hb, hml, hown, hg⟩ (c_B_hasRoom l D br ra cB u f ((if 0 < rrc n0 pl m0 then m0 + 1 else m0)) (by omega) (by omega)) (cwV 1 hg (gV gw_277 gw_278 gw_279 gw_2 gw_280) rfl rfl rfl (by decide +kernel) ⟨Nat.le_of_ble_eq_true rfl, Nat.le_of_ble_eq_true rfl⟩) ⟨fun a U g mk q => by obtain ⟨q0, qP, qK⟩ := q; exact ⟨q0, qP, va_K.moved (u := U) (U := U.calling g mk a) (Vm.Alike.refl U.vm) qK⟩, va_recv hKc hPc (ci := 1) (q0 := 0) rfl rfl, fun U hU hW => ⟨rfl, by rw [hU]; exact hPc, va_K.moved hW.alike hKc⟩⟩ rfl rfl hl.1 rfl (lv_room (Nat.le_of_ble_eq_true rfl)) d_X_run_117 (⟨Nat.le_of_ble_eq_true rfl, Nat.le_of_ble_eq_true rfl⟩)) ?_
              refine tpi (y := 0) (if_neg hu) ?_
              refine lv_if_ne (tgt := 133) hx hb d_X_run_120 (by decide) (fun c_6 => ?_) (fun c_6 => ?_)
              · skip
                exact absurd rfl c_6
              · skip
                exact vx_throwS (A := fun _ => False) (cls := "java/lang/UnsupportedOperationException") (names := ["java/lang/RuntimeException", "java/lang/Exception"]) (text := "too many bits") hx hb hst hown (by decide) (by decide) (hg _ gw_281) (hg _ gw_12) hEX.st_89 hEX.at_UOE XG_UOE hEX.2.2.1 hEX.2.2.2 hS (hl.1.trans hml.symm) d_X_run_123 d_X_run_126 d_X_run_127 d_X_run_129 d_X_run_132 (fun x9 h9 => (hnt x9 h9).elim) (by decide) (Nat.le_of_ble_eq_true rfl) (by decide) (by decide) hlocks (fun t ht g1 g2 => ⟨(), trivial, rfl, g1, fun q9 h9 _ => g2 q9 h9⟩) (fun z9 h9 => by cases h9) (by decide) (by decide)
          · skip
            have hr0 : 0 < rrc n0 pl m0 := Nat.pos_of_ne_zero (fun q9 => c_4 (by rw [q9]; decide))
            have hln : (if 0 < rrc n0 pl m0 then m0 + 1 else m0) = m0 + 1 := if_pos hr0
            refine lv_iinc (v := nI (m0 + 1)) (lv' := [(5, .int (nI (m0 + 1))), (6, .int (nI (wdt (rac pl m0)))), (4, .int (nI (rac pl m0))), (3, .int (nI (rrc n0 pl m0))), (0, .ref x), (1, .int (nI n0)), (2, .int 1)]) hx hb d_X_run_90 hl (k := 1) rfl (nI_1 m0) (by decide) rfl (fun ls hl => ?_)
            refine lv_iload_n hx hb d_X_run_93 rfl (lv_at hl 6 rfl) ?_
            refine lv_if_eq (tgt := 102) hx hb d_X_run_94 (by decide) (fun c_7 => ?_) (fun c_7 => ?_)
            · skip
              exact absurd c_7 (by decide)
            · skip
              refine lv_iload hx hb d_X_run_97 (lv_at hl 0 rfl) ?_
              refine lv_goto (tgt := 109) hx hb d_X_run_99 (by decide) ?_
              refine tpi (y := nI ((if 0 < rrc n0 pl m0 then m0 + 1 else m0))) (by rw [hln]) ?_
              refine lv_istore (lv' := [(7, .int (nI ((if 0 < rrc n0 pl m0 then m0 + 1 else m0)))), (5, .int (nI (m0 + 1))), (6, .int (nI (wdt (rac pl m0)))), (4, .int (nI (rac pl m0))), (3, .int (nI (rrc n0 pl m0))), (0, .ref x), (1, .int (nI n0)), (2, .int 1)]) hx hb d_X_run_109 hl (by decide) rfl (fun ls hl => ?_)
              refine lv_aload_n hx hb d_X_run_111 rfl (lv_at hl 5 rfl) ?_
              refine va_get (D := D) (ci := 4) (v := .ref br) (C := R_X) (T := T_X) (N := 10) hx hb hg in_X hown hK hP 0 rfl rfl 7 (by decide) (hg _ gw_123) (fun _ h9 => h9) rfl d_X_run_112 ?_
              refine lv_iload hx hb d_X_run_115 (lv_at hl 0 rfl) ?_
              have hPc := hP.sub (ws' := [(br, .inr (1, [.ref ra, .int (nI u)])), (ra, .inl (cB, 6000, .inl f))]) [2, 3] rfl
              have hKc := hK.sub (tys' := [(cB, .byte)]) [0] rfl
              refine pci (va_runV (As := [.int (nI ((if 0 < rrc n0 pl m0 then m0 + 1 else m0)))]) (rest := []) ⟨hx, hb, hml, hown, hg⟩ (c_B_hasRoom l D br ra cB u f ((if 0 < rrc n0 pl m0 then m0 + 1 else m0)) (by omega) (by omega)) (cwV 1 hg (gV gw_277 gw_278 gw_279 gw_2 gw_280) rfl rfl rfl (by decide +kernel) ⟨Nat.le_of_ble_eq_true rfl, Nat.le_of_ble_eq_true rfl⟩) ⟨fun a U g mk q => by obtain ⟨q0, qP, qK⟩ := q; exact ⟨q0, qP, va_K.moved (u := U) (U := U.calling g mk a) (Vm.Alike.refl U.vm) qK⟩, va_recv hKc hPc (ci := 1) (q0 := 0) rfl rfl, fun U hU hW => ⟨rfl, by rw [hU]; exact hPc, va_K.moved hW.alike hKc⟩⟩ rfl rfl hl.1 rfl (lv_room (Nat.le_of_ble_eq_true rfl)) d_X_run_117 (⟨Nat.le_of_ble_eq_true rfl, Nat.le_of_ble_eq_true rfl⟩)) ?_
              refine tpi (y := 0) (if_neg hu) ?_
              refine lv_if_ne (tgt := 133) hx hb d_X_run_120 (by decide) (fun c_8 => ?_) (fun c_8 => ?_)
              · skip
                exact absurd rfl c_8
              · skip
                exact vx_throwS (A := fun _ => False) (cls := "java/lang/UnsupportedOperationException") (names := ["java/lang/RuntimeException", "java/lang/Exception"]) (text := "too many bits") hx hb hst hown (by decide) (by decide) (hg _ gw_281) (hg _ gw_12) hEX.st_89 hEX.at_UOE XG_UOE hEX.2.2.1 hEX.2.2.2 hS (hl.1.trans hml.symm) d_X_run_123 d_X_run_126 d_X_run_127 d_X_run_129 d_X_run_132 (fun x9 h9 => (hnt x9 h9).elim) (by decide) (Nat.le_of_ble_eq_true rfl) (by decide) (by decide) hlocks (fun t ht g1 g2 => ⟨(), trivial, rfl, g1, fun q9 h9 _ => g2 q9 h9⟩) (fun z9 h9 => by cases h9) (by decide) (by decide)
      have loop : ∀ (d j : Nat), j + d = m0 → ∀ (ls : Array Slot), lv_has ls 8 [(5, .int (nI j)), (4, .int (nI (rac pl j))), (3, .int (nI (rrc n0 pl j))), (0, .ref x), (1, .int (nI n0)), (2, .int 1)] → W p l e (headSpec (WSY y_X_run b_X_run 8 (some .int)) ({ frames := 6, cells := 1, slots := 6, locals := 110 })).room s m ([.ref x, .int (nI n0), .int 1] : List Value).toArray below meth c s.heap [] 0 0 (vx_MQ below QT (XT "java/lang/UnsupportedOperationException") ([.ref x, .int (nI n0), .int 1] : List Value).toArray s 1 6 (fun _ => False)) (F0 m 34 ls []) := by
        intro d
        induction d with
        | zero =>
          intro j hj ls hl
          obtain rfl : m0 = j := by omega
          have hwj := wdt_le (rac pl m0) (rac_lt hpl m0)
          have hpj := pw15 hwj
          have hrj := rrc_le n0 pl m0
          refine lv_iload hx hb d_X_run_34 (lv_at hl 0 rfl) ?_
          refine lv_ldc (v := 65535) hx hb hown (hg _ gw_317) d_X_run_36 ?_
          refine lv_icmp_ge (tgt := 75) hx hb d_X_run_38 (by decide) (fun c_9 => ?_) (fun c_9 => ?_)
          · skip
            exact absurd ((nI_leI (a := 65535) (by omega) (by omega)).mp c_9) (by omega)
          · skip
            refine lv_iload_n hx hb d_X_run_41 rfl (lv_at hl 2 rfl) ?_
            refine lv_iconst (v := 1) hx hb d_X_run_42 (by decide) ?_
            refine lv_iload hx hb d_X_run_43 (lv_at hl 1 rfl) ?_
            have hPc := hP.sub (ws' := []) [] rfl
            have hKc := hK.sub (tys' := []) [] rfl
            refine pci (va_runS (As := [.int (nI (rac pl m0))]) (rest := [.int 1, .int (nI (rrc n0 pl m0))]) ⟨hx, hb, hml, hown, hg⟩ (c_X_widthOf l D tw (rac pl m0) (rac_lt hpl m0)) (va_cwS 1 hg (gS gw_319 gw_320 gw_1 gw_321) rfl rfl rfl (by decide +kernel) ⟨Nat.le_of_ble_eq_true rfl, Nat.le_of_ble_eq_true rfl⟩) ⟨fun a U g mk q => by obtain ⟨q0, qP, qK, qX⟩ := q; exact ⟨q0, qP, va_K.moved (u := U) (U := U.calling g mk a) (Vm.Alike.refl U.vm) qK, qX.blind⟩, fun U hU hW => ⟨rfl, by rw [hU]; exact hPc, va_K.moved hW.alike hKc, hE.call hS noF hU hW⟩⟩ rfl rfl hl.1 rfl (lv_room (Nat.le_of_ble_eq_true rfl)) d_X_run_45 (⟨Nat.le_of_ble_eq_true rfl, Nat.le_of_ble_eq_true rfl⟩)) ?_
            refine lv_ishl hx hb d_X_run_48 ?_
            refine tpi (y := nI (2 ^ wdt (rac pl m0))) (sh1 (by omega)) ?_
            refine lv_icmp_lt (tgt := 75) hx hb d_X_run_49 (by decide) (fun c_10 => ?_) (fun c_10 => ?_)
            · skip
              exact tail ls (lv_sub hl [0, 1, 2, 3, 4, 5] rfl)
            · skip
              exact absurd ((nI_ltI (by omega) (by omega)).mpr hm2) c_10
        | succ d ih =>
          intro j hj ls hl
          have hwj := wdt_le (rac pl j) (rac_lt hpl j)
          have hpj := pw15 hwj
          have hrj := rrc_le n0 pl j
          refine lv_iload hx hb d_X_run_34 (lv_at hl 0 rfl) ?_
          refine lv_ldc (v := 65535) hx hb hown (hg _ gw_317) d_X_run_36 ?_
          refine lv_icmp_ge (tgt := 75) hx hb d_X_run_38 (by decide) (fun c_11 => ?_) (fun c_11 => ?_)
          · skip
            exact absurd ((nI_leI (a := 65535) (by omega) (by omega)).mp c_11) (by omega)
          · skip
            refine lv_iload_n hx hb d_X_run_41 rfl (lv_at hl 2 rfl) ?_
            refine lv_iconst (v := 1) hx hb d_X_run_42 (by decide) ?_
            refine lv_iload hx hb d_X_run_43 (lv_at hl 1 rfl) ?_
            have hPc := hP.sub (ws' := []) [] rfl
            have hKc := hK.sub (tys' := []) [] rfl
            refine pci (va_runS (As := [.int (nI (rac pl j))]) (rest := [.int 1, .int (nI (rrc n0 pl j))]) ⟨hx, hb, hml, hown, hg⟩ (c_X_widthOf l D tw (rac pl j) (rac_lt hpl j)) (va_cwS 1 hg (gS gw_319 gw_320 gw_1 gw_321) rfl rfl rfl (by decide +kernel) ⟨Nat.le_of_ble_eq_true rfl, Nat.le_of_ble_eq_true rfl⟩) ⟨fun a U g mk q => by obtain ⟨q0, qP, qK, qX⟩ := q; exact ⟨q0, qP, va_K.moved (u := U) (U := U.calling g mk a) (Vm.Alike.refl U.vm) qK, qX.blind⟩, fun U hU hW => ⟨rfl, by rw [hU]; exact hPc, va_K.moved hW.alike hKc, hE.call hS noF hU hW⟩⟩ rfl rfl hl.1 rfl (lv_room (Nat.le_of_ble_eq_true rfl)) d_X_run_45 (⟨Nat.le_of_ble_eq_true rfl, Nat.le_of_ble_eq_true rfl⟩)) ?_
            refine lv_ishl hx hb d_X_run_48 ?_
            refine tpi (y := nI (2 ^ wdt (rac pl j))) (sh1 (by omega)) ?_
            refine lv_icmp_lt (tgt := 75) hx hb d_X_run_49 (by decide) (fun c_12 => ?_) (fun c_12 => ?_)
            · skip
              exact absurd ((nI_ltI (by omega) (by omega)).mp c_12) (by have := hm1 j (by omega); omega)
            · skip
              refine lv_iload_n hx hb d_X_run_52 rfl (lv_at hl 2 rfl) ?_
              refine lv_iconst (v := 1) hx hb d_X_run_53 (by decide) ?_
              refine lv_iload hx hb d_X_run_54 (lv_at hl 1 rfl) ?_
              have hPc := hP.sub (ws' := []) [] rfl
              have hKc := hK.sub (tys' := []) [] rfl
              refine pci (va_runS (As := [.int (nI (rac pl j))]) (rest := [.int 1, .int (nI (rrc n0 pl j))]) ⟨hx, hb, hml, hown, hg⟩ (c_X_widthOf l D tw (rac pl j) (rac_lt hpl j)) (va_cwS 1 hg (gS gw_319 gw_320 gw_1 gw_321) rfl rfl rfl (by decide +kernel) ⟨Nat.le_of_ble_eq_true rfl, Nat.le_of_ble_eq_true rfl⟩) ⟨fun a U g mk q => by obtain ⟨q0, qP, qK, qX⟩ := q; exact ⟨q0, qP, va_K.moved (u := U) (U := U.calling g mk a) (Vm.Alike.refl U.vm) qK, qX.blind⟩, fun U hU hW => ⟨rfl, by rw [hU]; exact hPc, va_K.moved hW.alike hKc, hE.call hS noF hU hW⟩⟩ rfl rfl hl.1 rfl (lv_room (Nat.le_of_ble_eq_true rfl)) d_X_run_56 (⟨Nat.le_of_ble_eq_true rfl, Nat.le_of_ble_eq_true rfl⟩)) ?_
              refine lv_ishl hx hb d_X_run_59 ?_
              refine tpi (y := nI (2 ^ wdt (rac pl j))) (sh1 (by omega)) ?_
              refine lv_isub hx hb d_X_run_60 ?_
              refine tpi (y := nI (rrc n0 pl (j + 1))) (pk_sub (hm1 j (by omega))) ?_
              refine lv_istore_n (lv' := [(3, .int (nI (rrc n0 pl (j + 1)))), (5, .int (nI j)), (4, .int (nI (rac pl j))), (0, .ref x), (1, .int (nI n0)), (2, .int 1)]) hx hb d_X_run_61 rfl hl (by decide) rfl (fun ls hl => ?_)
              refine lv_iload hx hb d_X_run_62 (lv_at hl 2 rfl) ?_
              have hPc := hP.sub (ws' := []) [] rfl
              have hKc := hK.sub (tys' := []) [] rfl
              refine pci (va_runS (As := [.int (nI (rac pl j))]) (rest := []) ⟨hx, hb, hml, hown, hg⟩ (c_X_stepAbove l D tw (rac pl j) (rac_lt hpl j)) (va_cwS 1 hg (gS gw_324 gw_325 gw_1 gw_326) rfl rfl rfl (by decide +kernel) ⟨Nat.le_of_ble_eq_true rfl, Nat.le_of_ble_eq_true rfl⟩) ⟨fun a U g mk q => by obtain ⟨q0, qP, qK, qX⟩ := q; exact ⟨q0, qP, va_K.moved (u := U) (U := U.calling g mk a) (Vm.Alike.refl U.vm) qK, qX.blind⟩, fun U hU hW => ⟨rfl, by rw [hU]; exact hPc, va_K.moved hW.alike hKc, hE.call hS noF hU hW⟩⟩ rfl rfl hl.1 rfl (lv_room (Nat.le_of_ble_eq_true rfl)) d_X_run_64 (⟨Nat.le_of_ble_eq_true rfl, Nat.le_of_ble_eq_true rfl⟩)) ?_
              refine lv_istore (lv' := [(4, .int (nI (rac pl (j + 1)))), (3, .int (nI (rrc n0 pl (j + 1)))), (5, .int (nI j)), (0, .ref x), (1, .int (nI n0)), (2, .int 1)]) hx hb d_X_run_67 hl (by decide) rfl (fun ls hl => ?_)
              refine lv_iinc (v := nI (j + 1)) (lv' := [(5, .int (nI (j + 1))), (4, .int (nI (rac pl (j + 1)))), (3, .int (nI (rrc n0 pl (j + 1)))), (0, .ref x), (1, .int (nI n0)), (2, .int 1)]) hx hb d_X_run_69 hl (k := 2) rfl (nI_1 j) (by decide) rfl (fun ls hl => ?_)
              refine lv_goto (tgt := 34) hx hb d_X_run_72 (by decide) ?_
              exact ih (j + 1) (by omega) ls (lv_sub hl [0, 1, 2, 3, 4, 5] rfl)
      exact loop m0 0 (by omega) ls hl
    · skip
      exact absurd (nI_le hn (by omega)) c_2
set_option maxHeartbeats 4000000 in
set_option maxRecDepth 100000 in
theorem t_X_interruptI (l : Launch) (hst : l.stackTraces = false) (D : va_G) (tw : Nat) (sa : Nat → Nat) (x sw sr br bq bi ne li sp q : Nat) (lb : Int32) (k0 v0 v1 : Int32) (hbad : ¬ (k0 = 0 ∨ k0 = 1)) : vx_Met l y_X_interrupt (WSY y_X_interrupt b_X_interrupt 8 (some .int)) ({ frames := 6, cells := 1, slots := 6, locals := 110 }) (va_Pc [.ref x, .int k0, .int v0] (fun U => va_P D CLS [(x, .inr (4, [.int (nI bi), .int (nI ne), .int (nI li), .int (nI sp), .int (nI q), .ref sw, .ref sr, .ref br, .ref bq, .int lb]))] U.heap ∧ va_K D CLS [] U ∧ EV (fun _ => False) tw U ∧ EX (fun _ => False) sa U)) QT (XT "java/lang/IndexOutOfBoundsException") 1 6 (fun _ => False) := by
  refine vx_ofW (cc := b_X_interrupt) (maxL := 8) (ret := (some .int)) (by decide) rfl ?_
  intro p e s m args below meth c s₁ B hml hnt hv
  obtain ⟨rfl, hP, hK, hE, hEX⟩ := hv
  have hx := B.exec
  have hb := B.bytes
  have hr := B.returns
  have hts := atoms_spec (ws := WSY y_X_interrupt b_X_interrupt 8 (some .int)) B.pre
  have hg : ∀ w ∈ GW, w.before _ s = true := fun w h => hts w (List.mem_cons_of_mem _ h)
  have hown : s.vm.findClass "LineGolomb" = some m.cls := findClass_of_methodNamed B.named
  have hlocks := B.notSynchronized
  have hS : va_S (fun _ => False) s.heap s.heap [] := va_S.rf
  have hl := lv_entry ([.ref x, .int k0, .int v0]) (n := 8) (Nat.le_of_ble_eq_true rfl)
  rw [lg_entry_eq]
  generalize (lg_sl ([.ref x, .int k0, .int v0]) ++ List.replicate (8 - (lg_sl ([.ref x, .int k0, .int v0])).length) Slot.unset).toArray = ls at hl ⊢
  have hl : lv_has ls 8 [(0, .ref x), (1, .int k0), (2, .int v0)] := hl
  refine lv_iload_n hx hb d_X_interrupt_0 rfl (lv_at hl 1 rfl) ?_
  have hPc := hP.sub (ws' := []) [] rfl
  have hKc := hK.sub (tys' := []) [] rfl
  refine pci (va_runS (As := [.int k0]) (rest := []) ⟨hx, hb, hml, hown, hg⟩ (c_X_isKind l D k0) (va_cwS 1 hg (gS gw_343 gw_344 gw_1 gw_345) rfl rfl rfl (by decide +kernel) ⟨Nat.le_of_ble_eq_true rfl, Nat.le_of_ble_eq_true rfl⟩) ⟨fun a U g mk q => by obtain ⟨q0, qP, qK⟩ := q; exact ⟨q0, qP, va_K.moved (u := U) (U := U.calling g mk a) (Vm.Alike.refl U.vm) qK⟩, fun U hU hW => ⟨rfl, by rw [hU]; exact hPc, va_K.moved hW.alike hKc⟩⟩ rfl rfl hl.1 rfl (lv_room (Nat.le_of_ble_eq_true rfl)) d_X_interrupt_1 (⟨Nat.le_of_ble_eq_true rfl, Nat.le_of_ble_eq_true rfl⟩)) ?_
  refine tpi (y := 0) (if_neg hbad) ?_
  refine lv_if_ne (tgt := 17) hx hb d_X_interrupt_4 (by decide) (fun c_1 => ?_) (fun c_1 => ?_)
  · skip
    exact absurd rfl c_1
  · skip
    exact vx_throwS (A := fun _ => False) (cls := "java/lang/IndexOutOfBoundsException") (names := ["java/lang/RuntimeException", "java/lang/Exception"]) (text := "no such kind") hx hb hst hown (by decide) (by decide) (hg _ gw_346) (hg _ gw_13) hEX.st_124 hEX.at_IOE XG_IOE hEX.2.2.1 hEX.2.2.2 hS (hl.1.trans hml.symm) d_X_interrupt_7 d_X_interrupt_10 d_X_interrupt_11 d_X_interrupt_13 d_X_interrupt_16 (fun x9 h9 => (hnt x9 h9).elim) (by decide) (Nat.le_of_ble_eq_true rfl) (by decide) (by decide) hlocks (fun t ht g1 g2 => ⟨(), trivial, rfl, g1, fun q9 h9 _ => g2 q9 h9⟩) (fun z9 h9 => by cases h9) (by decide) (by decide)
set_option maxHeartbeats 4000000 in
set_option maxRecDepth 100000 in
theorem t_X_readInterruptI (l : Launch) (hst : l.stackTraces = false) (D : va_G) (tw : Nat) (sa : Nat → Nat) (x sw sr br bq bi ne li sp q : Nat) (lb : Int32) (k0 v0 v1 : Int32) (hbad : ¬ (k0 = 0 ∨ k0 = 1)) : vx_Met l y_X_readInterrupt (WSY y_X_readInterrupt b_X_readInterrupt 6 (some .int)) ({ frames := 6, cells := 1, slots := 6, locals := 110 }) (va_Pc [.ref x, .int k0] (fun U => va_P D CLS [(x, .inr (4, [.int (nI bi), .int (nI ne), .int (nI li), .int (nI sp), .int (nI q), .ref sw, .ref sr, .ref br, .ref bq, .int lb]))] U.heap ∧ va_K D CLS [] U ∧ EV (fun _ => False) tw U ∧ EX (fun _ => False) sa U)) QT (XT "java/lang/IndexOutOfBoundsException") 1 6 (fun _ => False) := by
  refine vx_ofW (cc := b_X_readInterrupt) (maxL := 6) (ret := (some .int)) (by decide) rfl ?_
  intro p e s m args below meth c s₁ B hml hnt hv
  obtain ⟨rfl, hP, hK, hE, hEX⟩ := hv
  have hx := B.exec
  have hb := B.bytes
  have hr := B.returns
  have hts := atoms_spec (ws := WSY y_X_readInterrupt b_X_readInterrupt 6 (some .int)) B.pre
  have hg : ∀ w ∈ GW, w.before _ s = true := fun w h => hts w (List.mem_cons_of_mem _ h)
  have hown : s.vm.findClass "LineGolomb" = some m.cls := findClass_of_methodNamed B.named
  have hlocks := B.notSynchronized
  have hS : va_S (fun _ => False) s.heap s.heap [] := va_S.rf
  have hl := lv_entry ([.ref x, .int k0]) (n := 6) (Nat.le_of_ble_eq_true rfl)
  rw [lg_entry_eq]
  generalize (lg_sl ([.ref x, .int k0]) ++ List.replicate (6 - (lg_sl ([.ref x, .int k0])).length) Slot.unset).toArray = ls at hl ⊢
  have hl : lv_has ls 6 [(0, .ref x), (1, .int k0)] := hl
  refine lv_iload_n hx hb d_X_readInterrupt_0 rfl (lv_at hl 1 rfl) ?_
  have hPc := hP.sub (ws' := []) [] rfl
  have hKc := hK.sub (tys' := []) [] rfl
  refine pci (va_runS (As := [.int k0]) (rest := []) ⟨hx, hb, hml, hown, hg⟩ (c_X_isKind l D k0) (va_cwS 1 hg (gS gw_343 gw_344 gw_1 gw_345) rfl rfl rfl (by decide +kernel) ⟨Nat.le_of_ble_eq_true rfl, Nat.le_of_ble_eq_true rfl⟩) ⟨fun a U g mk q => by obtain ⟨q0, qP, qK⟩ := q; exact ⟨q0, qP, va_K.moved (u := U) (U := U.calling g mk a) (Vm.Alike.refl U.vm) qK⟩, fun U hU hW => ⟨rfl, by rw [hU]; exact hPc, va_K.moved hW.alike hKc⟩⟩ rfl rfl hl.1 rfl (lv_room (Nat.le_of_ble_eq_true rfl)) d_X_readInterrupt_1 (⟨Nat.le_of_ble_eq_true rfl, Nat.le_of_ble_eq_true rfl⟩)) ?_
  refine tpi (y := 0) (if_neg hbad) ?_
  refine lv_if_ne (tgt := 17) hx hb d_X_readInterrupt_4 (by decide) (fun c_1 => ?_) (fun c_1 => ?_)
  · skip
    exact absurd rfl c_1
  · skip
    exact vx_throwS (A := fun _ => False) (cls := "java/lang/IndexOutOfBoundsException") (names := ["java/lang/RuntimeException", "java/lang/Exception"]) (text := "no such kind") hx hb hst hown (by decide) (by decide) (hg _ gw_346) (hg _ gw_13) hEX.st_124 hEX.at_IOE XG_IOE hEX.2.2.1 hEX.2.2.2 hS (hl.1.trans hml.symm) d_X_readInterrupt_7 d_X_readInterrupt_10 d_X_readInterrupt_11 d_X_readInterrupt_13 d_X_readInterrupt_16 (fun x9 h9 => (hnt x9 h9).elim) (by decide) (Nat.le_of_ble_eq_true rfl) (by decide) (by decide) hlocks (fun t ht g1 g2 => ⟨(), trivial, rfl, g1, fun q9 h9 _ => g2 q9 h9⟩) (fun z9 h9 => by cases h9) (by decide) (by decide)
set_option maxHeartbeats 4000000 in
set_option maxRecDepth 100000 in
theorem t_X_stateI (l : Launch) (hst : l.stackTraces = false) (D : va_G) (tw : Nat) (sa : Nat → Nat) (x sw sr br bq bi ne li sp q : Nat) (lb : Int32) (k0 v0 v1 : Int32) (hbad : ¬ (k0 = 0 ∨ k0 = 1)) : vx_Met l y_X_state (WSY y_X_state b_X_state 5 (some .int)) ({ frames := 6, cells := 1, slots := 6, locals := 110 }) (va_Pc [.ref x, .int v0, .int k0, .int v1] (fun U => va_P D CLS [(x, .inr (4, [.int (nI bi), .int (nI ne), .int (nI li), .int (nI sp), .int (nI q), .ref sw, .ref sr, .ref br, .ref bq, .int lb]))] U.heap ∧ va_K D CLS [] U ∧ EV (fun _ => False) tw U ∧ EX (fun _ => False) sa U)) QT (XT "java/lang/IndexOutOfBoundsException") 1 6 (fun _ => False) := by
  refine vx_ofW (cc := b_X_state) (maxL := 5) (ret := (some .int)) (by decide) rfl ?_
  intro p e s m args below meth c s₁ B hml hnt hv
  obtain ⟨rfl, hP, hK, hE, hEX⟩ := hv
  have hx := B.exec
  have hb := B.bytes
  have hr := B.returns
  have hts := atoms_spec (ws := WSY y_X_state b_X_state 5 (some .int)) B.pre
  have hg : ∀ w ∈ GW, w.before _ s = true := fun w h => hts w (List.mem_cons_of_mem _ h)
  have hown : s.vm.findClass "LineGolomb" = some m.cls := findClass_of_methodNamed B.named
  have hlocks := B.notSynchronized
  have hS : va_S (fun _ => False) s.heap s.heap [] := va_S.rf
  have hl := lv_entry ([.ref x, .int v0, .int k0, .int v1]) (n := 5) (Nat.le_of_ble_eq_true rfl)
  rw [lg_entry_eq]
  generalize (lg_sl ([.ref x, .int v0, .int k0, .int v1]) ++ List.replicate (5 - (lg_sl ([.ref x, .int v0, .int k0, .int v1])).length) Slot.unset).toArray = ls at hl ⊢
  have hl : lv_has ls 5 [(0, .ref x), (1, .int v0), (2, .int k0), (3, .int v1)] := hl
  refine lv_iload_n hx hb d_X_state_0 rfl (lv_at hl 2 rfl) ?_
  have hPc := hP.sub (ws' := []) [] rfl
  have hKc := hK.sub (tys' := []) [] rfl
  refine pci (va_runS (As := [.int k0]) (rest := []) ⟨hx, hb, hml, hown, hg⟩ (c_X_isKind l D k0) (va_cwS 1 hg (gS gw_343 gw_344 gw_1 gw_345) rfl rfl rfl (by decide +kernel) ⟨Nat.le_of_ble_eq_true rfl, Nat.le_of_ble_eq_true rfl⟩) ⟨fun a U g mk q => by obtain ⟨q0, qP, qK⟩ := q; exact ⟨q0, qP, va_K.moved (u := U) (U := U.calling g mk a) (Vm.Alike.refl U.vm) qK⟩, fun U hU hW => ⟨rfl, by rw [hU]; exact hPc, va_K.moved hW.alike hKc⟩⟩ rfl rfl hl.1 rfl (lv_room (Nat.le_of_ble_eq_true rfl)) d_X_state_1 (⟨Nat.le_of_ble_eq_true rfl, Nat.le_of_ble_eq_true rfl⟩)) ?_
  refine tpi (y := 0) (if_neg hbad) ?_
  refine lv_if_ne (tgt := 17) hx hb d_X_state_4 (by decide) (fun c_1 => ?_) (fun c_1 => ?_)
  · skip
    exact absurd rfl c_1
  · skip
    exact vx_throwS (A := fun _ => False) (cls := "java/lang/IndexOutOfBoundsException") (names := ["java/lang/RuntimeException", "java/lang/Exception"]) (text := "no such kind") hx hb hst hown (by decide) (by decide) (hg _ gw_346) (hg _ gw_13) hEX.st_124 hEX.at_IOE XG_IOE hEX.2.2.1 hEX.2.2.2 hS (hl.1.trans hml.symm) d_X_state_7 d_X_state_10 d_X_state_11 d_X_state_13 d_X_state_16 (fun x9 h9 => (hnt x9 h9).elim) (by decide) (Nat.le_of_ble_eq_true rfl) (by decide) (by decide) hlocks (fun t ht g1 g2 => ⟨(), trivial, rfl, g1, fun q9 h9 _ => g2 q9 h9⟩) (fun z9 h9 => by cases h9) (by decide) (by decide)
set_option maxHeartbeats 4000000 in
set_option maxRecDepth 100000 in
theorem t_X_interruptA0 (l : Launch) (hst : l.stackTraces = false) (D : va_G) (tw : Nat) (sa : Nat → Nat) (x sw sr br bq bi ne li sp q : Nat) (lb : Int32) (v0 : Int32) (hsp : sp ≤ 65536) (hbad : ¬ (-((sp / 2 : Nat) : Int) ≤ v0.toInt ∧ v0.toInt ≤ ((sp / 2 : Nat) : Int) ∧ (¬ v0 = 0 ∨ (0 : Int32) = 0))) : vx_Met l y_X_interrupt (WSY y_X_interrupt b_X_interrupt 8 (some .int)) ({ frames := 6, cells := 1, slots := 6, locals := 110 }) (va_Pc [.ref x, .int 0, .int v0] (fun U => va_P D CLS [(x, .inr (4, [.int (nI bi), .int (nI ne), .int (nI li), .int (nI sp), .int (nI q), .ref sw, .ref sr, .ref br, .ref bq, .int lb]))] U.heap ∧ va_K D CLS [] U ∧ EV (fun _ => False) tw U ∧ EX (fun _ => False) sa U)) QT (XT "java/lang/IllegalArgumentException") 1 6 (fun _ => False) := by
  refine vx_ofW (cc := b_X_interrupt) (maxL := 8) (ret := (some .int)) (by decide) rfl ?_
  intro p e s m args below meth c s₁ B hml hnt hv
  obtain ⟨rfl, hP, hK, hE, hEX⟩ := hv
  have hx := B.exec
  have hb := B.bytes
  have hr := B.returns
  have hts := atoms_spec (ws := WSY y_X_interrupt b_X_interrupt 8 (some .int)) B.pre
  have hg : ∀ w ∈ GW, w.before _ s = true := fun w h => hts w (List.mem_cons_of_mem _ h)
  have hown : s.vm.findClass "LineGolomb" = some m.cls := findClass_of_methodNamed B.named
  have hlocks := B.notSynchronized
  have hS : va_S (fun _ => False) s.heap s.heap [] := va_S.rf
  have hl := lv_entry ([.ref x, .int 0, .int v0]) (n := 8) (Nat.le_of_ble_eq_true rfl)
  rw [lg_entry_eq]
  generalize (lg_sl ([.ref x, .int 0, .int v0]) ++ List.replicate (8 - (lg_sl ([.ref x, .int 0, .int v0])).length) Slot.unset).toArray = ls at hl ⊢
  have hl : lv_has ls 8 [(0, .ref x), (1, .int 0), (2, .int v0)] := hl
  refine lv_iload_n hx hb d_X_interrupt_0 rfl (lv_at hl 1 rfl) ?_
  have hPc := hP.sub (ws' := []) [] rfl
  have hKc := hK.sub (tys' := []) [] rfl
  refine pci (va_runS (As := [.int 0]) (rest := []) ⟨hx, hb, hml, hown, hg⟩ (c_X_isKind l D 0) (va_cwS 1 hg (gS gw_343 gw_344 gw_1 gw_345) rfl rfl rfl (by decide +kernel) ⟨Nat.le_of_ble_eq_true rfl, Nat.le_of_ble_eq_true rfl⟩) ⟨fun a U g mk q => by obtain ⟨q0, qP, qK⟩ := q; exact ⟨q0, qP, va_K.moved (u := U) (U := U.calling g mk a) (Vm.Alike.refl U.vm) qK⟩, fun U hU hW => ⟨rfl, by rw [hU]; exact hPc, va_K.moved hW.alike hKc⟩⟩ rfl rfl hl.1 rfl (lv_room (Nat.le_of_ble_eq_true rfl)) d_X_interrupt_1 (⟨Nat.le_of_ble_eq_true rfl, Nat.le_of_ble_eq_true rfl⟩)) ?_
  refine tpi (y := 1) (by decide) ?_
  refine lv_if_ne (tgt := 17) hx hb d_X_interrupt_4 (by decide) (fun c_1 => ?_) (fun c_1 => ?_)
  · skip
    refine lv_aload_n hx hb d_X_interrupt_17 rfl (lv_at hl 0 rfl) ?_
    refine lv_iload_n hx hb d_X_interrupt_18 rfl (lv_at hl 1 rfl) ?_
    refine lv_iload_n hx hb d_X_interrupt_19 rfl (lv_at hl 2 rfl) ?_
    have hPc := hP.sub (ws' := [(x, .inr (4, [.int (nI bi), .int (nI ne), .int (nI li), .int (nI sp), .int (nI q), .ref sw, .ref sr, .ref br, .ref bq, .int lb]))]) [0] rfl
    have hKc := hK.sub (tys' := []) [] rfl
    refine pci (va_runV (As := [.int 0, .int v0]) (rest := []) ⟨hx, hb, hml, hown, hg⟩ (c_X_isError l D x sw sr br bq bi ne li sp q lb 0 v0 (by omega)) (cwV 2 hg (gV gw_362 gw_364 gs_6 gw_1 gw_365) rfl rfl rfl (by decide +kernel) ⟨Nat.le_of_ble_eq_true rfl, Nat.le_of_ble_eq_true rfl⟩) ⟨fun a U g mk q => by obtain ⟨q0, qP, qK⟩ := q; exact ⟨q0, qP, va_K.moved (u := U) (U := U.calling g mk a) (Vm.Alike.refl U.vm) qK⟩, va_recv hKc hPc (ci := 4) (q0 := 0) rfl rfl, fun U hU hW => ⟨rfl, by rw [hU]; exact hPc, va_K.moved hW.alike hKc⟩⟩ rfl rfl hl.1 rfl (lv_room (Nat.le_of_ble_eq_true rfl)) d_X_interrupt_20 (⟨Nat.le_of_ble_eq_true rfl, Nat.le_of_ble_eq_true rfl⟩)) ?_
    refine tpi (y := 0) (if_neg hbad) ?_
    refine lv_if_ne (tgt := 36) hx hb d_X_interrupt_23 (by decide) (fun c_2 => ?_) (fun c_2 => ?_)
    · skip
      exact absurd rfl c_2
    · skip
      exact vx_throwS (A := fun _ => False) (cls := "java/lang/IllegalArgumentException") (names := ["java/lang/RuntimeException", "java/lang/Exception"]) (text := "no such error") hx hb hst hown (by decide) (by decide) (hg _ gw_201) (hg _ gw_11) hEX.st_131 hEX.at_IAE XG_IAE hEX.2.2.1 hEX.2.2.2 hS (hl.1.trans hml.symm) d_X_interrupt_26 d_X_interrupt_29 d_X_interrupt_30 d_X_interrupt_32 d_X_interrupt_35 (fun x9 h9 => (hnt x9 h9).elim) (by decide) (Nat.le_of_ble_eq_true rfl) (by decide) (by decide) hlocks (fun t ht g1 g2 => ⟨(), trivial, rfl, g1, fun q9 h9 _ => g2 q9 h9⟩) (fun z9 h9 => by cases h9) (by decide) (by decide)
  · skip
    exact absurd c_1 (by decide)
set_option maxHeartbeats 4000000 in
set_option maxRecDepth 100000 in
theorem t_X_interruptA1 (l : Launch) (hst : l.stackTraces = false) (D : va_G) (tw : Nat) (sa : Nat → Nat) (x sw sr br bq bi ne li sp q : Nat) (lb : Int32) (v0 : Int32) (hsp : sp ≤ 65536) (hbad : ¬ (-((sp / 2 : Nat) : Int) ≤ v0.toInt ∧ v0.toInt ≤ ((sp / 2 : Nat) : Int) ∧ (¬ v0 = 0 ∨ (1 : Int32) = 0))) : vx_Met l y_X_interrupt (WSY y_X_interrupt b_X_interrupt 8 (some .int)) ({ frames := 6, cells := 1, slots := 6, locals := 110 }) (va_Pc [.ref x, .int 1, .int v0] (fun U => va_P D CLS [(x, .inr (4, [.int (nI bi), .int (nI ne), .int (nI li), .int (nI sp), .int (nI q), .ref sw, .ref sr, .ref br, .ref bq, .int lb]))] U.heap ∧ va_K D CLS [] U ∧ EV (fun _ => False) tw U ∧ EX (fun _ => False) sa U)) QT (XT "java/lang/IllegalArgumentException") 1 6 (fun _ => False) := by
  refine vx_ofW (cc := b_X_interrupt) (maxL := 8) (ret := (some .int)) (by decide) rfl ?_
  intro p e s m args below meth c s₁ B hml hnt hv
  obtain ⟨rfl, hP, hK, hE, hEX⟩ := hv
  have hx := B.exec
  have hb := B.bytes
  have hr := B.returns
  have hts := atoms_spec (ws := WSY y_X_interrupt b_X_interrupt 8 (some .int)) B.pre
  have hg : ∀ w ∈ GW, w.before _ s = true := fun w h => hts w (List.mem_cons_of_mem _ h)
  have hown : s.vm.findClass "LineGolomb" = some m.cls := findClass_of_methodNamed B.named
  have hlocks := B.notSynchronized
  have hS : va_S (fun _ => False) s.heap s.heap [] := va_S.rf
  have hl := lv_entry ([.ref x, .int 1, .int v0]) (n := 8) (Nat.le_of_ble_eq_true rfl)
  rw [lg_entry_eq]
  generalize (lg_sl ([.ref x, .int 1, .int v0]) ++ List.replicate (8 - (lg_sl ([.ref x, .int 1, .int v0])).length) Slot.unset).toArray = ls at hl ⊢
  have hl : lv_has ls 8 [(0, .ref x), (1, .int 1), (2, .int v0)] := hl
  refine lv_iload_n hx hb d_X_interrupt_0 rfl (lv_at hl 1 rfl) ?_
  have hPc := hP.sub (ws' := []) [] rfl
  have hKc := hK.sub (tys' := []) [] rfl
  refine pci (va_runS (As := [.int 1]) (rest := []) ⟨hx, hb, hml, hown, hg⟩ (c_X_isKind l D 1) (va_cwS 1 hg (gS gw_343 gw_344 gw_1 gw_345) rfl rfl rfl (by decide +kernel) ⟨Nat.le_of_ble_eq_true rfl, Nat.le_of_ble_eq_true rfl⟩) ⟨fun a U g mk q => by obtain ⟨q0, qP, qK⟩ := q; exact ⟨q0, qP, va_K.moved (u := U) (U := U.calling g mk a) (Vm.Alike.refl U.vm) qK⟩, fun U hU hW => ⟨rfl, by rw [hU]; exact hPc, va_K.moved hW.alike hKc⟩⟩ rfl rfl hl.1 rfl (lv_room (Nat.le_of_ble_eq_true rfl)) d_X_interrupt_1 (⟨Nat.le_of_ble_eq_true rfl, Nat.le_of_ble_eq_true rfl⟩)) ?_
  refine tpi (y := 1) (by decide) ?_
  refine lv_if_ne (tgt := 17) hx hb d_X_interrupt_4 (by decide) (fun c_1 => ?_) (fun c_1 => ?_)
  · skip
    refine lv_aload_n hx hb d_X_interrupt_17 rfl (lv_at hl 0 rfl) ?_
    refine lv_iload_n hx hb d_X_interrupt_18 rfl (lv_at hl 1 rfl) ?_
    refine lv_iload_n hx hb d_X_interrupt_19 rfl (lv_at hl 2 rfl) ?_
    have hPc := hP.sub (ws' := [(x, .inr (4, [.int (nI bi), .int (nI ne), .int (nI li), .int (nI sp), .int (nI q), .ref sw, .ref sr, .ref br, .ref bq, .int lb]))]) [0] rfl
    have hKc := hK.sub (tys' := []) [] rfl
    refine pci (va_runV (As := [.int 1, .int v0]) (rest := []) ⟨hx, hb, hml, hown, hg⟩ (c_X_isError l D x sw sr br bq bi ne li sp q lb 1 v0 (by omega)) (cwV 2 hg (gV gw_362 gw_364 gs_6 gw_1 gw_365) rfl rfl rfl (by decide +kernel) ⟨Nat.le_of_ble_eq_true rfl, Nat.le_of_ble_eq_true rfl⟩) ⟨fun a U g mk q => by obtain ⟨q0, qP, qK⟩ := q; exact ⟨q0, qP, va_K.moved (u := U) (U := U.calling g mk a) (Vm.Alike.refl U.vm) qK⟩, va_recv hKc hPc (ci := 4) (q0 := 0) rfl rfl, fun U hU hW => ⟨rfl, by rw [hU]; exact hPc, va_K.moved hW.alike hKc⟩⟩ rfl rfl hl.1 rfl (lv_room (Nat.le_of_ble_eq_true rfl)) d_X_interrupt_20 (⟨Nat.le_of_ble_eq_true rfl, Nat.le_of_ble_eq_true rfl⟩)) ?_
    refine tpi (y := 0) (if_neg hbad) ?_
    refine lv_if_ne (tgt := 36) hx hb d_X_interrupt_23 (by decide) (fun c_2 => ?_) (fun c_2 => ?_)
    · skip
      exact absurd rfl c_2
    · skip
      exact vx_throwS (A := fun _ => False) (cls := "java/lang/IllegalArgumentException") (names := ["java/lang/RuntimeException", "java/lang/Exception"]) (text := "no such error") hx hb hst hown (by decide) (by decide) (hg _ gw_201) (hg _ gw_11) hEX.st_131 hEX.at_IAE XG_IAE hEX.2.2.1 hEX.2.2.2 hS (hl.1.trans hml.symm) d_X_interrupt_26 d_X_interrupt_29 d_X_interrupt_30 d_X_interrupt_32 d_X_interrupt_35 (fun x9 h9 => (hnt x9 h9).elim) (by decide) (Nat.le_of_ble_eq_true rfl) (by decide) (by decide) hlocks (fun t ht g1 g2 => ⟨(), trivial, rfl, g1, fun q9 h9 _ => g2 q9 h9⟩) (fun z9 h9 => by cases h9) (by decide) (by decide)
  · skip
    exact absurd c_1 (by decide)
set_option maxHeartbeats 4000000 in
set_option maxRecDepth 100000 in
theorem t_X_interruptU0P (l : Launch) (hst : l.stackTraces = false) (D : va_G) (tw : Nat) (sa : Nat → Nat) (x sw sr br bq bi ne li sp q : Nat) (lb : Int32) (e0 e1 pl rw : Nat) (fs sm ct ng : Nat) (ra : Nat) (cB : ClassId) (u : Nat) (f : Nat → Int32) (n K M : Nat) (hc0 : ct ≤ 64) (hn0 : ng ≤ 64) (hs0 : sm < 2 ^ 29) (hKb : K ≤ 29) (hK1 : sm ≤ ct * 2 ^ K) (hK2 : ∀ j, j < K → ct * 2 ^ j < sm) (hsp : sp ≤ 65536) (hn : n ≤ sp / 2) (hM : M = 2 * n - 0 - (if ¬ n = 0 ∧ (K = 0 ∧ 2 * ng < ct) then 1 else 0)) (hq : q ≤ 29) (hli : q + 18 ≤ li) (hlb : li ≤ 200) (hrw : rw ≤ 15) (hu6 : u ≤ 6000) (hu : ¬ u + nlen q K M (li - 1 - rw - q - 1) ≤ 6000) : vx_Met l y_X_interrupt (WSY y_X_interrupt b_X_interrupt 8 (some .int)) ({ frames := 6, cells := 1, slots := 6, locals := 110 }) (va_Pc [.ref x, .int 0, .int (nI n)] (fun U => va_P D CLS [(x, .inr (4, [.int (nI bi), .int (nI ne), .int (nI li), .int (nI sp), .int (nI q), .ref sw, .ref sr, .ref br, .ref bq, .int lb])), (sw, .inr (3, [.ref e0, .ref e1, .int (nI pl), .int (nI rw)])), (e0, .inr (2, [.int 0, .int (nI fs), .int (nI sm), .int (nI ct), .int (nI ng)])), (br, .inr (1, [.ref ra, .int (nI u)])), (ra, .inl (cB, 6000, .inl f))] U.heap ∧ va_K D CLS [(cB, .byte)] U ∧ EV (fun _ => False) tw U ∧ EX (fun _ => False) sa U)) QT (XT "java/lang/UnsupportedOperationException") 1 6 (fun _ => False) := by
  refine vx_ofW (cc := b_X_interrupt) (maxL := 8) (ret := (some .int)) (by decide) rfl ?_
  intro p e s m args below meth c s₁ B hml hnt hv
  obtain ⟨rfl, hP, hK, hE, hEX⟩ := hv
  have hx := B.exec
  have hb := B.bytes
  have hr := B.returns
  have hts := atoms_spec (ws := WSY y_X_interrupt b_X_interrupt 8 (some .int)) B.pre
  have hg : ∀ w ∈ GW, w.before _ s = true := fun w h => hts w (List.mem_cons_of_mem _ h)
  have hown : s.vm.findClass "LineGolomb" = some m.cls := findClass_of_methodNamed B.named
  have hlocks := B.notSynchronized
  have hS : va_S (fun _ => False) s.heap s.heap [] := va_S.rf
  have hl := lv_entry ([.ref x, .int 0, .int (nI n)]) (n := 8) (Nat.le_of_ble_eq_true rfl)
  rw [lg_entry_eq]
  generalize (lg_sl ([.ref x, .int 0, .int (nI n)]) ++ List.replicate (8 - (lg_sl ([.ref x, .int 0, .int (nI n)])).length) Slot.unset).toArray = ls at hl ⊢
  have hl : lv_has ls 8 [(0, .ref x), (1, .int 0), (2, .int (nI n))] := hl
  have hMb : M ≤ 2 * n := by rw [hM]; omega
  have hlen : nlen q K M (li - 1 - rw - q - 1) < 2 ^ 31 := by unfold nlen; have := Nat.div_le_self M (2 ^ K); split <;> omega
  refine lv_iload_n hx hb d_X_interrupt_0 rfl (lv_at hl 1 rfl) ?_
  have hPc := hP.sub (ws' := []) [] rfl
  have hKc := hK.sub (tys' := []) [] rfl
  refine pci (va_runS (As := [.int 0]) (rest := []) ⟨hx, hb, hml, hown, hg⟩ (c_X_isKind l D 0) (va_cwS 1 hg (gS gw_343 gw_344 gw_1 gw_345) rfl rfl rfl (by decide +kernel) ⟨Nat.le_of_ble_eq_true rfl, Nat.le_of_ble_eq_true rfl⟩) ⟨fun a U g mk q => by obtain ⟨q0, qP, qK⟩ := q; exact ⟨q0, qP, va_K.moved (u := U) (U := U.calling g mk a) (Vm.Alike.refl U.vm) qK⟩, fun U hU hW => ⟨rfl, by rw [hU]; exact hPc, va_K.moved hW.alike hKc⟩⟩ rfl rfl hl.1 rfl (lv_room (Nat.le_of_ble_eq_true rfl)) d_X_interrupt_1 (⟨Nat.le_of_ble_eq_true rfl, Nat.le_of_ble_eq_true rfl⟩)) ?_
  refine tpi (y := 1) (by decide) ?_
  refine lv_if_ne (tgt := 17) hx hb d_X_interrupt_4 (by decide) (fun c_1 => ?_) (fun c_1 => ?_)
  · skip
    refine lv_aload_n hx hb d_X_interrupt_17 rfl (lv_at hl 0 rfl) ?_
    refine lv_iload_n hx hb d_X_interrupt_18 rfl (lv_at hl 1 rfl) ?_
    refine lv_iload_n hx hb d_X_interrupt_19 rfl (lv_at hl 2 rfl) ?_
    have hPc := hP.sub (ws' := [(x, .inr (4, [.int (nI bi), .int (nI ne), .int (nI li), .int (nI sp), .int (nI q), .ref sw, .ref sr, .ref br, .ref bq, .int lb]))]) [0] rfl
    have hKc := hK.sub (tys' := []) [] rfl
    refine pci (va_runV (As := [.int 0, .int (nI n)]) (rest := []) ⟨hx, hb, hml, hown, hg⟩ (c_X_isError l D x sw sr br bq bi ne li sp q lb 0 (nI n) (by omega)) (cwV 2 hg (gV gw_362 gw_364 gs_6 gw_1 gw_365) rfl rfl rfl (by decide +kernel) ⟨Nat.le_of_ble_eq_true rfl, Nat.le_of_ble_eq_true rfl⟩) ⟨fun a U g mk q => by obtain ⟨q0, qP, qK⟩ := q; exact ⟨q0, qP, va_K.moved (u := U) (U := U.calling g mk a) (Vm.Alike.refl U.vm) qK⟩, va_recv hKc hPc (ci := 4) (q0 := 0) rfl rfl, fun U hU hW => ⟨rfl, by rw [hU]; exact hPc, va_K.moved hW.alike hKc⟩⟩ rfl rfl hl.1 rfl (lv_room (Nat.le_of_ble_eq_true rfl)) d_X_interrupt_20 (⟨Nat.le_of_ble_eq_true rfl, Nat.le_of_ble_eq_true rfl⟩)) ?_
    refine tpi (y := 1) (if_pos ⟨by rw [nI_toInt (by omega)]; omega, by rw [nI_toInt (by omega)]; omega, Or.inr rfl⟩) ?_
    refine lv_if_ne (tgt := 36) hx hb d_X_interrupt_23 (by decide) (fun c_2 => ?_) (fun c_2 => ?_)
    · skip
      refine lv_aload_n hx hb d_X_interrupt_36 rfl (lv_at hl 0 rfl) ?_
      refine va_get (D := D) (ci := 4) (v := .ref sw) (C := R_X) (T := T_X) (N := 10) hx hb hg in_X hown hK hP 0 rfl rfl 5 (by decide) (hg _ gw_121) (fun _ h9 => h9) rfl d_X_interrupt_37 ?_
      refine lv_iload_n hx hb d_X_interrupt_40 rfl (lv_at hl 1 rfl) ?_
      have hPc := hP.sub (ws' := [(sw, .inr (3, [.ref e0, .ref e1, .int (nI pl), .int (nI rw)]))]) [1] rfl
      have hKc := hK.sub (tys' := []) [] rfl
      refine pcr (va_runV (As := [.int 0]) (rest := []) ⟨hx, hb, hml, hown, hg⟩ (c_S_endsOf0 l D sw e0 e1 pl rw) (cwV 1 hg (gV gw_367 gw_368 gw_369 gw_5 gw_370) rfl rfl rfl (by decide +kernel) ⟨Nat.le_of_ble_eq_true rfl, Nat.le_of_ble_eq_true rfl⟩) ⟨fun a U g mk q => by obtain ⟨q0, qP, qK⟩ := q; exact ⟨q0, qP, va_K.moved (u := U) (U := U.calling g mk a) (Vm.Alike.refl U.vm) qK⟩, va_recv hKc hPc (ci := 3) (q0 := 0) rfl rfl, fun U hU hW => ⟨rfl, by rw [hU]; exact hPc, va_K.moved hW.alike hKc⟩⟩ rfl rfl hl.1 rfl (lv_room (Nat.le_of_ble_eq_true rfl)) d_X_interrupt_41 (⟨Nat.le_of_ble_eq_true rfl, Nat.le_of_ble_eq_true rfl⟩)) ?_
      refine lv_astore_n (lv' := [(3, .ref e0), (0, .ref x), (1, .int 0), (2, .int (nI n))]) hx hb d_X_interrupt_44 rfl hl (by decide) rfl (fun ls hl => ?_)
      refine lv_aload_n hx hb d_X_interrupt_45 rfl (lv_at hl 0 rfl) ?_
      have hPc := hP.sub (ws' := [(e0, .inr (2, [.int 0, .int (nI fs), .int (nI sm), .int (nI ct), .int (nI ng)]))]) [2] rfl
      have hKc := hK.sub (tys' := []) [] rfl
      refine pci (va_runV (As := []) (rest := []) ⟨hx, hb, hml, hown, hg⟩ (c_E_shift0 l D e0 fs sm ct ng K hc0 (by omega) hKb hK1 hK2) (cwV 0 hg (gV gw_371 gw_372 gw_373 gw_6 gw_374) rfl rfl rfl (by decide +kernel) ⟨Nat.le_of_ble_eq_true rfl, Nat.le_of_ble_eq_true rfl⟩) ⟨fun a U g mk q => by obtain ⟨q0, qP, qK⟩ := q; exact ⟨q0, qP, va_K.moved (u := U) (U := U.calling g mk a) (Vm.Alike.refl U.vm) qK⟩, va_recv hKc hPc (ci := 2) (q0 := 0) rfl rfl, fun U hU hW => ⟨rfl, by rw [hU]; exact hPc, va_K.moved hW.alike hKc⟩⟩ rfl rfl hl.1 rfl (lv_room (Nat.le_of_ble_eq_true rfl)) d_X_interrupt_46 (⟨Nat.le_of_ble_eq_true rfl, Nat.le_of_ble_eq_true rfl⟩)) ?_
      refine lv_istore (lv' := [(4, .int (nI K)), (3, .ref e0), (0, .ref x), (1, .int 0), (2, .int (nI n))]) hx hb d_X_interrupt_49 hl (by decide) rfl (fun ls hl => ?_)
      refine lv_aload_n hx hb d_X_interrupt_51 rfl (lv_at hl 1 rfl) ?_
      refine lv_iload_n hx hb d_X_interrupt_52 rfl (lv_at hl 4 rfl) ?_
      refine lv_iload hx hb d_X_interrupt_53 (lv_at hl 0 rfl) ?_
      have hPc := hP.sub (ws' := [(e0, .inr (2, [.int 0, .int (nI fs), .int (nI sm), .int (nI ct), .int (nI ng)]))]) [2] rfl
      have hKc := hK.sub (tys' := []) [] rfl
      refine pci (va_runV (As := [.int (nI n), .int (nI K)]) (rest := []) ⟨hx, hb, hml, hown, hg⟩ (c_E_numberOf0P l D e0 fs sm ct ng n K hc0 hn0 hKb (by omega)) (cwV 2 hg (gV gw_375 gw_376 gw_377 gw_6 gw_378) rfl rfl rfl (by decide +kernel) ⟨Nat.le_of_ble_eq_true rfl, Nat.le_of_ble_eq_true rfl⟩) ⟨fun a U g mk q => by obtain ⟨q0, qP, qK⟩ := q; exact ⟨q0, qP, va_K.moved (u := U) (U := U.calling g mk a) (Vm.Alike.refl U.vm) qK⟩, va_recv hKc hPc (ci := 2) (q0 := 0) rfl rfl, fun U hU hW => ⟨rfl, by rw [hU]; exact hPc, va_K.moved hW.alike hKc⟩⟩ rfl rfl hl.1 rfl (lv_room (Nat.le_of_ble_eq_true rfl)) d_X_interrupt_55 (⟨Nat.le_of_ble_eq_true rfl, Nat.le_of_ble_eq_true rfl⟩)) ?_
      refine tpi (y := nI M) (by rw [hM]) ?_
      refine lv_istore (lv' := [(5, .int (nI M)), (4, .int (nI K)), (3, .ref e0), (0, .ref x), (1, .int 0), (2, .int (nI n))]) hx hb d_X_interrupt_58 hl (by decide) rfl (fun ls hl => ?_)
      refine lv_aload_n hx hb d_X_interrupt_60 rfl (lv_at hl 3 rfl) ?_
      refine lv_aload_n hx hb d_X_interrupt_61 rfl (lv_at hl 3 rfl) ?_
      refine lv_aload_n hx hb d_X_interrupt_62 rfl (lv_at hl 3 rfl) ?_
      refine va_get (D := D) (ci := 4) (v := .ref sw) (C := R_X) (T := T_X) (N := 10) hx hb hg in_X hown hK hP 0 rfl rfl 5 (by decide) (hg _ gw_121) (fun _ h9 => h9) rfl d_X_interrupt_63 ?_
      have hPc := hP.sub (ws' := [(x, .inr (4, [.int (nI bi), .int (nI ne), .int (nI li), .int (nI sp), .int (nI q), .ref sw, .ref sr, .ref br, .ref bq, .int lb])), (sw, .inr (3, [.ref e0, .ref e1, .int (nI pl), .int (nI rw)]))]) [0, 1] rfl
      have hKc := hK.sub (tys' := []) [] rfl
      refine pci (va_runV (As := [.ref sw]) (rest := [.ref x]) ⟨hx, hb, hml, hown, hg⟩ (c_X_endLimit l D x sw sr br bq bi ne li sp q lb sw e0 e1 pl rw tw (by omega)) (cwV 1 hg (gV gw_386 gw_388 gs_8 gw_1 gw_389) rfl rfl rfl (by decide +kernel) ⟨Nat.le_of_ble_eq_true rfl, Nat.le_of_ble_eq_true rfl⟩) ⟨fun a U g mk q => by obtain ⟨q0, qP, qK, qX⟩ := q; exact ⟨q0, qP, va_K.moved (u := U) (U := U.calling g mk a) (Vm.Alike.refl U.vm) qK, qX.blind⟩, va_recv hKc hPc (ci := 4) (q0 := 0) rfl rfl, fun U hU hW => ⟨rfl, by rw [hU]; exact hPc, va_K.moved hW.alike hKc, hE.call hS noF hU hW⟩⟩ rfl rfl hl.1 rfl (lv_room (Nat.le_of_ble_eq_true rfl)) d_X_interrupt_66 (⟨Nat.le_of_ble_eq_true rfl, Nat.le_of_ble_eq_true rfl⟩)) ?_
      have hPc := hP.sub (ws' := [(x, .inr (4, [.int (nI bi), .int (nI ne), .int (nI li), .int (nI sp), .int (nI q), .ref sw, .ref sr, .ref br, .ref bq, .int lb]))]) [0] rfl
      have hKc := hK.sub (tys' := []) [] rfl
      refine pci (va_runV (As := [.int (nI (li - 1 - rw))]) (rest := []) ⟨hx, hb, hml, hown, hg⟩ (c_X_mostZeros l D x sw sr br bq bi ne li sp q lb (li - 1 - rw) (by omega)) (cwV 1 hg (gV gw_269 gw_271 gs_3 gw_1 gw_272) rfl rfl rfl (by decide +kernel) ⟨Nat.le_of_ble_eq_true rfl, Nat.le_of_ble_eq_true rfl⟩) ⟨fun a U g mk q => by obtain ⟨q0, qP, qK⟩ := q; exact ⟨q0, qP, va_K.moved (u := U) (U := U.calling g mk a) (Vm.Alike.refl U.vm) qK⟩, va_recv hKc hPc (ci := 4) (q0 := 0) rfl rfl, fun U hU hW => ⟨rfl, by rw [hU]; exact hPc, va_K.moved hW.alike hKc⟩⟩ rfl rfl hl.1 rfl (lv_room (Nat.le_of_ble_eq_true rfl)) d_X_interrupt_69 (⟨Nat.le_of_ble_eq_true rfl, Nat.le_of_ble_eq_true rfl⟩)) ?_
      refine lv_istore (lv' := [(6, .int (nI (li - 1 - rw - q - 1))), (5, .int (nI M)), (4, .int (nI K)), (3, .ref e0), (0, .ref x), (1, .int 0), (2, .int (nI n))]) hx hb d_X_interrupt_72 hl (by decide) rfl (fun ls hl => ?_)
      refine lv_aload_n hx hb d_X_interrupt_74 rfl (lv_at hl 4 rfl) ?_
      refine lv_iload hx hb d_X_interrupt_75 (lv_at hl 2 rfl) ?_
      refine lv_iload hx hb d_X_interrupt_77 (lv_at hl 1 rfl) ?_
      refine lv_iload hx hb d_X_interrupt_79 (lv_at hl 0 rfl) ?_
      have hPc := hP.sub (ws' := [(x, .inr (4, [.int (nI bi), .int (nI ne), .int (nI li), .int (nI sp), .int (nI q), .ref sw, .ref sr, .ref br, .ref bq, .int lb]))]) [0] rfl
      have hKc := hK.sub (tys' := []) [] rfl
      refine pci (va_runV (As := [.int (nI K), .int (nI M), .int (nI (li - 1 - rw - q - 1))]) (rest := []) ⟨hx, hb, hml, hown, hg⟩ (c_X_numberLength l D x sw sr br bq bi ne li sp q lb K M (li - 1 - rw - q - 1) (by omega) (by omega) (by omega)) (cwV 3 hg (gV gw_273 gw_275 gs_4 gw_1 gw_276) rfl rfl rfl (by decide +kernel) ⟨Nat.le_of_ble_eq_true rfl, Nat.le_of_ble_eq_true rfl⟩) ⟨fun a U g mk q => by obtain ⟨q0, qP, qK⟩ := q; exact ⟨q0, qP, va_K.moved (u := U) (U := U.calling g mk a) (Vm.Alike.refl U.vm) qK⟩, va_recv hKc hPc (ci := 4) (q0 := 0) rfl rfl, fun U hU hW => ⟨rfl, by rw [hU]; exact hPc, va_K.moved hW.alike hKc⟩⟩ rfl rfl hl.1 rfl (lv_room (Nat.le_of_ble_eq_true rfl)) d_X_interrupt_81 (⟨Nat.le_of_ble_eq_true rfl, Nat.le_of_ble_eq_true rfl⟩)) ?_
      refine lv_istore (lv' := [(7, .int (nI (nlen q K M (li - 1 - rw - q - 1)))), (6, .int (nI (li - 1 - rw - q - 1))), (5, .int (nI M)), (4, .int (nI K)), (3, .ref e0), (0, .ref x), (1, .int 0), (2, .int (nI n))]) hx hb d_X_interrupt_84 hl (by decide) rfl (fun ls hl => ?_)
      refine lv_aload_n hx hb d_X_interrupt_86 rfl (lv_at hl 5 rfl) ?_
      refine va_get (D := D) (ci := 4) (v := .ref br) (C := R_X) (T := T_X) (N := 10) hx hb hg in_X hown hK hP 0 rfl rfl 7 (by decide) (hg _ gw_123) (fun _ h9 => h9) rfl d_X_interrupt_87 ?_
      refine lv_iload hx hb d_X_interrupt_90 (lv_at hl 0 rfl) ?_
      have hPc := hP.sub (ws' := [(br, .inr (1, [.ref ra, .int (nI u)])), (ra, .inl (cB, 6000, .inl f))]) [3, 4] rfl
      have hKc := hK.sub (tys' := [(cB, .byte)]) [0] rfl
      refine pci (va_runV (As := [.int (nI (nlen q K M (li - 1 - rw - q - 1)))]) (rest := []) ⟨hx, hb, hml, hown, hg⟩ (c_B_hasRoom l D br ra cB u f (nlen q K M (li - 1 - rw - q - 1)) (by omega) (by omega)) (cwV 1 hg (gV gw_277 gw_278 gw_279 gw_2 gw_280) rfl rfl rfl (by decide +kernel) ⟨Nat.le_of_ble_eq_true rfl, Nat.le_of_ble_eq_true rfl⟩) ⟨fun a U g mk q => by obtain ⟨q0, qP, qK⟩ := q; exact ⟨q0, qP, va_K.moved (u := U) (U := U.calling g mk a) (Vm.Alike.refl U.vm) qK⟩, va_recv hKc hPc (ci := 1) (q0 := 0) rfl rfl, fun U hU hW => ⟨rfl, by rw [hU]; exact hPc, va_K.moved hW.alike hKc⟩⟩ rfl rfl hl.1 rfl (lv_room (Nat.le_of_ble_eq_true rfl)) d_X_interrupt_92 (⟨Nat.le_of_ble_eq_true rfl, Nat.le_of_ble_eq_true rfl⟩)) ?_
      refine tpi (y := 0) (if_neg hu) ?_
      refine lv_if_ne (tgt := 108) hx hb d_X_interrupt_95 (by decide) (fun c_3 => ?_) (fun c_3 => ?_)
      · skip
        exact absurd rfl c_3
      · skip
        exact vx_throwS (A := fun _ => False) (cls := "java/lang/UnsupportedOperationException") (names := ["java/lang/RuntimeException", "java/lang/Exception"]) (text := "too many bits") hx hb hst hown (by decide) (by decide) (hg _ gw_281) (hg _ gw_12) hEX.st_89 hEX.at_UOE XG_UOE hEX.2.2.1 hEX.2.2.2 hS (hl.1.trans hml.symm) d_X_interrupt_98 d_X_interrupt_101 d_X_interrupt_102 d_X_interrupt_104 d_X_interrupt_107 (fun x9 h9 => (hnt x9 h9).elim) (by decide) (Nat.le_of_ble_eq_true rfl) (by decide) (by decide) hlocks (fun t ht g1 g2 => ⟨(), trivial, rfl, g1, fun q9 h9 _ => g2 q9 h9⟩) (fun z9 h9 => by cases h9) (by decide) (by decide)
    · skip
      exact absurd c_2 (by decide)
  · skip
    exact absurd c_1 (by decide)
set_option maxHeartbeats 4000000 in
set_option maxRecDepth 100000 in
theorem t_X_interruptU0N (l : Launch) (hst : l.stackTraces = false) (D : va_G) (tw : Nat) (sa : Nat → Nat) (x sw sr br bq bi ne li sp q : Nat) (lb : Int32) (e0 e1 pl rw : Nat) (fs sm ct ng : Nat) (ra : Nat) (cB : ClassId) (u : Nat) (f : Nat → Int32) (n K M : Nat) (hc0 : ct ≤ 64) (hn0 : ng ≤ 64) (hs0 : sm < 2 ^ 29) (hKb : K ≤ 29) (hK1 : sm ≤ ct * 2 ^ K) (hK2 : ∀ j, j < K → ct * 2 ^ j < sm) (hsp : sp ≤ 65536) (hn : n ≤ sp / 2) (hn1 : 0 < n) (hM : M = 2 * n - 0 - (if (K = 0 ∧ 2 * ng < ct) then 0 else 1)) (hq : q ≤ 29) (hli : q + 18 ≤ li) (hlb : li ≤ 200) (hrw : rw ≤ 15) (hu6 : u ≤ 6000) (hu : ¬ u + nlen q K M (li - 1 - rw - q - 1) ≤ 6000) : vx_Met l y_X_interrupt (WSY y_X_interrupt b_X_interrupt 8 (some .int)) ({ frames := 6, cells := 1, slots := 6, locals := 110 }) (va_Pc [.ref x, .int 0, .int (-nI n)] (fun U => va_P D CLS [(x, .inr (4, [.int (nI bi), .int (nI ne), .int (nI li), .int (nI sp), .int (nI q), .ref sw, .ref sr, .ref br, .ref bq, .int lb])), (sw, .inr (3, [.ref e0, .ref e1, .int (nI pl), .int (nI rw)])), (e0, .inr (2, [.int 0, .int (nI fs), .int (nI sm), .int (nI ct), .int (nI ng)])), (br, .inr (1, [.ref ra, .int (nI u)])), (ra, .inl (cB, 6000, .inl f))] U.heap ∧ va_K D CLS [(cB, .byte)] U ∧ EV (fun _ => False) tw U ∧ EX (fun _ => False) sa U)) QT (XT "java/lang/UnsupportedOperationException") 1 6 (fun _ => False) := by
  refine vx_ofW (cc := b_X_interrupt) (maxL := 8) (ret := (some .int)) (by decide) rfl ?_
  intro p e s m args below meth c s₁ B hml hnt hv
  obtain ⟨rfl, hP, hK, hE, hEX⟩ := hv
  have hx := B.exec
  have hb := B.bytes
  have hr := B.returns
  have hts := atoms_spec (ws := WSY y_X_interrupt b_X_interrupt 8 (some .int)) B.pre
  have hg : ∀ w ∈ GW, w.before _ s = true := fun w h => hts w (List.mem_cons_of_mem _ h)
  have hown : s.vm.findClass "LineGolomb" = some m.cls := findClass_of_methodNamed B.named
  have hlocks := B.notSynchronized
  have hS : va_S (fun _ => False) s.heap s.heap [] := va_S.rf
  have hl := lv_entry ([.ref x, .int 0, .int (-nI n)]) (n := 8) (Nat.le_of_ble_eq_true rfl)
  rw [lg_entry_eq]
  generalize (lg_sl ([.ref x, .int 0, .int (-nI n)]) ++ List.replicate (8 - (lg_sl ([.ref x, .int 0, .int (-nI n)])).length) Slot.unset).toArray = ls at hl ⊢
  have hl : lv_has ls 8 [(0, .ref x), (1, .int 0), (2, .int (-nI n))] := hl
  have hMb : M ≤ 2 * n := by rw [hM]; omega
  have hlen : nlen q K M (li - 1 - rw - q - 1) < 2 ^ 31 := by unfold nlen; have := Nat.div_le_self M (2 ^ K); split <;> omega
  refine lv_iload_n hx hb d_X_interrupt_0 rfl (lv_at hl 1 rfl) ?_
  have hPc := hP.sub (ws' := []) [] rfl
  have hKc := hK.sub (tys' := []) [] rfl
  refine pci (va_runS (As := [.int 0]) (rest := []) ⟨hx, hb, hml, hown, hg⟩ (c_X_isKind l D 0) (va_cwS 1 hg (gS gw_343 gw_344 gw_1 gw_345) rfl rfl rfl (by decide +kernel) ⟨Nat.le_of_ble_eq_true rfl, Nat.le_of_ble_eq_true rfl⟩) ⟨fun a U g mk q => by obtain ⟨q0, qP, qK⟩ := q; exact ⟨q0, qP, va_K.moved (u := U) (U := U.calling g mk a) (Vm.Alike.refl U.vm) qK⟩, fun U hU hW => ⟨rfl, by rw [hU]; exact hPc, va_K.moved hW.alike hKc⟩⟩ rfl rfl hl.1 rfl (lv_room (Nat.le_of_ble_eq_true rfl)) d_X_interrupt_1 (⟨Nat.le_of_ble_eq_true rfl, Nat.le_of_ble_eq_true rfl⟩)) ?_
  refine tpi (y := 1) (by decide) ?_
  refine lv_if_ne (tgt := 17) hx hb d_X_interrupt_4 (by decide) (fun c_1 => ?_) (fun c_1 => ?_)
  · skip
    refine lv_aload_n hx hb d_X_interrupt_17 rfl (lv_at hl 0 rfl) ?_
    refine lv_iload_n hx hb d_X_interrupt_18 rfl (lv_at hl 1 rfl) ?_
    refine lv_iload_n hx hb d_X_interrupt_19 rfl (lv_at hl 2 rfl) ?_
    have hPc := hP.sub (ws' := [(x, .inr (4, [.int (nI bi), .int (nI ne), .int (nI li), .int (nI sp), .int (nI q), .ref sw, .ref sr, .ref br, .ref bq, .int lb]))]) [0] rfl
    have hKc := hK.sub (tys' := []) [] rfl
    refine pci (va_runV (As := [.int 0, .int (-nI n)]) (rest := []) ⟨hx, hb, hml, hown, hg⟩ (c_X_isError l D x sw sr br bq bi ne li sp q lb 0 (-nI n) (by omega)) (cwV 2 hg (gV gw_362 gw_364 gs_6 gw_1 gw_365) rfl rfl rfl (by decide +kernel) ⟨Nat.le_of_ble_eq_true rfl, Nat.le_of_ble_eq_true rfl⟩) ⟨fun a U g mk q => by obtain ⟨q0, qP, qK⟩ := q; exact ⟨q0, qP, va_K.moved (u := U) (U := U.calling g mk a) (Vm.Alike.refl U.vm) qK⟩, va_recv hKc hPc (ci := 4) (q0 := 0) rfl rfl, fun U hU hW => ⟨rfl, by rw [hU]; exact hPc, va_K.moved hW.alike hKc⟩⟩ rfl rfl hl.1 rfl (lv_room (Nat.le_of_ble_eq_true rfl)) d_X_interrupt_20 (⟨Nat.le_of_ble_eq_true rfl, Nat.le_of_ble_eq_true rfl⟩)) ?_
    refine tpi (y := 1) (if_pos ⟨by rw [ngT (by omega)]; omega, by rw [ngT (by omega)]; omega, Or.inr rfl⟩) ?_
    refine lv_if_ne (tgt := 36) hx hb d_X_interrupt_23 (by decide) (fun c_2 => ?_) (fun c_2 => ?_)
    · skip
      refine lv_aload_n hx hb d_X_interrupt_36 rfl (lv_at hl 0 rfl) ?_
      refine va_get (D := D) (ci := 4) (v := .ref sw) (C := R_X) (T := T_X) (N := 10) hx hb hg in_X hown hK hP 0 rfl rfl 5 (by decide) (hg _ gw_121) (fun _ h9 => h9) rfl d_X_interrupt_37 ?_
      refine lv_iload_n hx hb d_X_interrupt_40 rfl (lv_at hl 1 rfl) ?_
      have hPc := hP.sub (ws' := [(sw, .inr (3, [.ref e0, .ref e1, .int (nI pl), .int (nI rw)]))]) [1] rfl
      have hKc := hK.sub (tys' := []) [] rfl
      refine pcr (va_runV (As := [.int 0]) (rest := []) ⟨hx, hb, hml, hown, hg⟩ (c_S_endsOf0 l D sw e0 e1 pl rw) (cwV 1 hg (gV gw_367 gw_368 gw_369 gw_5 gw_370) rfl rfl rfl (by decide +kernel) ⟨Nat.le_of_ble_eq_true rfl, Nat.le_of_ble_eq_true rfl⟩) ⟨fun a U g mk q => by obtain ⟨q0, qP, qK⟩ := q; exact ⟨q0, qP, va_K.moved (u := U) (U := U.calling g mk a) (Vm.Alike.refl U.vm) qK⟩, va_recv hKc hPc (ci := 3) (q0 := 0) rfl rfl, fun U hU hW => ⟨rfl, by rw [hU]; exact hPc, va_K.moved hW.alike hKc⟩⟩ rfl rfl hl.1 rfl (lv_room (Nat.le_of_ble_eq_true rfl)) d_X_interrupt_41 (⟨Nat.le_of_ble_eq_true rfl, Nat.le_of_ble_eq_true rfl⟩)) ?_
      refine lv_astore_n (lv' := [(3, .ref e0), (0, .ref x), (1, .int 0), (2, .int (-nI n))]) hx hb d_X_interrupt_44 rfl hl (by decide) rfl (fun ls hl => ?_)
      refine lv_aload_n hx hb d_X_interrupt_45 rfl (lv_at hl 0 rfl) ?_
      have hPc := hP.sub (ws' := [(e0, .inr (2, [.int 0, .int (nI fs), .int (nI sm), .int (nI ct), .int (nI ng)]))]) [2] rfl
      have hKc := hK.sub (tys' := []) [] rfl
      refine pci (va_runV (As := []) (rest := []) ⟨hx, hb, hml, hown, hg⟩ (c_E_shift0 l D e0 fs sm ct ng K hc0 (by omega) hKb hK1 hK2) (cwV 0 hg (gV gw_371 gw_372 gw_373 gw_6 gw_374) rfl rfl rfl (by decide +kernel) ⟨Nat.le_of_ble_eq_true rfl, Nat.le_of_ble_eq_true rfl⟩) ⟨fun a U g mk q => by obtain ⟨q0, qP, qK⟩ := q; exact ⟨q0, qP, va_K.moved (u := U) (U := U.calling g mk a) (Vm.Alike.refl U.vm) qK⟩, va_recv hKc hPc (ci := 2) (q0 := 0) rfl rfl, fun U hU hW => ⟨rfl, by rw [hU]; exact hPc, va_K.moved hW.alike hKc⟩⟩ rfl rfl hl.1 rfl (lv_room (Nat.le_of_ble_eq_true rfl)) d_X_interrupt_46 (⟨Nat.le_of_ble_eq_true rfl, Nat.le_of_ble_eq_true rfl⟩)) ?_
      refine lv_istore (lv' := [(4, .int (nI K)), (3, .ref e0), (0, .ref x), (1, .int 0), (2, .int (-nI n))]) hx hb d_X_interrupt_49 hl (by decide) rfl (fun ls hl => ?_)
      refine lv_aload_n hx hb d_X_interrupt_51 rfl (lv_at hl 1 rfl) ?_
      refine lv_iload_n hx hb d_X_interrupt_52 rfl (lv_at hl 4 rfl) ?_
      refine lv_iload hx hb d_X_interrupt_53 (lv_at hl 0 rfl) ?_
      have hPc := hP.sub (ws' := [(e0, .inr (2, [.int 0, .int (nI fs), .int (nI sm), .int (nI ct), .int (nI ng)]))]) [2] rfl
      have hKc := hK.sub (tys' := []) [] rfl
      refine pci (va_runV (As := [.int (-nI n), .int (nI K)]) (rest := []) ⟨hx, hb, hml, hown, hg⟩ (c_E_numberOf0N l D e0 fs sm ct ng n K hc0 hn0 hKb (by omega) hn1) (cwV 2 hg (gV gw_375 gw_376 gw_377 gw_6 gw_378) rfl rfl rfl (by decide +kernel) ⟨Nat.le_of_ble_eq_true rfl, Nat.le_of_ble_eq_true rfl⟩) ⟨fun a U g mk q => by obtain ⟨q0, qP, qK⟩ := q; exact ⟨q0, qP, va_K.moved (u := U) (U := U.calling g mk a) (Vm.Alike.refl U.vm) qK⟩, va_recv hKc hPc (ci := 2) (q0 := 0) rfl rfl, fun U hU hW => ⟨rfl, by rw [hU]; exact hPc, va_K.moved hW.alike hKc⟩⟩ rfl rfl hl.1 rfl (lv_room (Nat.le_of_ble_eq_true rfl)) d_X_interrupt_55 (⟨Nat.le_of_ble_eq_true rfl, Nat.le_of_ble_eq_true rfl⟩)) ?_
      refine tpi (y := nI M) (by rw [hM]) ?_
      refine lv_istore (lv' := [(5, .int (nI M)), (4, .int (nI K)), (3, .ref e0), (0, .ref x), (1, .int 0), (2, .int (-nI n))]) hx hb d_X_interrupt_58 hl (by decide) rfl (fun ls hl => ?_)
      refine lv_aload_n hx hb d_X_interrupt_60 rfl (lv_at hl 3 rfl) ?_
      refine lv_aload_n hx hb d_X_interrupt_61 rfl (lv_at hl 3 rfl) ?_
      refine lv_aload_n hx hb d_X_interrupt_62 rfl (lv_at hl 3 rfl) ?_
      refine va_get (D := D) (ci := 4) (v := .ref sw) (C := R_X) (T := T_X) (N := 10) hx hb hg in_X hown hK hP 0 rfl rfl 5 (by decide) (hg _ gw_121) (fun _ h9 => h9) rfl d_X_interrupt_63 ?_
      have hPc := hP.sub (ws' := [(x, .inr (4, [.int (nI bi), .int (nI ne), .int (nI li), .int (nI sp), .int (nI q), .ref sw, .ref sr, .ref br, .ref bq, .int lb])), (sw, .inr (3, [.ref e0, .ref e1, .int (nI pl), .int (nI rw)]))]) [0, 1] rfl
      have hKc := hK.sub (tys' := []) [] rfl
      refine pci (va_runV (As := [.ref sw]) (rest := [.ref x]) ⟨hx, hb, hml, hown, hg⟩ (c_X_endLimit l D x sw sr br bq bi ne li sp q lb sw e0 e1 pl rw tw (by omega)) (cwV 1 hg (gV gw_386 gw_388 gs_8 gw_1 gw_389) rfl rfl rfl (by decide +kernel) ⟨Nat.le_of_ble_eq_true rfl, Nat.le_of_ble_eq_true rfl⟩) ⟨fun a U g mk q => by obtain ⟨q0, qP, qK, qX⟩ := q; exact ⟨q0, qP, va_K.moved (u := U) (U := U.calling g mk a) (Vm.Alike.refl U.vm) qK, qX.blind⟩, va_recv hKc hPc (ci := 4) (q0 := 0) rfl rfl, fun U hU hW => ⟨rfl, by rw [hU]; exact hPc, va_K.moved hW.alike hKc, hE.call hS noF hU hW⟩⟩ rfl rfl hl.1 rfl (lv_room (Nat.le_of_ble_eq_true rfl)) d_X_interrupt_66 (⟨Nat.le_of_ble_eq_true rfl, Nat.le_of_ble_eq_true rfl⟩)) ?_
      have hPc := hP.sub (ws' := [(x, .inr (4, [.int (nI bi), .int (nI ne), .int (nI li), .int (nI sp), .int (nI q), .ref sw, .ref sr, .ref br, .ref bq, .int lb]))]) [0] rfl
      have hKc := hK.sub (tys' := []) [] rfl
      refine pci (va_runV (As := [.int (nI (li - 1 - rw))]) (rest := []) ⟨hx, hb, hml, hown, hg⟩ (c_X_mostZeros l D x sw sr br bq bi ne li sp q lb (li - 1 - rw) (by omega)) (cwV 1 hg (gV gw_269 gw_271 gs_3 gw_1 gw_272) rfl rfl rfl (by decide +kernel) ⟨Nat.le_of_ble_eq_true rfl, Nat.le_of_ble_eq_true rfl⟩) ⟨fun a U g mk q => by obtain ⟨q0, qP, qK⟩ := q; exact ⟨q0, qP, va_K.moved (u := U) (U := U.calling g mk a) (Vm.Alike.refl U.vm) qK⟩, va_recv hKc hPc (ci := 4) (q0 := 0) rfl rfl, fun U hU hW => ⟨rfl, by rw [hU]; exact hPc, va_K.moved hW.alike hKc⟩⟩ rfl rfl hl.1 rfl (lv_room (Nat.le_of_ble_eq_true rfl)) d_X_interrupt_69 (⟨Nat.le_of_ble_eq_true rfl, Nat.le_of_ble_eq_true rfl⟩)) ?_
      refine lv_istore (lv' := [(6, .int (nI (li - 1 - rw - q - 1))), (5, .int (nI M)), (4, .int (nI K)), (3, .ref e0), (0, .ref x), (1, .int 0), (2, .int (-nI n))]) hx hb d_X_interrupt_72 hl (by decide) rfl (fun ls hl => ?_)
      refine lv_aload_n hx hb d_X_interrupt_74 rfl (lv_at hl 4 rfl) ?_
      refine lv_iload hx hb d_X_interrupt_75 (lv_at hl 2 rfl) ?_
      refine lv_iload hx hb d_X_interrupt_77 (lv_at hl 1 rfl) ?_
      refine lv_iload hx hb d_X_interrupt_79 (lv_at hl 0 rfl) ?_
      have hPc := hP.sub (ws' := [(x, .inr (4, [.int (nI bi), .int (nI ne), .int (nI li), .int (nI sp), .int (nI q), .ref sw, .ref sr, .ref br, .ref bq, .int lb]))]) [0] rfl
      have hKc := hK.sub (tys' := []) [] rfl
      refine pci (va_runV (As := [.int (nI K), .int (nI M), .int (nI (li - 1 - rw - q - 1))]) (rest := []) ⟨hx, hb, hml, hown, hg⟩ (c_X_numberLength l D x sw sr br bq bi ne li sp q lb K M (li - 1 - rw - q - 1) (by omega) (by omega) (by omega)) (cwV 3 hg (gV gw_273 gw_275 gs_4 gw_1 gw_276) rfl rfl rfl (by decide +kernel) ⟨Nat.le_of_ble_eq_true rfl, Nat.le_of_ble_eq_true rfl⟩) ⟨fun a U g mk q => by obtain ⟨q0, qP, qK⟩ := q; exact ⟨q0, qP, va_K.moved (u := U) (U := U.calling g mk a) (Vm.Alike.refl U.vm) qK⟩, va_recv hKc hPc (ci := 4) (q0 := 0) rfl rfl, fun U hU hW => ⟨rfl, by rw [hU]; exact hPc, va_K.moved hW.alike hKc⟩⟩ rfl rfl hl.1 rfl (lv_room (Nat.le_of_ble_eq_true rfl)) d_X_interrupt_81 (⟨Nat.le_of_ble_eq_true rfl, Nat.le_of_ble_eq_true rfl⟩)) ?_
      refine lv_istore (lv' := [(7, .int (nI (nlen q K M (li - 1 - rw - q - 1)))), (6, .int (nI (li - 1 - rw - q - 1))), (5, .int (nI M)), (4, .int (nI K)), (3, .ref e0), (0, .ref x), (1, .int 0), (2, .int (-nI n))]) hx hb d_X_interrupt_84 hl (by decide) rfl (fun ls hl => ?_)
      refine lv_aload_n hx hb d_X_interrupt_86 rfl (lv_at hl 5 rfl) ?_
      refine va_get (D := D) (ci := 4) (v := .ref br) (C := R_X) (T := T_X) (N := 10) hx hb hg in_X hown hK hP 0 rfl rfl 7 (by decide) (hg _ gw_123) (fun _ h9 => h9) rfl d_X_interrupt_87 ?_
      refine lv_iload hx hb d_X_interrupt_90 (lv_at hl 0 rfl) ?_
      have hPc := hP.sub (ws' := [(br, .inr (1, [.ref ra, .int (nI u)])), (ra, .inl (cB, 6000, .inl f))]) [3, 4] rfl
      have hKc := hK.sub (tys' := [(cB, .byte)]) [0] rfl
      refine pci (va_runV (As := [.int (nI (nlen q K M (li - 1 - rw - q - 1)))]) (rest := []) ⟨hx, hb, hml, hown, hg⟩ (c_B_hasRoom l D br ra cB u f (nlen q K M (li - 1 - rw - q - 1)) (by omega) (by omega)) (cwV 1 hg (gV gw_277 gw_278 gw_279 gw_2 gw_280) rfl rfl rfl (by decide +kernel) ⟨Nat.le_of_ble_eq_true rfl, Nat.le_of_ble_eq_true rfl⟩) ⟨fun a U g mk q => by obtain ⟨q0, qP, qK⟩ := q; exact ⟨q0, qP, va_K.moved (u := U) (U := U.calling g mk a) (Vm.Alike.refl U.vm) qK⟩, va_recv hKc hPc (ci := 1) (q0 := 0) rfl rfl, fun U hU hW => ⟨rfl, by rw [hU]; exact hPc, va_K.moved hW.alike hKc⟩⟩ rfl rfl hl.1 rfl (lv_room (Nat.le_of_ble_eq_true rfl)) d_X_interrupt_92 (⟨Nat.le_of_ble_eq_true rfl, Nat.le_of_ble_eq_true rfl⟩)) ?_
      refine tpi (y := 0) (if_neg hu) ?_
      refine lv_if_ne (tgt := 108) hx hb d_X_interrupt_95 (by decide) (fun c_3 => ?_) (fun c_3 => ?_)
      · skip
        exact absurd rfl c_3
      · skip
        exact vx_throwS (A := fun _ => False) (cls := "java/lang/UnsupportedOperationException") (names := ["java/lang/RuntimeException", "java/lang/Exception"]) (text := "too many bits") hx hb hst hown (by decide) (by decide) (hg _ gw_281) (hg _ gw_12) hEX.st_89 hEX.at_UOE XG_UOE hEX.2.2.1 hEX.2.2.2 hS (hl.1.trans hml.symm) d_X_interrupt_98 d_X_interrupt_101 d_X_interrupt_102 d_X_interrupt_104 d_X_interrupt_107 (fun x9 h9 => (hnt x9 h9).elim) (by decide) (Nat.le_of_ble_eq_true rfl) (by decide) (by decide) hlocks (fun t ht g1 g2 => ⟨(), trivial, rfl, g1, fun q9 h9 _ => g2 q9 h9⟩) (fun z9 h9 => by cases h9) (by decide) (by decide)
    · skip
      exact absurd c_2 (by decide)
  · skip
    exact absurd c_1 (by decide)
set_option maxHeartbeats 4000000 in
set_option maxRecDepth 100000 in
theorem t_X_interruptU1P (l : Launch) (hst : l.stackTraces = false) (D : va_G) (tw : Nat) (sa : Nat → Nat) (x sw sr br bq bi ne li sp q : Nat) (lb : Int32) (e0 e1 pl rw : Nat) (fs sm ct ng : Nat) (ra : Nat) (cB : ClassId) (u : Nat) (f : Nat → Int32) (n K M : Nat) (hc0 : ct ≤ 64) (hn0 : ng ≤ 64) (hs0 : sm < 2 ^ 29) (hKb : K ≤ 29) (hK1 : sm + ct / 2 ≤ ct * 2 ^ K) (hK2 : ∀ j, j < K → ct * 2 ^ j < sm + ct / 2) (hsp : sp ≤ 65536) (hn : n ≤ sp / 2) (hn1 : 0 < n) (hM : M = 2 * n - 1 - (if ¬ n = 0 ∧ (K = 0 ∧ 2 * ng < ct) then 1 else 0)) (hq : q ≤ 29) (hli : q + 18 ≤ li) (hlb : li ≤ 200) (hrw : rw ≤ 15) (hu6 : u ≤ 6000) (hu : ¬ u + nlen q K M (li - 1 - rw - q - 1) ≤ 6000) : vx_Met l y_X_interrupt (WSY y_X_interrupt b_X_interrupt 8 (some .int)) ({ frames := 6, cells := 1, slots := 6, locals := 110 }) (va_Pc [.ref x, .int 1, .int (nI n)] (fun U => va_P D CLS [(x, .inr (4, [.int (nI bi), .int (nI ne), .int (nI li), .int (nI sp), .int (nI q), .ref sw, .ref sr, .ref br, .ref bq, .int lb])), (sw, .inr (3, [.ref e0, .ref e1, .int (nI pl), .int (nI rw)])), (e1, .inr (2, [.int 1, .int (nI fs), .int (nI sm), .int (nI ct), .int (nI ng)])), (br, .inr (1, [.ref ra, .int (nI u)])), (ra, .inl (cB, 6000, .inl f))] U.heap ∧ va_K D CLS [(cB, .byte)] U ∧ EV (fun _ => False) tw U ∧ EX (fun _ => False) sa U)) QT (XT "java/lang/UnsupportedOperationException") 1 6 (fun _ => False) := by
  refine vx_ofW (cc := b_X_interrupt) (maxL := 8) (ret := (some .int)) (by decide) rfl ?_
  intro p e s m args below meth c s₁ B hml hnt hv
  obtain ⟨rfl, hP, hK, hE, hEX⟩ := hv
  have hx := B.exec
  have hb := B.bytes
  have hr := B.returns
  have hts := atoms_spec (ws := WSY y_X_interrupt b_X_interrupt 8 (some .int)) B.pre
  have hg : ∀ w ∈ GW, w.before _ s = true := fun w h => hts w (List.mem_cons_of_mem _ h)
  have hown : s.vm.findClass "LineGolomb" = some m.cls := findClass_of_methodNamed B.named
  have hlocks := B.notSynchronized
  have hS : va_S (fun _ => False) s.heap s.heap [] := va_S.rf
  have hl := lv_entry ([.ref x, .int 1, .int (nI n)]) (n := 8) (Nat.le_of_ble_eq_true rfl)
  rw [lg_entry_eq]
  generalize (lg_sl ([.ref x, .int 1, .int (nI n)]) ++ List.replicate (8 - (lg_sl ([.ref x, .int 1, .int (nI n)])).length) Slot.unset).toArray = ls at hl ⊢
  have hl : lv_has ls 8 [(0, .ref x), (1, .int 1), (2, .int (nI n))] := hl
  have hMb : M ≤ 2 * n := by rw [hM]; omega
  have hlen : nlen q K M (li - 1 - rw - q - 1) < 2 ^ 31 := by unfold nlen; have := Nat.div_le_self M (2 ^ K); split <;> omega
  refine lv_iload_n hx hb d_X_interrupt_0 rfl (lv_at hl 1 rfl) ?_
  have hPc := hP.sub (ws' := []) [] rfl
  have hKc := hK.sub (tys' := []) [] rfl
  refine pci (va_runS (As := [.int 1]) (rest := []) ⟨hx, hb, hml, hown, hg⟩ (c_X_isKind l D 1) (va_cwS 1 hg (gS gw_343 gw_344 gw_1 gw_345) rfl rfl rfl (by decide +kernel) ⟨Nat.le_of_ble_eq_true rfl, Nat.le_of_ble_eq_true rfl⟩) ⟨fun a U g mk q => by obtain ⟨q0, qP, qK⟩ := q; exact ⟨q0, qP, va_K.moved (u := U) (U := U.calling g mk a) (Vm.Alike.refl U.vm) qK⟩, fun U hU hW => ⟨rfl, by rw [hU]; exact hPc, va_K.moved hW.alike hKc⟩⟩ rfl rfl hl.1 rfl (lv_room (Nat.le_of_ble_eq_true rfl)) d_X_interrupt_1 (⟨Nat.le_of_ble_eq_true rfl, Nat.le_of_ble_eq_true rfl⟩)) ?_
  refine tpi (y := 1) (by decide) ?_
  refine lv_if_ne (tgt := 17) hx hb d_X_interrupt_4 (by decide) (fun c_1 => ?_) (fun c_1 => ?_)
  · skip
    refine lv_aload_n hx hb d_X_interrupt_17 rfl (lv_at hl 0 rfl) ?_
    refine lv_iload_n hx hb d_X_interrupt_18 rfl (lv_at hl 1 rfl) ?_
    refine lv_iload_n hx hb d_X_interrupt_19 rfl (lv_at hl 2 rfl) ?_
    have hPc := hP.sub (ws' := [(x, .inr (4, [.int (nI bi), .int (nI ne), .int (nI li), .int (nI sp), .int (nI q), .ref sw, .ref sr, .ref br, .ref bq, .int lb]))]) [0] rfl
    have hKc := hK.sub (tys' := []) [] rfl
    refine pci (va_runV (As := [.int 1, .int (nI n)]) (rest := []) ⟨hx, hb, hml, hown, hg⟩ (c_X_isError l D x sw sr br bq bi ne li sp q lb 1 (nI n) (by omega)) (cwV 2 hg (gV gw_362 gw_364 gs_6 gw_1 gw_365) rfl rfl rfl (by decide +kernel) ⟨Nat.le_of_ble_eq_true rfl, Nat.le_of_ble_eq_true rfl⟩) ⟨fun a U g mk q => by obtain ⟨q0, qP, qK⟩ := q; exact ⟨q0, qP, va_K.moved (u := U) (U := U.calling g mk a) (Vm.Alike.refl U.vm) qK⟩, va_recv hKc hPc (ci := 4) (q0 := 0) rfl rfl, fun U hU hW => ⟨rfl, by rw [hU]; exact hPc, va_K.moved hW.alike hKc⟩⟩ rfl rfl hl.1 rfl (lv_room (Nat.le_of_ble_eq_true rfl)) d_X_interrupt_20 (⟨Nat.le_of_ble_eq_true rfl, Nat.le_of_ble_eq_true rfl⟩)) ?_
    refine tpi (y := 1) (if_pos ⟨by rw [nI_toInt (by omega)]; omega, by rw [nI_toInt (by omega)]; omega, Or.inl (nI_ne0 hn1 (by omega))⟩) ?_
    refine lv_if_ne (tgt := 36) hx hb d_X_interrupt_23 (by decide) (fun c_2 => ?_) (fun c_2 => ?_)
    · skip
      refine lv_aload_n hx hb d_X_interrupt_36 rfl (lv_at hl 0 rfl) ?_
      refine va_get (D := D) (ci := 4) (v := .ref sw) (C := R_X) (T := T_X) (N := 10) hx hb hg in_X hown hK hP 0 rfl rfl 5 (by decide) (hg _ gw_121) (fun _ h9 => h9) rfl d_X_interrupt_37 ?_
      refine lv_iload_n hx hb d_X_interrupt_40 rfl (lv_at hl 1 rfl) ?_
      have hPc := hP.sub (ws' := [(sw, .inr (3, [.ref e0, .ref e1, .int (nI pl), .int (nI rw)]))]) [1] rfl
      have hKc := hK.sub (tys' := []) [] rfl
      refine pcr (va_runV (As := [.int 1]) (rest := []) ⟨hx, hb, hml, hown, hg⟩ (c_S_endsOf1 l D sw e0 e1 pl rw) (cwV 1 hg (gV gw_367 gw_368 gw_369 gw_5 gw_370) rfl rfl rfl (by decide +kernel) ⟨Nat.le_of_ble_eq_true rfl, Nat.le_of_ble_eq_true rfl⟩) ⟨fun a U g mk q => by obtain ⟨q0, qP, qK⟩ := q; exact ⟨q0, qP, va_K.moved (u := U) (U := U.calling g mk a) (Vm.Alike.refl U.vm) qK⟩, va_recv hKc hPc (ci := 3) (q0 := 0) rfl rfl, fun U hU hW => ⟨rfl, by rw [hU]; exact hPc, va_K.moved hW.alike hKc⟩⟩ rfl rfl hl.1 rfl (lv_room (Nat.le_of_ble_eq_true rfl)) d_X_interrupt_41 (⟨Nat.le_of_ble_eq_true rfl, Nat.le_of_ble_eq_true rfl⟩)) ?_
      refine lv_astore_n (lv' := [(3, .ref e1), (0, .ref x), (1, .int 1), (2, .int (nI n))]) hx hb d_X_interrupt_44 rfl hl (by decide) rfl (fun ls hl => ?_)
      refine lv_aload_n hx hb d_X_interrupt_45 rfl (lv_at hl 0 rfl) ?_
      have hPc := hP.sub (ws' := [(e1, .inr (2, [.int 1, .int (nI fs), .int (nI sm), .int (nI ct), .int (nI ng)]))]) [2] rfl
      have hKc := hK.sub (tys' := []) [] rfl
      refine pci (va_runV (As := []) (rest := []) ⟨hx, hb, hml, hown, hg⟩ (c_E_shift1 l D e1 fs sm ct ng K hc0 (by omega) hKb hK1 hK2) (cwV 0 hg (gV gw_371 gw_372 gw_373 gw_6 gw_374) rfl rfl rfl (by decide +kernel) ⟨Nat.le_of_ble_eq_true rfl, Nat.le_of_ble_eq_true rfl⟩) ⟨fun a U g mk q => by obtain ⟨q0, qP, qK⟩ := q; exact ⟨q0, qP, va_K.moved (u := U) (U := U.calling g mk a) (Vm.Alike.refl U.vm) qK⟩, va_recv hKc hPc (ci := 2) (q0 := 0) rfl rfl, fun U hU hW => ⟨rfl, by rw [hU]; exact hPc, va_K.moved hW.alike hKc⟩⟩ rfl rfl hl.1 rfl (lv_room (Nat.le_of_ble_eq_true rfl)) d_X_interrupt_46 (⟨Nat.le_of_ble_eq_true rfl, Nat.le_of_ble_eq_true rfl⟩)) ?_
      refine lv_istore (lv' := [(4, .int (nI K)), (3, .ref e1), (0, .ref x), (1, .int 1), (2, .int (nI n))]) hx hb d_X_interrupt_49 hl (by decide) rfl (fun ls hl => ?_)
      refine lv_aload_n hx hb d_X_interrupt_51 rfl (lv_at hl 1 rfl) ?_
      refine lv_iload_n hx hb d_X_interrupt_52 rfl (lv_at hl 4 rfl) ?_
      refine lv_iload hx hb d_X_interrupt_53 (lv_at hl 0 rfl) ?_
      have hPc := hP.sub (ws' := [(e1, .inr (2, [.int 1, .int (nI fs), .int (nI sm), .int (nI ct), .int (nI ng)]))]) [2] rfl
      have hKc := hK.sub (tys' := []) [] rfl
      refine pci (va_runV (As := [.int (nI n), .int (nI K)]) (rest := []) ⟨hx, hb, hml, hown, hg⟩ (c_E_numberOf1P l D e1 fs sm ct ng n K hc0 hn0 hKb (by omega) hn1) (cwV 2 hg (gV gw_375 gw_376 gw_377 gw_6 gw_378) rfl rfl rfl (by decide +kernel) ⟨Nat.le_of_ble_eq_true rfl, Nat.le_of_ble_eq_true rfl⟩) ⟨fun a U g mk q => by obtain ⟨q0, qP, qK⟩ := q; exact ⟨q0, qP, va_K.moved (u := U) (U := U.calling g mk a) (Vm.Alike.refl U.vm) qK⟩, va_recv hKc hPc (ci := 2) (q0 := 0) rfl rfl, fun U hU hW => ⟨rfl, by rw [hU]; exact hPc, va_K.moved hW.alike hKc⟩⟩ rfl rfl hl.1 rfl (lv_room (Nat.le_of_ble_eq_true rfl)) d_X_interrupt_55 (⟨Nat.le_of_ble_eq_true rfl, Nat.le_of_ble_eq_true rfl⟩)) ?_
      refine tpi (y := nI M) (by rw [hM]) ?_
      refine lv_istore (lv' := [(5, .int (nI M)), (4, .int (nI K)), (3, .ref e1), (0, .ref x), (1, .int 1), (2, .int (nI n))]) hx hb d_X_interrupt_58 hl (by decide) rfl (fun ls hl => ?_)
      refine lv_aload_n hx hb d_X_interrupt_60 rfl (lv_at hl 3 rfl) ?_
      refine lv_aload_n hx hb d_X_interrupt_61 rfl (lv_at hl 3 rfl) ?_
      refine lv_aload_n hx hb d_X_interrupt_62 rfl (lv_at hl 3 rfl) ?_
      refine va_get (D := D) (ci := 4) (v := .ref sw) (C := R_X) (T := T_X) (N := 10) hx hb hg in_X hown hK hP 0 rfl rfl 5 (by decide) (hg _ gw_121) (fun _ h9 => h9) rfl d_X_interrupt_63 ?_
      have hPc := hP.sub (ws' := [(x, .inr (4, [.int (nI bi), .int (nI ne), .int (nI li), .int (nI sp), .int (nI q), .ref sw, .ref sr, .ref br, .ref bq, .int lb])), (sw, .inr (3, [.ref e0, .ref e1, .int (nI pl), .int (nI rw)]))]) [0, 1] rfl
      have hKc := hK.sub (tys' := []) [] rfl
      refine pci (va_runV (As := [.ref sw]) (rest := [.ref x]) ⟨hx, hb, hml, hown, hg⟩ (c_X_endLimit l D x sw sr br bq bi ne li sp q lb sw e0 e1 pl rw tw (by omega)) (cwV 1 hg (gV gw_386 gw_388 gs_8 gw_1 gw_389) rfl rfl rfl (by decide +kernel) ⟨Nat.le_of_ble_eq_true rfl, Nat.le_of_ble_eq_true rfl⟩) ⟨fun a U g mk q => by obtain ⟨q0, qP, qK, qX⟩ := q; exact ⟨q0, qP, va_K.moved (u := U) (U := U.calling g mk a) (Vm.Alike.refl U.vm) qK, qX.blind⟩, va_recv hKc hPc (ci := 4) (q0 := 0) rfl rfl, fun U hU hW => ⟨rfl, by rw [hU]; exact hPc, va_K.moved hW.alike hKc, hE.call hS noF hU hW⟩⟩ rfl rfl hl.1 rfl (lv_room (Nat.le_of_ble_eq_true rfl)) d_X_interrupt_66 (⟨Nat.le_of_ble_eq_true rfl, Nat.le_of_ble_eq_true rfl⟩)) ?_
      have hPc := hP.sub (ws' := [(x, .inr (4, [.int (nI bi), .int (nI ne), .int (nI li), .int (nI sp), .int (nI q), .ref sw, .ref sr, .ref br, .ref bq, .int lb]))]) [0] rfl
      have hKc := hK.sub (tys' := []) [] rfl
      refine pci (va_runV (As := [.int (nI (li - 1 - rw))]) (rest := []) ⟨hx, hb, hml, hown, hg⟩ (c_X_mostZeros l D x sw sr br bq bi ne li sp q lb (li - 1 - rw) (by omega)) (cwV 1 hg (gV gw_269 gw_271 gs_3 gw_1 gw_272) rfl rfl rfl (by decide +kernel) ⟨Nat.le_of_ble_eq_true rfl, Nat.le_of_ble_eq_true rfl⟩) ⟨fun a U g mk q => by obtain ⟨q0, qP, qK⟩ := q; exact ⟨q0, qP, va_K.moved (u := U) (U := U.calling g mk a) (Vm.Alike.refl U.vm) qK⟩, va_recv hKc hPc (ci := 4) (q0 := 0) rfl rfl, fun U hU hW => ⟨rfl, by rw [hU]; exact hPc, va_K.moved hW.alike hKc⟩⟩ rfl rfl hl.1 rfl (lv_room (Nat.le_of_ble_eq_true rfl)) d_X_interrupt_69 (⟨Nat.le_of_ble_eq_true rfl, Nat.le_of_ble_eq_true rfl⟩)) ?_
      refine lv_istore (lv' := [(6, .int (nI (li - 1 - rw - q - 1))), (5, .int (nI M)), (4, .int (nI K)), (3, .ref e1), (0, .ref x), (1, .int 1), (2, .int (nI n))]) hx hb d_X_interrupt_72 hl (by decide) rfl (fun ls hl => ?_)
      refine lv_aload_n hx hb d_X_interrupt_74 rfl (lv_at hl 4 rfl) ?_
      refine lv_iload hx hb d_X_interrupt_75 (lv_at hl 2 rfl) ?_
      refine lv_iload hx hb d_X_interrupt_77 (lv_at hl 1 rfl) ?_
      refine lv_iload hx hb d_X_interrupt_79 (lv_at hl 0 rfl) ?_
      have hPc := hP.sub (ws' := [(x, .inr (4, [.int (nI bi), .int (nI ne), .int (nI li), .int (nI sp), .int (nI q), .ref sw, .ref sr, .ref br, .ref bq, .int lb]))]) [0] rfl
      have hKc := hK.sub (tys' := []) [] rfl
      refine pci (va_runV (As := [.int (nI K), .int (nI M), .int (nI (li - 1 - rw - q - 1))]) (rest := []) ⟨hx, hb, hml, hown, hg⟩ (c_X_numberLength l D x sw sr br bq bi ne li sp q lb K M (li - 1 - rw - q - 1) (by omega) (by omega) (by omega)) (cwV 3 hg (gV gw_273 gw_275 gs_4 gw_1 gw_276) rfl rfl rfl (by decide +kernel) ⟨Nat.le_of_ble_eq_true rfl, Nat.le_of_ble_eq_true rfl⟩) ⟨fun a U g mk q => by obtain ⟨q0, qP, qK⟩ := q; exact ⟨q0, qP, va_K.moved (u := U) (U := U.calling g mk a) (Vm.Alike.refl U.vm) qK⟩, va_recv hKc hPc (ci := 4) (q0 := 0) rfl rfl, fun U hU hW => ⟨rfl, by rw [hU]; exact hPc, va_K.moved hW.alike hKc⟩⟩ rfl rfl hl.1 rfl (lv_room (Nat.le_of_ble_eq_true rfl)) d_X_interrupt_81 (⟨Nat.le_of_ble_eq_true rfl, Nat.le_of_ble_eq_true rfl⟩)) ?_
      refine lv_istore (lv' := [(7, .int (nI (nlen q K M (li - 1 - rw - q - 1)))), (6, .int (nI (li - 1 - rw - q - 1))), (5, .int (nI M)), (4, .int (nI K)), (3, .ref e1), (0, .ref x), (1, .int 1), (2, .int (nI n))]) hx hb d_X_interrupt_84 hl (by decide) rfl (fun ls hl => ?_)
      refine lv_aload_n hx hb d_X_interrupt_86 rfl (lv_at hl 5 rfl) ?_
      refine va_get (D := D) (ci := 4) (v := .ref br) (C := R_X) (T := T_X) (N := 10) hx hb hg in_X hown hK hP 0 rfl rfl 7 (by decide) (hg _ gw_123) (fun _ h9 => h9) rfl d_X_interrupt_87 ?_
      refine lv_iload hx hb d_X_interrupt_90 (lv_at hl 0 rfl) ?_
      have hPc := hP.sub (ws' := [(br, .inr (1, [.ref ra, .int (nI u)])), (ra, .inl (cB, 6000, .inl f))]) [3, 4] rfl
      have hKc := hK.sub (tys' := [(cB, .byte)]) [0] rfl
      refine pci (va_runV (As := [.int (nI (nlen q K M (li - 1 - rw - q - 1)))]) (rest := []) ⟨hx, hb, hml, hown, hg⟩ (c_B_hasRoom l D br ra cB u f (nlen q K M (li - 1 - rw - q - 1)) (by omega) (by omega)) (cwV 1 hg (gV gw_277 gw_278 gw_279 gw_2 gw_280) rfl rfl rfl (by decide +kernel) ⟨Nat.le_of_ble_eq_true rfl, Nat.le_of_ble_eq_true rfl⟩) ⟨fun a U g mk q => by obtain ⟨q0, qP, qK⟩ := q; exact ⟨q0, qP, va_K.moved (u := U) (U := U.calling g mk a) (Vm.Alike.refl U.vm) qK⟩, va_recv hKc hPc (ci := 1) (q0 := 0) rfl rfl, fun U hU hW => ⟨rfl, by rw [hU]; exact hPc, va_K.moved hW.alike hKc⟩⟩ rfl rfl hl.1 rfl (lv_room (Nat.le_of_ble_eq_true rfl)) d_X_interrupt_92 (⟨Nat.le_of_ble_eq_true rfl, Nat.le_of_ble_eq_true rfl⟩)) ?_
      refine tpi (y := 0) (if_neg hu) ?_
      refine lv_if_ne (tgt := 108) hx hb d_X_interrupt_95 (by decide) (fun c_3 => ?_) (fun c_3 => ?_)
      · skip
        exact absurd rfl c_3
      · skip
        exact vx_throwS (A := fun _ => False) (cls := "java/lang/UnsupportedOperationException") (names := ["java/lang/RuntimeException", "java/lang/Exception"]) (text := "too many bits") hx hb hst hown (by decide) (by decide) (hg _ gw_281) (hg _ gw_12) hEX.st_89 hEX.at_UOE XG_UOE hEX.2.2.1 hEX.2.2.2 hS (hl.1.trans hml.symm) d_X_interrupt_98 d_X_interrupt_101 d_X_interrupt_102 d_X_interrupt_104 d_X_interrupt_107 (fun x9 h9 => (hnt x9 h9).elim) (by decide) (Nat.le_of_ble_eq_true rfl) (by decide) (by decide) hlocks (fun t ht g1 g2 => ⟨(), trivial, rfl, g1, fun q9 h9 _ => g2 q9 h9⟩) (fun z9 h9 => by cases h9) (by decide) (by decide)
    · skip
      exact absurd c_2 (by decide)
  · skip
    exact absurd c_1 (by decide)
set_option maxHeartbeats 4000000 in
set_option maxRecDepth 100000 in
theorem t_X_interruptU1N (l : Launch) (hst : l.stackTraces = false) (D : va_G) (tw : Nat) (sa : Nat → Nat) (x sw sr br bq bi ne li sp q : Nat) (lb : Int32) (e0 e1 pl rw : Nat) (fs sm ct ng : Nat) (ra : Nat) (cB : ClassId) (u : Nat) (f : Nat → Int32) (n K M : Nat) (hc0 : ct ≤ 64) (hn0 : ng ≤ 64) (hs0 : sm < 2 ^ 29) (hKb : K ≤ 29) (hK1 : sm + ct / 2 ≤ ct * 2 ^ K) (hK2 : ∀ j, j < K → ct * 2 ^ j < sm + ct / 2) (hsp : sp ≤ 65536) (hn : n ≤ sp / 2) (hn1 : 0 < n) (hM : M = 2 * n - 1 - (if (K = 0 ∧ 2 * ng < ct) then 0 else 1)) (hq : q ≤ 29) (hli : q + 18 ≤ li) (hlb : li ≤ 200) (hrw : rw ≤ 15) (hu6 : u ≤ 6000) (hu : ¬ u + nlen q K M (li - 1 - rw - q - 1) ≤ 6000) : vx_Met l y_X_interrupt (WSY y_X_interrupt b_X_interrupt 8 (some .int)) ({ frames := 6, cells := 1, slots := 6, locals := 110 }) (va_Pc [.ref x, .int 1, .int (-nI n)] (fun U => va_P D CLS [(x, .inr (4, [.int (nI bi), .int (nI ne), .int (nI li), .int (nI sp), .int (nI q), .ref sw, .ref sr, .ref br, .ref bq, .int lb])), (sw, .inr (3, [.ref e0, .ref e1, .int (nI pl), .int (nI rw)])), (e1, .inr (2, [.int 1, .int (nI fs), .int (nI sm), .int (nI ct), .int (nI ng)])), (br, .inr (1, [.ref ra, .int (nI u)])), (ra, .inl (cB, 6000, .inl f))] U.heap ∧ va_K D CLS [(cB, .byte)] U ∧ EV (fun _ => False) tw U ∧ EX (fun _ => False) sa U)) QT (XT "java/lang/UnsupportedOperationException") 1 6 (fun _ => False) := by
  refine vx_ofW (cc := b_X_interrupt) (maxL := 8) (ret := (some .int)) (by decide) rfl ?_
  intro p e s m args below meth c s₁ B hml hnt hv
  obtain ⟨rfl, hP, hK, hE, hEX⟩ := hv
  have hx := B.exec
  have hb := B.bytes
  have hr := B.returns
  have hts := atoms_spec (ws := WSY y_X_interrupt b_X_interrupt 8 (some .int)) B.pre
  have hg : ∀ w ∈ GW, w.before _ s = true := fun w h => hts w (List.mem_cons_of_mem _ h)
  have hown : s.vm.findClass "LineGolomb" = some m.cls := findClass_of_methodNamed B.named
  have hlocks := B.notSynchronized
  have hS : va_S (fun _ => False) s.heap s.heap [] := va_S.rf
  have hl := lv_entry ([.ref x, .int 1, .int (-nI n)]) (n := 8) (Nat.le_of_ble_eq_true rfl)
  rw [lg_entry_eq]
  generalize (lg_sl ([.ref x, .int 1, .int (-nI n)]) ++ List.replicate (8 - (lg_sl ([.ref x, .int 1, .int (-nI n)])).length) Slot.unset).toArray = ls at hl ⊢
  have hl : lv_has ls 8 [(0, .ref x), (1, .int 1), (2, .int (-nI n))] := hl
  have hMb : M ≤ 2 * n := by rw [hM]; omega
  have hlen : nlen q K M (li - 1 - rw - q - 1) < 2 ^ 31 := by unfold nlen; have := Nat.div_le_self M (2 ^ K); split <;> omega
  refine lv_iload_n hx hb d_X_interrupt_0 rfl (lv_at hl 1 rfl) ?_
  have hPc := hP.sub (ws' := []) [] rfl
  have hKc := hK.sub (tys' := []) [] rfl
  refine pci (va_runS (As := [.int 1]) (rest := []) ⟨hx, hb, hml, hown, hg⟩ (c_X_isKind l D 1) (va_cwS 1 hg (gS gw_343 gw_344 gw_1 gw_345) rfl rfl rfl (by decide +kernel) ⟨Nat.le_of_ble_eq_true rfl, Nat.le_of_ble_eq_true rfl⟩) ⟨fun a U g mk q => by obtain ⟨q0, qP, qK⟩ := q; exact ⟨q0, qP, va_K.moved (u := U) (U := U.calling g mk a) (Vm.Alike.refl U.vm) qK⟩, fun U hU hW => ⟨rfl, by rw [hU]; exact hPc, va_K.moved hW.alike hKc⟩⟩ rfl rfl hl.1 rfl (lv_room (Nat.le_of_ble_eq_true rfl)) d_X_interrupt_1 (⟨Nat.le_of_ble_eq_true rfl, Nat.le_of_ble_eq_true rfl⟩)) ?_
  refine tpi (y := 1) (by decide) ?_
  refine lv_if_ne (tgt := 17) hx hb d_X_interrupt_4 (by decide) (fun c_1 => ?_) (fun c_1 => ?_)
  · skip
    refine lv_aload_n hx hb d_X_interrupt_17 rfl (lv_at hl 0 rfl) ?_
    refine lv_iload_n hx hb d_X_interrupt_18 rfl (lv_at hl 1 rfl) ?_
    refine lv_iload_n hx hb d_X_interrupt_19 rfl (lv_at hl 2 rfl) ?_
    have hPc := hP.sub (ws' := [(x, .inr (4, [.int (nI bi), .int (nI ne), .int (nI li), .int (nI sp), .int (nI q), .ref sw, .ref sr, .ref br, .ref bq, .int lb]))]) [0] rfl
    have hKc := hK.sub (tys' := []) [] rfl
    refine pci (va_runV (As := [.int 1, .int (-nI n)]) (rest := []) ⟨hx, hb, hml, hown, hg⟩ (c_X_isError l D x sw sr br bq bi ne li sp q lb 1 (-nI n) (by omega)) (cwV 2 hg (gV gw_362 gw_364 gs_6 gw_1 gw_365) rfl rfl rfl (by decide +kernel) ⟨Nat.le_of_ble_eq_true rfl, Nat.le_of_ble_eq_true rfl⟩) ⟨fun a U g mk q => by obtain ⟨q0, qP, qK⟩ := q; exact ⟨q0, qP, va_K.moved (u := U) (U := U.calling g mk a) (Vm.Alike.refl U.vm) qK⟩, va_recv hKc hPc (ci := 4) (q0 := 0) rfl rfl, fun U hU hW => ⟨rfl, by rw [hU]; exact hPc, va_K.moved hW.alike hKc⟩⟩ rfl rfl hl.1 rfl (lv_room (Nat.le_of_ble_eq_true rfl)) d_X_interrupt_20 (⟨Nat.le_of_ble_eq_true rfl, Nat.le_of_ble_eq_true rfl⟩)) ?_
    refine tpi (y := 1) (if_pos ⟨by rw [ngT (by omega)]; omega, by rw [ngT (by omega)]; omega, Or.inl (by rw [eqT, ngT (by omega), zT]; omega)⟩) ?_
    refine lv_if_ne (tgt := 36) hx hb d_X_interrupt_23 (by decide) (fun c_2 => ?_) (fun c_2 => ?_)
    · skip
      refine lv_aload_n hx hb d_X_interrupt_36 rfl (lv_at hl 0 rfl) ?_
      refine va_get (D := D) (ci := 4) (v := .ref sw) (C := R_X) (T := T_X) (N := 10) hx hb hg in_X hown hK hP 0 rfl rfl 5 (by decide) (hg _ gw_121) (fun _ h9 => h9) rfl d_X_interrupt_37 ?_
      refine lv_iload_n hx hb d_X_interrupt_40 rfl (lv_at hl 1 rfl) ?_
      have hPc := hP.sub (ws' := [(sw, .inr (3, [.ref e0, .ref e1, .int (nI pl), .int (nI rw)]))]) [1] rfl
      have hKc := hK.sub (tys' := []) [] rfl
      refine pcr (va_runV (As := [.int 1]) (rest := []) ⟨hx, hb, hml, hown, hg⟩ (c_S_endsOf1 l D sw e0 e1 pl rw) (cwV 1 hg (gV gw_367 gw_368 gw_369 gw_5 gw_370) rfl rfl rfl (by decide +kernel) ⟨Nat.le_of_ble_eq_true rfl, Nat.le_of_ble_eq_true rfl⟩) ⟨fun a U g mk q => by obtain ⟨q0, qP, qK⟩ := q; exact ⟨q0, qP, va_K.moved (u := U) (U := U.calling g mk a) (Vm.Alike.refl U.vm) qK⟩, va_recv hKc hPc (ci := 3) (q0 := 0) rfl rfl, fun U hU hW => ⟨rfl, by rw [hU]; exact hPc, va_K.moved hW.alike hKc⟩⟩ rfl rfl hl.1 rfl (lv_room (Nat.le_of_ble_eq_true rfl)) d_X_interrupt_41 (⟨Nat.le_of_ble_eq_true rfl, Nat.le_of_ble_eq_true rfl⟩)) ?_
      refine lv_astore_n (lv' := [(3, .ref e1), (0, .ref x), (1, .int 1), (2, .int (-nI n))]) hx hb d_X_interrupt_44 rfl hl (by decide) rfl (fun ls hl => ?_)
      refine lv_aload_n hx hb d_X_interrupt_45 rfl (lv_at hl 0 rfl) ?_
      have hPc := hP.sub (ws' := [(e1, .inr (2, [.int 1, .int (nI fs), .int (nI sm), .int (nI ct), .int (nI ng)]))]) [2] rfl
      have hKc := hK.sub (tys' := []) [] rfl
      refine pci (va_runV (As := []) (rest := []) ⟨hx, hb, hml, hown, hg⟩ (c_E_shift1 l D e1 fs sm ct ng K hc0 (by omega) hKb hK1 hK2) (cwV 0 hg (gV gw_371 gw_372 gw_373 gw_6 gw_374) rfl rfl rfl (by decide +kernel) ⟨Nat.le_of_ble_eq_true rfl, Nat.le_of_ble_eq_true rfl⟩) ⟨fun a U g mk q => by obtain ⟨q0, qP, qK⟩ := q; exact ⟨q0, qP, va_K.moved (u := U) (U := U.calling g mk a) (Vm.Alike.refl U.vm) qK⟩, va_recv hKc hPc (ci := 2) (q0 := 0) rfl rfl, fun U hU hW => ⟨rfl, by rw [hU]; exact hPc, va_K.moved hW.alike hKc⟩⟩ rfl rfl hl.1 rfl (lv_room (Nat.le_of_ble_eq_true rfl)) d_X_interrupt_46 (⟨Nat.le_of_ble_eq_true rfl, Nat.le_of_ble_eq_true rfl⟩)) ?_
      refine lv_istore (lv' := [(4, .int (nI K)), (3, .ref e1), (0, .ref x), (1, .int 1), (2, .int (-nI n))]) hx hb d_X_interrupt_49 hl (by decide) rfl (fun ls hl => ?_)
      refine lv_aload_n hx hb d_X_interrupt_51 rfl (lv_at hl 1 rfl) ?_
      refine lv_iload_n hx hb d_X_interrupt_52 rfl (lv_at hl 4 rfl) ?_
      refine lv_iload hx hb d_X_interrupt_53 (lv_at hl 0 rfl) ?_
      have hPc := hP.sub (ws' := [(e1, .inr (2, [.int 1, .int (nI fs), .int (nI sm), .int (nI ct), .int (nI ng)]))]) [2] rfl
      have hKc := hK.sub (tys' := []) [] rfl
      refine pci (va_runV (As := [.int (-nI n), .int (nI K)]) (rest := []) ⟨hx, hb, hml, hown, hg⟩ (c_E_numberOf1N l D e1 fs sm ct ng n K hc0 hn0 hKb (by omega) hn1) (cwV 2 hg (gV gw_375 gw_376 gw_377 gw_6 gw_378) rfl rfl rfl (by decide +kernel) ⟨Nat.le_of_ble_eq_true rfl, Nat.le_of_ble_eq_true rfl⟩) ⟨fun a U g mk q => by obtain ⟨q0, qP, qK⟩ := q; exact ⟨q0, qP, va_K.moved (u := U) (U := U.calling g mk a) (Vm.Alike.refl U.vm) qK⟩, va_recv hKc hPc (ci := 2) (q0 := 0) rfl rfl, fun U hU hW => ⟨rfl, by rw [hU]; exact hPc, va_K.moved hW.alike hKc⟩⟩ rfl rfl hl.1 rfl (lv_room (Nat.le_of_ble_eq_true rfl)) d_X_interrupt_55 (⟨Nat.le_of_ble_eq_true rfl, Nat.le_of_ble_eq_true rfl⟩)) ?_
      refine tpi (y := nI M) (by rw [hM]) ?_
      refine lv_istore (lv' := [(5, .int (nI M)), (4, .int (nI K)), (3, .ref e1), (0, .ref x), (1, .int 1), (2, .int (-nI n))]) hx hb d_X_interrupt_58 hl (by decide) rfl (fun ls hl => ?_)
      refine lv_aload_n hx hb d_X_interrupt_60 rfl (lv_at hl 3 rfl) ?_
      refine lv_aload_n hx hb d_X_interrupt_61 rfl (lv_at hl 3 rfl) ?_
      refine lv_aload_n hx hb d_X_interrupt_62 rfl (lv_at hl 3 rfl) ?_
      refine va_get (D := D) (ci := 4) (v := .ref sw) (C := R_X) (T := T_X) (N := 10) hx hb hg in_X hown hK hP 0 rfl rfl 5 (by decide) (hg _ gw_121) (fun _ h9 => h9) rfl d_X_interrupt_63 ?_
      have hPc := hP.sub (ws' := [(x, .inr (4, [.int (nI bi), .int (nI ne), .int (nI li), .int (nI sp), .int (nI q), .ref sw, .ref sr, .ref br, .ref bq, .int lb])), (sw, .inr (3, [.ref e0, .ref e1, .int (nI pl), .int (nI rw)]))]) [0, 1] rfl
      have hKc := hK.sub (tys' := []) [] rfl
      refine pci (va_runV (As := [.ref sw]) (rest := [.ref x]) ⟨hx, hb, hml, hown, hg⟩ (c_X_endLimit l D x sw sr br bq bi ne li sp q lb sw e0 e1 pl rw tw (by omega)) (cwV 1 hg (gV gw_386 gw_388 gs_8 gw_1 gw_389) rfl rfl rfl (by decide +kernel) ⟨Nat.le_of_ble_eq_true rfl, Nat.le_of_ble_eq_true rfl⟩) ⟨fun a U g mk q => by obtain ⟨q0, qP, qK, qX⟩ := q; exact ⟨q0, qP, va_K.moved (u := U) (U := U.calling g mk a) (Vm.Alike.refl U.vm) qK, qX.blind⟩, va_recv hKc hPc (ci := 4) (q0 := 0) rfl rfl, fun U hU hW => ⟨rfl, by rw [hU]; exact hPc, va_K.moved hW.alike hKc, hE.call hS noF hU hW⟩⟩ rfl rfl hl.1 rfl (lv_room (Nat.le_of_ble_eq_true rfl)) d_X_interrupt_66 (⟨Nat.le_of_ble_eq_true rfl, Nat.le_of_ble_eq_true rfl⟩)) ?_
      have hPc := hP.sub (ws' := [(x, .inr (4, [.int (nI bi), .int (nI ne), .int (nI li), .int (nI sp), .int (nI q), .ref sw, .ref sr, .ref br, .ref bq, .int lb]))]) [0] rfl
      have hKc := hK.sub (tys' := []) [] rfl
      refine pci (va_runV (As := [.int (nI (li - 1 - rw))]) (rest := []) ⟨hx, hb, hml, hown, hg⟩ (c_X_mostZeros l D x sw sr br bq bi ne li sp q lb (li - 1 - rw) (by omega)) (cwV 1 hg (gV gw_269 gw_271 gs_3 gw_1 gw_272) rfl rfl rfl (by decide +kernel) ⟨Nat.le_of_ble_eq_true rfl, Nat.le_of_ble_eq_true rfl⟩) ⟨fun a U g mk q => by obtain ⟨q0, qP, qK⟩ := q; exact ⟨q0, qP, va_K.moved (u := U) (U := U.calling g mk a) (Vm.Alike.refl U.vm) qK⟩, va_recv hKc hPc (ci := 4) (q0 := 0) rfl rfl, fun U hU hW => ⟨rfl, by rw [hU]; exact hPc, va_K.moved hW.alike hKc⟩⟩ rfl rfl hl.1 rfl (lv_room (Nat.le_of_ble_eq_true rfl)) d_X_interrupt_69 (⟨Nat.le_of_ble_eq_true rfl, Nat.le_of_ble_eq_true rfl⟩)) ?_
      refine lv_istore (lv' := [(6, .int (nI (li - 1 - rw - q - 1))), (5, .int (nI M)), (4, .int (nI K)), (3, .ref e1), (0, .ref x), (1, .int 1), (2, .int (-nI n))]) hx hb d_X_interrupt_72 hl (by decide) rfl (fun ls hl => ?_)
      refine lv_aload_n hx hb d_X_interrupt_74 rfl (lv_at hl 4 rfl) ?_
      refine lv_iload hx hb d_X_interrupt_75 (lv_at hl 2 rfl) ?_
      refine lv_iload hx hb d_X_interrupt_77 (lv_at hl 1 rfl) ?_
      refine lv_iload hx hb d_X_interrupt_79 (lv_at hl 0 rfl) ?_
      have hPc := hP.sub (ws' := [(x, .inr (4, [.int (nI bi), .int (nI ne), .int (nI li), .int (nI sp), .int (nI q), .ref sw, .ref sr, .ref br, .ref bq, .int lb]))]) [0] rfl
      have hKc := hK.sub (tys' := []) [] rfl
      refine pci (va_runV (As := [.int (nI K), .int (nI M), .int (nI (li - 1 - rw - q - 1))]) (rest := []) ⟨hx, hb, hml, hown, hg⟩ (c_X_numberLength l D x sw sr br bq bi ne li sp q lb K M (li - 1 - rw - q - 1) (by omega) (by omega) (by omega)) (cwV 3 hg (gV gw_273 gw_275 gs_4 gw_1 gw_276) rfl rfl rfl (by decide +kernel) ⟨Nat.le_of_ble_eq_true rfl, Nat.le_of_ble_eq_true rfl⟩) ⟨fun a U g mk q => by obtain ⟨q0, qP, qK⟩ := q; exact ⟨q0, qP, va_K.moved (u := U) (U := U.calling g mk a) (Vm.Alike.refl U.vm) qK⟩, va_recv hKc hPc (ci := 4) (q0 := 0) rfl rfl, fun U hU hW => ⟨rfl, by rw [hU]; exact hPc, va_K.moved hW.alike hKc⟩⟩ rfl rfl hl.1 rfl (lv_room (Nat.le_of_ble_eq_true rfl)) d_X_interrupt_81 (⟨Nat.le_of_ble_eq_true rfl, Nat.le_of_ble_eq_true rfl⟩)) ?_
      refine lv_istore (lv' := [(7, .int (nI (nlen q K M (li - 1 - rw - q - 1)))), (6, .int (nI (li - 1 - rw - q - 1))), (5, .int (nI M)), (4, .int (nI K)), (3, .ref e1), (0, .ref x), (1, .int 1), (2, .int (-nI n))]) hx hb d_X_interrupt_84 hl (by decide) rfl (fun ls hl => ?_)
      refine lv_aload_n hx hb d_X_interrupt_86 rfl (lv_at hl 5 rfl) ?_
      refine va_get (D := D) (ci := 4) (v := .ref br) (C := R_X) (T := T_X) (N := 10) hx hb hg in_X hown hK hP 0 rfl rfl 7 (by decide) (hg _ gw_123) (fun _ h9 => h9) rfl d_X_interrupt_87 ?_
      refine lv_iload hx hb d_X_interrupt_90 (lv_at hl 0 rfl) ?_
      have hPc := hP.sub (ws' := [(br, .inr (1, [.ref ra, .int (nI u)])), (ra, .inl (cB, 6000, .inl f))]) [3, 4] rfl
      have hKc := hK.sub (tys' := [(cB, .byte)]) [0] rfl
      refine pci (va_runV (As := [.int (nI (nlen q K M (li - 1 - rw - q - 1)))]) (rest := []) ⟨hx, hb, hml, hown, hg⟩ (c_B_hasRoom l D br ra cB u f (nlen q K M (li - 1 - rw - q - 1)) (by omega) (by omega)) (cwV 1 hg (gV gw_277 gw_278 gw_279 gw_2 gw_280) rfl rfl rfl (by decide +kernel) ⟨Nat.le_of_ble_eq_true rfl, Nat.le_of_ble_eq_true rfl⟩) ⟨fun a U g mk q => by obtain ⟨q0, qP, qK⟩ := q; exact ⟨q0, qP, va_K.moved (u := U) (U := U.calling g mk a) (Vm.Alike.refl U.vm) qK⟩, va_recv hKc hPc (ci := 1) (q0 := 0) rfl rfl, fun U hU hW => ⟨rfl, by rw [hU]; exact hPc, va_K.moved hW.alike hKc⟩⟩ rfl rfl hl.1 rfl (lv_room (Nat.le_of_ble_eq_true rfl)) d_X_interrupt_92 (⟨Nat.le_of_ble_eq_true rfl, Nat.le_of_ble_eq_true rfl⟩)) ?_
      refine tpi (y := 0) (if_neg hu) ?_
      refine lv_if_ne (tgt := 108) hx hb d_X_interrupt_95 (by decide) (fun c_3 => ?_) (fun c_3 => ?_)
      · skip
        exact absurd rfl c_3
      · skip
        exact vx_throwS (A := fun _ => False) (cls := "java/lang/UnsupportedOperationException") (names := ["java/lang/RuntimeException", "java/lang/Exception"]) (text := "too many bits") hx hb hst hown (by decide) (by decide) (hg _ gw_281) (hg _ gw_12) hEX.st_89 hEX.at_UOE XG_UOE hEX.2.2.1 hEX.2.2.2 hS (hl.1.trans hml.symm) d_X_interrupt_98 d_X_interrupt_101 d_X_interrupt_102 d_X_interrupt_104 d_X_interrupt_107 (fun x9 h9 => (hnt x9 h9).elim) (by decide) (Nat.le_of_ble_eq_true rfl) (by decide) (by decide) hlocks (fun t ht g1 g2 => ⟨(), trivial, rfl, g1, fun q9 h9 _ => g2 q9 h9⟩) (fun z9 h9 => by cases h9) (by decide) (by decide)
    · skip
      exact absurd c_2 (by decide)
  · skip
    exact absurd c_1 (by decide)
set_option maxHeartbeats 4000000 in
set_option maxRecDepth 100000 in
theorem t_X_bitAt (l : Launch) (hst : l.stackTraces = false) (D : va_G) (tw : Nat) (sa : Nat → Nat) (x sw sr br bq bi ne li sp q : Nat) (lb : Int32) (ra u : Nat) (v0 : Int32) (hbad : v0 < 0 ∨ nI u ≤ v0) : vx_Met l y_X_bitAt (WSY y_X_bitAt b_X_bitAt 2 (some .int)) ({ frames := 6, cells := 1, slots := 6, locals := 110 }) (va_Pc [.ref x, .int v0] (fun U => va_P D CLS [(x, .inr (4, [.int (nI bi), .int (nI ne), .int (nI li), .int (nI sp), .int (nI q), .ref sw, .ref sr, .ref br, .ref bq, .int lb])), (br, .inr (1, [.ref ra, .int (nI u)]))] U.heap ∧ va_K D CLS [] U ∧ EV (fun _ => False) tw U ∧ EX (fun _ => False) sa U)) QT (XT "java/lang/IndexOutOfBoundsException") 1 6 (fun _ => False) := by
  refine vx_ofW (cc := b_X_bitAt) (maxL := 2) (ret := (some .int)) (by decide) rfl ?_
  intro p e s m args below meth c s₁ B hml hnt hv
  obtain ⟨rfl, hP, hK, hE, hEX⟩ := hv
  have hx := B.exec
  have hb := B.bytes
  have hr := B.returns
  have hts := atoms_spec (ws := WSY y_X_bitAt b_X_bitAt 2 (some .int)) B.pre
  have hg : ∀ w ∈ GW, w.before _ s = true := fun w h => hts w (List.mem_cons_of_mem _ h)
  have hown : s.vm.findClass "LineGolomb" = some m.cls := findClass_of_methodNamed B.named
  have hlocks := B.notSynchronized
  have hS : va_S (fun _ => False) s.heap s.heap [] := va_S.rf
  have hl := lv_entry ([.ref x, .int v0]) (n := 2) (Nat.le_of_ble_eq_true rfl)
  rw [lg_entry_eq]
  generalize (lg_sl ([.ref x, .int v0]) ++ List.replicate (2 - (lg_sl ([.ref x, .int v0])).length) Slot.unset).toArray = ls at hl ⊢
  have hl : lv_has ls 2 [(0, .ref x), (1, .int v0)] := hl
  refine lv_iload_n hx hb d_X_bitAt_0 rfl (lv_at hl 1 rfl) ?_
  refine lv_if_lt (tgt := 15) hx hb d_X_bitAt_1 (by decide) (fun c_1 => ?_) (fun c_1 => ?_)
  · skip
    exact vx_throwS (A := fun _ => False) (cls := "java/lang/IndexOutOfBoundsException") (names := ["java/lang/RuntimeException", "java/lang/Exception"]) (text := "no such bit") hx hb hst hown (by decide) (by decide) (hg _ gw_346) (hg _ gw_13) hEX.st_156 hEX.at_IOE XG_IOE hEX.2.2.1 hEX.2.2.2 hS (hl.1.trans hml.symm) d_X_bitAt_15 d_X_bitAt_18 d_X_bitAt_19 d_X_bitAt_21 d_X_bitAt_24 (fun x9 h9 => (hnt x9 h9).elim) (by decide) (Nat.le_of_ble_eq_true rfl) (by decide) (by decide) hlocks (fun t ht g1 g2 => ⟨(), trivial, rfl, g1, fun q9 h9 _ => g2 q9 h9⟩) (fun z9 h9 => by cases h9) (by decide) (by decide)
  · skip
    refine lv_iload_n hx hb d_X_bitAt_4 rfl (lv_at hl 1 rfl) ?_
    refine lv_aload_n hx hb d_X_bitAt_5 rfl (lv_at hl 0 rfl) ?_
    refine va_get (D := D) (ci := 4) (v := .ref br) (C := R_X) (T := T_X) (N := 10) hx hb hg in_X hown hK hP 0 rfl rfl 7 (by decide) (hg _ gw_123) (fun _ h9 => h9) rfl d_X_bitAt_6 ?_
    refine va_getN (D := D) (ci := 1) (v := .int (nI u)) (C := R_B) (T := T_B) (N := 2) hx hb hg in_B hown hK hP 1 rfl rfl 1 (by decide) (va_Nw.use rfl (hE.nw nw_30)) (fun _ h9 => h9) rfl d_X_bitAt_9 ?_
    refine lv_icmp_lt (tgt := 25) hx hb d_X_bitAt_12 (by decide) (fun c_2 => ?_) (fun c_2 => ?_)
    · skip
      exact absurd hbad (fun q9 => q9.elim c_1 (Int32.not_le.mpr c_2))
    · skip
      exact vx_throwS (A := fun _ => False) (cls := "java/lang/IndexOutOfBoundsException") (names := ["java/lang/RuntimeException", "java/lang/Exception"]) (text := "no such bit") hx hb hst hown (by decide) (by decide) (hg _ gw_346) (hg _ gw_13) hEX.st_156 hEX.at_IOE XG_IOE hEX.2.2.1 hEX.2.2.2 hS (hl.1.trans hml.symm) d_X_bitAt_15 d_X_bitAt_18 d_X_bitAt_19 d_X_bitAt_21 d_X_bitAt_24 (fun x9 h9 => (hnt x9 h9).elim) (by decide) (Nat.le_of_ble_eq_true rfl) (by decide) (by decide) hlocks (fun t ht g1 g2 => ⟨(), trivial, rfl, g1, fun q9 h9 _ => g2 q9 h9⟩) (fun z9 h9 => by cases h9) (by decide) (by decide)
set_option maxHeartbeats 4000000 in
set_option maxRecDepth 100000 in
theorem t_X_feed (l : Launch) (hst : l.stackTraces = false) (D : va_G) (tw : Nat) (sa : Nat → Nat) (x sw sr br bq bi ne li sp q : Nat) (lb : Int32) (v0 : Int32) (hbad : ¬ (v0 = 0 ∨ v0 = 1)) : vx_Met l y_X_feed (WSY y_X_feed b_X_feed 2 (some .boolean)) ({ frames := 6, cells := 1, slots := 6, locals := 110 }) (va_Pc [.ref x, .int v0] (fun U => va_P D CLS [(x, .inr (4, [.int (nI bi), .int (nI ne), .int (nI li), .int (nI sp), .int (nI q), .ref sw, .ref sr, .ref br, .ref bq, .int lb]))] U.heap ∧ va_K D CLS [] U ∧ EV (fun _ => False) tw U ∧ EX (fun _ => False) sa U)) QT (XT "java/lang/IllegalArgumentException") 1 6 (fun _ => False) := by
  refine vx_ofW (cc := b_X_feed) (maxL := 2) (ret := (some .boolean)) (by decide) rfl ?_
  intro p e s m args below meth c s₁ B hml hnt hv
  obtain ⟨rfl, hP, hK, hE, hEX⟩ := hv
  have hx := B.exec
  have hb := B.bytes
  have hr := B.returns
  have hts := atoms_spec (ws := WSY y_X_feed b_X_feed 2 (some .boolean)) B.pre
  have hg : ∀ w ∈ GW, w.before _ s = true := fun w h => hts w (List.mem_cons_of_mem _ h)
  have hown : s.vm.findClass "LineGolomb" = some m.cls := findClass_of_methodNamed B.named
  have hlocks := B.notSynchronized
  have hS : va_S (fun _ => False) s.heap s.heap [] := va_S.rf
  have hl := lv_entry ([.ref x, .int v0]) (n := 2) (Nat.le_of_ble_eq_true rfl)
  rw [lg_entry_eq]
  generalize (lg_sl ([.ref x, .int v0]) ++ List.replicate (2 - (lg_sl ([.ref x, .int v0])).length) Slot.unset).toArray = ls at hl ⊢
  have hl : lv_has ls 2 [(0, .ref x), (1, .int v0)] := hl
  refine lv_iload_n hx hb d_X_feed_0 rfl (lv_at hl 1 rfl) ?_
  refine lv_if_eq (tgt := 19) hx hb d_X_feed_1 (by decide) (fun c_1 => ?_) (fun c_1 => ?_)
  · skip
    exact absurd (Or.inl c_1) hbad
  · skip
    refine lv_iload_n hx hb d_X_feed_4 rfl (lv_at hl 1 rfl) ?_
    refine lv_iconst (v := 1) hx hb d_X_feed_5 (by decide) ?_
    refine lv_icmp_eq (tgt := 19) hx hb d_X_feed_6 (by decide) (fun c_2 => ?_) (fun c_2 => ?_)
    · skip
      exact absurd (Or.inr c_2) hbad
    · skip
      exact vx_throwS (A := fun _ => False) (cls := "java/lang/IllegalArgumentException") (names := ["java/lang/RuntimeException", "java/lang/Exception"]) (text := "not a bit") hx hb hst hown (by decide) (by decide) (hg _ gw_201) (hg _ gw_11) hEX.st_161 hEX.at_IAE XG_IAE hEX.2.2.1 hEX.2.2.2 hS (hl.1.trans hml.symm) d_X_feed_9 d_X_feed_12 d_X_feed_13 d_X_feed_15 d_X_feed_18 (fun x9 h9 => (hnt x9 h9).elim) (by decide) (Nat.le_of_ble_eq_true rfl) (by decide) (by decide) hlocks (fun t ht g1 g2 => ⟨(), trivial, rfl, g1, fun q9 h9 _ => g2 q9 h9⟩) (fun z9 h9 => by cases h9) (by decide) (by decide)
set_option maxHeartbeats 4000000 in
set_option maxRecDepth 100000 in
theorem t_X_passI (l : Launch) (hst : l.stackTraces = false) (D : va_G) (tw : Nat) (sa : Nat → Nat) (x sw sr br bq bi ne li sp q : Nat) (lb : Int32) (ra u : Nat) (v0 v1 : Int32) (hbad : v0 < 0 ∨ nI u < v0) : vx_Met l y_X_pass (WSY y_X_pass b_X_pass 5 (some .int)) ({ frames := 6, cells := 1, slots := 6, locals := 110 }) (va_Pc [.ref x, .int v0, .int v1] (fun U => va_P D CLS [(x, .inr (4, [.int (nI bi), .int (nI ne), .int (nI li), .int (nI sp), .int (nI q), .ref sw, .ref sr, .ref br, .ref bq, .int lb])), (br, .inr (1, [.ref ra, .int (nI u)]))] U.heap ∧ va_K D CLS [] U ∧ EV (fun _ => False) tw U ∧ EX (fun _ => False) sa U)) QT (XT "java/lang/IndexOutOfBoundsException") 1 6 (fun _ => False) := by
  refine vx_ofW (cc := b_X_pass) (maxL := 5) (ret := (some .int)) (by decide) rfl ?_
  intro p e s m args below meth c s₁ B hml hnt hv
  obtain ⟨rfl, hP, hK, hE, hEX⟩ := hv
  have hx := B.exec
  have hb := B.bytes
  have hr := B.returns
  have hts := atoms_spec (ws := WSY y_X_pass b_X_pass 5 (some .int)) B.pre
  have hg : ∀ w ∈ GW, w.before _ s = true := fun w h => hts w (List.mem_cons_of_mem _ h)
  have hown : s.vm.findClass "LineGolomb" = some m.cls := findClass_of_methodNamed B.named
  have hlocks := B.notSynchronized
  have hS : va_S (fun _ => False) s.heap s.heap [] := va_S.rf
  have hl := lv_entry ([.ref x, .int v0, .int v1]) (n := 5) (Nat.le_of_ble_eq_true rfl)
  rw [lg_entry_eq]
  generalize (lg_sl ([.ref x, .int v0, .int v1]) ++ List.replicate (5 - (lg_sl ([.ref x, .int v0, .int v1])).length) Slot.unset).toArray = ls at hl ⊢
  have hl : lv_has ls 5 [(0, .ref x), (1, .int v0), (2, .int v1)] := hl
  refine lv_iload_n hx hb d_X_pass_0 rfl (lv_at hl 1 rfl) ?_
  refine lv_if_lt (tgt := 15) hx hb d_X_pass_1 (by decide) (fun c_1 => ?_) (fun c_1 => ?_)
  · skip
    exact vx_throwS (A := fun _ => False) (cls := "java/lang/IndexOutOfBoundsException") (names := ["java/lang/RuntimeException", "java/lang/Exception"]) (text := "no such bit") hx hb hst hown (by decide) (by decide) (hg _ gw_346) (hg _ gw_13) hEX.st_156 hEX.at_IOE XG_IOE hEX.2.2.1 hEX.2.2.2 hS (hl.1.trans hml.symm) d_X_pass_15 d_X_pass_18 d_X_pass_19 d_X_pass_21 d_X_pass_24 (fun x9 h9 => (hnt x9 h9).elim) (by decide) (Nat.le_of_ble_eq_true rfl) (by decide) (by decide) hlocks (fun t ht g1 g2 => ⟨(), trivial, rfl, g1, fun q9 h9 _ => g2 q9 h9⟩) (fun z9 h9 => by cases h9) (by decide) (by decide)
  · skip
    refine lv_iload_n hx hb d_X_pass_4 rfl (lv_at hl 1 rfl) ?_
    refine lv_aload_n hx hb d_X_pass_5 rfl (lv_at hl 0 rfl) ?_
    refine va_get (D := D) (ci := 4) (v := .ref br) (C := R_X) (T := T_X) (N := 10) hx hb hg in_X hown hK hP 0 rfl rfl 7 (by decide) (hg _ gw_123) (fun _ h9 => h9) rfl d_X_pass_6 ?_
    refine va_getN (D := D) (ci := 1) (v := .int (nI u)) (C := R_B) (T := T_B) (N := 2) hx hb hg in_B hown hK hP 1 rfl rfl 1 (by decide) (va_Nw.use rfl (hE.nw nw_30)) (fun _ h9 => h9) rfl d_X_pass_9 ?_
    refine lv_icmp_le (tgt := 25) hx hb d_X_pass_12 (by decide) (fun c_2 => ?_) (fun c_2 => ?_)
    · skip
      exact absurd hbad (fun q9 => q9.elim c_1 (Int32.not_lt.mpr c_2))
    · skip
      exact vx_throwS (A := fun _ => False) (cls := "java/lang/IndexOutOfBoundsException") (names := ["java/lang/RuntimeException", "java/lang/Exception"]) (text := "no such bit") hx hb hst hown (by decide) (by decide) (hg _ gw_346) (hg _ gw_13) hEX.st_156 hEX.at_IOE XG_IOE hEX.2.2.1 hEX.2.2.2 hS (hl.1.trans hml.symm) d_X_pass_15 d_X_pass_18 d_X_pass_19 d_X_pass_21 d_X_pass_24 (fun x9 h9 => (hnt x9 h9).elim) (by decide) (Nat.le_of_ble_eq_true rfl) (by decide) (by decide) hlocks (fun t ht g1 g2 => ⟨(), trivial, rfl, g1, fun q9 h9 _ => g2 q9 h9⟩) (fun z9 h9 => by cases h9) (by decide) (by decide)
set_option maxHeartbeats 4000000 in
set_option maxRecDepth 100000 in
theorem t_X_passA (l : Launch) (hst : l.stackTraces = false) (D : va_G) (tw : Nat) (sa : Nat → Nat) (x sw sr br bq bi ne li sp q : Nat) (lb : Int32) (ra u i0 : Nat) (v1 : Int32) (hu : u ≤ 6000) (hi : i0 ≤ u) (hbad : v1 < 0) : vx_Met l y_X_pass (WSY y_X_pass b_X_pass 5 (some .int)) ({ frames := 6, cells := 1, slots := 6, locals := 110 }) (va_Pc [.ref x, .int (nI i0), .int v1] (fun U => va_P D CLS [(x, .inr (4, [.int (nI bi), .int (nI ne), .int (nI li), .int (nI sp), .int (nI q), .ref sw, .ref sr, .ref br, .ref bq, .int lb])), (br, .inr (1, [.ref ra, .int (nI u)]))] U.heap ∧ va_K D CLS [] U ∧ EV (fun _ => False) tw U ∧ EX (fun _ => False) sa U)) QT (XT "java/lang/IllegalArgumentException") 1 6 (fun _ => False) := by
  refine vx_ofW (cc := b_X_pass) (maxL := 5) (ret := (some .int)) (by decide) rfl ?_
  intro p e s m args below meth c s₁ B hml hnt hv
  obtain ⟨rfl, hP, hK, hE, hEX⟩ := hv
  have hx := B.exec
  have hb := B.bytes
  have hr := B.returns
  have hts := atoms_spec (ws := WSY y_X_pass b_X_pass 5 (some .int)) B.pre
  have hg : ∀ w ∈ GW, w.before _ s = true := fun w h => hts w (List.mem_cons_of_mem _ h)
  have hown : s.vm.findClass "LineGolomb" = some m.cls := findClass_of_methodNamed B.named
  have hlocks := B.notSynchronized
  have hS : va_S (fun _ => False) s.heap s.heap [] := va_S.rf
  have hl := lv_entry ([.ref x, .int (nI i0), .int v1]) (n := 5) (Nat.le_of_ble_eq_true rfl)
  rw [lg_entry_eq]
  generalize (lg_sl ([.ref x, .int (nI i0), .int v1]) ++ List.replicate (5 - (lg_sl ([.ref x, .int (nI i0), .int v1])).length) Slot.unset).toArray = ls at hl ⊢
  have hl : lv_has ls 5 [(0, .ref x), (1, .int (nI i0)), (2, .int v1)] := hl
  refine lv_iload_n hx hb d_X_pass_0 rfl (lv_at hl 1 rfl) ?_
  refine lv_if_lt (tgt := 15) hx hb d_X_pass_1 (by decide) (fun c_1 => ?_) (fun c_1 => ?_)
  · skip
    exact absurd c_1 (nI_pos (by omega))
  · skip
    refine lv_iload_n hx hb d_X_pass_4 rfl (lv_at hl 1 rfl) ?_
    refine lv_aload_n hx hb d_X_pass_5 rfl (lv_at hl 0 rfl) ?_
    refine va_get (D := D) (ci := 4) (v := .ref br) (C := R_X) (T := T_X) (N := 10) hx hb hg in_X hown hK hP 0 rfl rfl 7 (by decide) (hg _ gw_123) (fun _ h9 => h9) rfl d_X_pass_6 ?_
    refine va_getN (D := D) (ci := 1) (v := .int (nI u)) (C := R_B) (T := T_B) (N := 2) hx hb hg in_B hown hK hP 1 rfl rfl 1 (by decide) (va_Nw.use rfl (hE.nw nw_30)) (fun _ h9 => h9) rfl d_X_pass_9 ?_
    refine lv_icmp_le (tgt := 25) hx hb d_X_pass_12 (by decide) (fun c_2 => ?_) (fun c_2 => ?_)
    · skip
      refine lv_iload_n hx hb d_X_pass_25 rfl (lv_at hl 2 rfl) ?_
      refine lv_if_ge (tgt := 39) hx hb d_X_pass_26 (by decide) (fun c_3 => ?_) (fun c_3 => ?_)
      · skip
        exact absurd hbad (Int32.not_lt.mpr c_3)
      · skip
        exact vx_throwS (A := fun _ => False) (cls := "java/lang/IllegalArgumentException") (names := ["java/lang/RuntimeException", "java/lang/Exception"]) (text := "fewer bits than none") hx hb hst hown (by decide) (by decide) (hg _ gw_201) (hg _ gw_11) hEX.st_166 hEX.at_IAE XG_IAE hEX.2.2.1 hEX.2.2.2 hS (hl.1.trans hml.symm) d_X_pass_29 d_X_pass_32 d_X_pass_33 d_X_pass_35 d_X_pass_38 (fun x9 h9 => (hnt x9 h9).elim) (by decide) (Nat.le_of_ble_eq_true rfl) (by decide) (by decide) hlocks (fun t ht g1 g2 => ⟨(), trivial, rfl, g1, fun q9 h9 _ => g2 q9 h9⟩) (fun z9 h9 => by cases h9) (by decide) (by decide)
    · skip
      exact absurd (nI_le hi (by omega)) c_2
set_option maxHeartbeats 4000000 in
set_option maxRecDepth 100000 in
theorem t_X_read (l : Launch) (hst : l.stackTraces = false) (D : va_G) (tw : Nat) (sa : Nat → Nat) (x sw sr br bq bi ne li sp q : Nat) (lb : Int32) (k0 : Int32) (hbad : k0 < 0 ∨ nI q < k0) : vx_Met l y_X_read (WSY y_X_read b_X_read 2 (some .int)) ({ frames := 6, cells := 1, slots := 6, locals := 110 }) (va_Pc [.ref x, .int k0] (fun U => va_P D CLS [(x, .inr (4, [.int (nI bi), .int (nI ne), .int (nI li), .int (nI sp), .int (nI q), .ref sw, .ref sr, .ref br, .ref bq, .int lb]))] U.heap ∧ va_K D CLS [] U ∧ EV (fun _ => False) tw U ∧ EX (fun _ => False) sa U)) QT (XT "java/lang/IllegalArgumentException") 1 6 (fun _ => False) := by
  refine vx_ofW (cc := b_X_read) (maxL := 2) (ret := (some .int)) (by decide) rfl ?_
  intro p e s m args below meth c s₁ B hml hnt hv
  obtain ⟨rfl, hP, hK, hE, hEX⟩ := hv
  have hx := B.exec
  have hb := B.bytes
  have hr := B.returns
  have hts := atoms_spec (ws := WSY y_X_read b_X_read 2 (some .int)) B.pre
  have hg : ∀ w ∈ GW, w.before _ s = true := fun w h => hts w (List.mem_cons_of_mem _ h)
  have hown : s.vm.findClass "LineGolomb" = some m.cls := findClass_of_methodNamed B.named
  have hlocks := B.notSynchronized
  have hS : va_S (fun _ => False) s.heap s.heap [] := va_S.rf
  have hl := lv_entry ([.ref x, .int k0]) (n := 2) (Nat.le_of_ble_eq_true rfl)
  rw [lg_entry_eq]
  generalize (lg_sl ([.ref x, .int k0]) ++ List.replicate (2 - (lg_sl ([.ref x, .int k0])).length) Slot.unset).toArray = ls at hl ⊢
  have hl : lv_has ls 2 [(0, .ref x), (1, .int k0)] := hl
  refine lv_iload_n hx hb d_X_read_0 rfl (lv_at hl 1 rfl) ?_
  refine lv_if_lt (tgt := 12) hx hb d_X_read_1 (by decide) (fun c_1 => ?_) (fun c_1 => ?_)
  · skip
    exact vx_throwS (A := fun _ => False) (cls := "java/lang/IllegalArgumentException") (names := ["java/lang/RuntimeException", "java/lang/Exception"]) (text := "k is not 0 .. Q") hx hb hst hown (by decide) (by decide) (hg _ gw_201) (hg _ gw_11) hEX.st_70 hEX.at_IAE XG_IAE hEX.2.2.1 hEX.2.2.2 hS (hl.1.trans hml.symm) d_X_read_12 d_X_read_15 d_X_read_16 d_X_read_18 d_X_read_21 (fun x9 h9 => (hnt x9 h9).elim) (by decide) (Nat.le_of_ble_eq_true rfl) (by decide) (by decide) hlocks (fun t ht g1 g2 => ⟨(), trivial, rfl, g1, fun q9 h9 _ => g2 q9 h9⟩) (fun z9 h9 => by cases h9) (by decide) (by decide)
  · skip
    refine lv_iload_n hx hb d_X_read_4 rfl (lv_at hl 1 rfl) ?_
    refine lv_aload_n hx hb d_X_read_5 rfl (lv_at hl 0 rfl) ?_
    refine va_get (D := D) (ci := 4) (v := .int (nI q)) (C := R_X) (T := T_X) (N := 10) hx hb hg in_X hown hK hP 0 rfl rfl 4 (by decide) (hg _ gw_120) (fun _ h9 => h9) rfl d_X_read_6 ?_
    refine lv_icmp_le (tgt := 22) hx hb d_X_read_9 (by decide) (fun c_2 => ?_) (fun c_2 => ?_)
    · skip
      exact absurd hbad (fun q9 => q9.elim c_1 (Int32.not_lt.mpr c_2))
    · skip
      exact vx_throwS (A := fun _ => False) (cls := "java/lang/IllegalArgumentException") (names := ["java/lang/RuntimeException", "java/lang/Exception"]) (text := "k is not 0 .. Q") hx hb hst hown (by decide) (by decide) (hg _ gw_201) (hg _ gw_11) hEX.st_70 hEX.at_IAE XG_IAE hEX.2.2.1 hEX.2.2.2 hS (hl.1.trans hml.symm) d_X_read_12 d_X_read_15 d_X_read_16 d_X_read_18 d_X_read_21 (fun x9 h9 => (hnt x9 h9).elim) (by decide) (Nat.le_of_ble_eq_true rfl) (by decide) (by decide) hlocks (fun t ht g1 g2 => ⟨(), trivial, rfl, g1, fun q9 h9 _ => g2 q9 h9⟩) (fun z9 h9 => by cases h9) (by decide) (by decide)
set_option maxHeartbeats 4000000 in
set_option maxRecDepth 100000 in
theorem t_X_readRun (l : Launch) (hst : l.stackTraces = false) (D : va_G) (tw : Nat) (sa : Nat → Nat) (x sw sr br bq bi ne li sp q : Nat) (lb : Int32) (v0 : Int32) (hbad : v0 < 1 ∨ nI 65535 < v0) : vx_Met l y_X_readRun (WSY y_X_readRun b_X_readRun 6 (some .int)) ({ frames := 6, cells := 1, slots := 6, locals := 110 }) (va_Pc [.ref x, .int v0] (fun U => va_P D CLS [(x, .inr (4, [.int (nI bi), .int (nI ne), .int (nI li), .int (nI sp), .int (nI q), .ref sw, .ref sr, .ref br, .ref bq, .int lb]))] U.heap ∧ va_K D CLS [] U ∧ EV (fun _ => False) tw U ∧ EX (fun _ => False) sa U)) QT (XT "java/lang/IllegalArgumentException") 1 6 (fun _ => False) := by
  refine vx_ofW (cc := b_X_readRun) (maxL := 6) (ret := (some .int)) (by decide) rfl ?_
  intro p e s m args below meth c s₁ B hml hnt hv
  obtain ⟨rfl, hP, hK, hE, hEX⟩ := hv
  have hx := B.exec
  have hb := B.bytes
  have hr := B.returns
  have hts := atoms_spec (ws := WSY y_X_readRun b_X_readRun 6 (some .int)) B.pre
  have hg : ∀ w ∈ GW, w.before _ s = true := fun w h => hts w (List.mem_cons_of_mem _ h)
  have hown : s.vm.findClass "LineGolomb" = some m.cls := findClass_of_methodNamed B.named
  have hlocks := B.notSynchronized
  have hS : va_S (fun _ => False) s.heap s.heap [] := va_S.rf
  have hl := lv_entry ([.ref x, .int v0]) (n := 6) (Nat.le_of_ble_eq_true rfl)
  rw [lg_entry_eq]
  generalize (lg_sl ([.ref x, .int v0]) ++ List.replicate (6 - (lg_sl ([.ref x, .int v0])).length) Slot.unset).toArray = ls at hl ⊢
  have hl : lv_has ls 6 [(0, .ref x), (1, .int v0)] := hl
  refine lv_iload_n hx hb d_X_readRun_0 rfl (lv_at hl 1 rfl) ?_
  refine lv_iconst (v := 1) hx hb d_X_readRun_1 (by decide) ?_
  refine lv_icmp_lt (tgt := 11) hx hb d_X_readRun_2 (by decide) (fun c_1 => ?_) (fun c_1 => ?_)
  · skip
    exact vx_throwS (A := fun _ => False) (cls := "java/lang/IllegalArgumentException") (names := ["java/lang/RuntimeException", "java/lang/Exception"]) (text := "left is not 1 .. 65535") hx hb hst hown (by decide) (by decide) (hg _ gw_201) (hg _ gw_11) hEX.st_174 hEX.at_IAE XG_IAE hEX.2.2.1 hEX.2.2.2 hS (hl.1.trans hml.symm) d_X_readRun_11 d_X_readRun_14 d_X_readRun_15 d_X_readRun_17 d_X_readRun_20 (fun x9 h9 => (hnt x9 h9).elim) (by decide) (Nat.le_of_ble_eq_true rfl) (by decide) (by decide) hlocks (fun t ht g1 g2 => ⟨(), trivial, rfl, g1, fun q9 h9 _ => g2 q9 h9⟩) (fun z9 h9 => by cases h9) (by decide) (by decide)
  · skip
    refine lv_iload_n hx hb d_X_readRun_5 rfl (lv_at hl 1 rfl) ?_
    refine lv_ldc (v := 65535) hx hb hown (hg _ gw_317) d_X_readRun_6 ?_
    refine lv_icmp_le (tgt := 21) hx hb d_X_readRun_8 (by decide) (fun c_2 => ?_) (fun c_2 => ?_)
    · skip
      exact absurd hbad (fun q9 => q9.elim c_1 (Int32.not_lt.mpr c_2))
    · skip
      exact vx_throwS (A := fun _ => False) (cls := "java/lang/IllegalArgumentException") (names := ["java/lang/RuntimeException", "java/lang/Exception"]) (text := "left is not 1 .. 65535") hx hb hst hown (by decide) (by decide) (hg _ gw_201) (hg _ gw_11) hEX.st_174 hEX.at_IAE XG_IAE hEX.2.2.1 hEX.2.2.2 hS (hl.1.trans hml.symm) d_X_readRun_11 d_X_readRun_14 d_X_readRun_15 d_X_readRun_17 d_X_readRun_20 (fun x9 h9 => (hnt x9 h9).elim) (by decide) (Nat.le_of_ble_eq_true rfl) (by decide) (by decide) hlocks (fun t ht g1 g2 => ⟨(), trivial, rfl, g1, fun q9 h9 _ => g2 q9 h9⟩) (fun z9 h9 => by cases h9) (by decide) (by decide)
set_option maxHeartbeats 4000000 in
set_option maxRecDepth 100000 in
theorem t_X_map (l : Launch) (hst : l.stackTraces = false) (D : va_G) (tw : Nat) (sa : Nat → Nat) (x sw sr br bq bi ne li sp q : Nat) (lb : Int32) (v0 v1 : Int32) (hbad : v0 < -65536 ∨ 65536 < v0) : vx_Met l y_X_map (WSY y_X_map b_X_map 3 (some .int)) ({ frames := 6, cells := 1, slots := 6, locals := 110 }) (va_Pc [.ref x, .int v0, .int v1] (fun U => va_P D CLS [(x, .inr (4, [.int (nI bi), .int (nI ne), .int (nI li), .int (nI sp), .int (nI q), .ref sw, .ref sr, .ref br, .ref bq, .int lb]))] U.heap ∧ va_K D CLS [] U ∧ EV (fun _ => False) tw U ∧ EX (fun _ => False) sa U)) QT (XT "java/lang/IllegalArgumentException") 1 6 (fun _ => False) := by
  refine vx_ofW (cc := b_X_map) (maxL := 3) (ret := (some .int)) (by decide) rfl ?_
  intro p e s m args below meth c s₁ B hml hnt hv
  obtain ⟨rfl, hP, hK, hE, hEX⟩ := hv
  have hx := B.exec
  have hb := B.bytes
  have hr := B.returns
  have hts := atoms_spec (ws := WSY y_X_map b_X_map 3 (some .int)) B.pre
  have hg : ∀ w ∈ GW, w.before _ s = true := fun w h => hts w (List.mem_cons_of_mem _ h)
  have hown : s.vm.findClass "LineGolomb" = some m.cls := findClass_of_methodNamed B.named
  have hlocks := B.notSynchronized
  have hS : va_S (fun _ => False) s.heap s.heap [] := va_S.rf
  have hl := lv_entry ([.ref x, .int v0, .int v1]) (n := 3) (Nat.le_of_ble_eq_true rfl)
  rw [lg_entry_eq]
  generalize (lg_sl ([.ref x, .int v0, .int v1]) ++ List.replicate (3 - (lg_sl ([.ref x, .int v0, .int v1])).length) Slot.unset).toArray = ls at hl ⊢
  have hl : lv_has ls 3 [(0, .ref x), (1, .int v0), (2, .int v1)] := hl
  refine lv_iload_n hx hb d_X_map_0 rfl (lv_at hl 1 rfl) ?_
  refine lv_ldc (v := (-65536)) hx hb hown (hg _ gw_489) d_X_map_1 ?_
  refine lv_icmp_lt (tgt := 12) hx hb d_X_map_3 (by decide) (fun c_1 => ?_) (fun c_1 => ?_)
  · skip
    exact vx_throwS (A := fun _ => False) (cls := "java/lang/IllegalArgumentException") (names := ["java/lang/RuntimeException", "java/lang/Exception"]) (text := "the error is too far from 0") hx hb hst hown (by decide) (by decide) (hg _ gw_201) (hg _ gw_11) hEX.st_202 hEX.at_IAE XG_IAE hEX.2.2.1 hEX.2.2.2 hS (hl.1.trans hml.symm) d_X_map_12 d_X_map_15 d_X_map_16 d_X_map_18 d_X_map_21 (fun x9 h9 => (hnt x9 h9).elim) (by decide) (Nat.le_of_ble_eq_true rfl) (by decide) (by decide) hlocks (fun t ht g1 g2 => ⟨(), trivial, rfl, g1, fun q9 h9 _ => g2 q9 h9⟩) (fun z9 h9 => by cases h9) (by decide) (by decide)
  · skip
    refine lv_iload_n hx hb d_X_map_6 rfl (lv_at hl 1 rfl) ?_
    refine lv_ldc (v := 65536) hx hb hown (hg _ gw_490) d_X_map_7 ?_
    refine lv_icmp_le (tgt := 22) hx hb d_X_map_9 (by decide) (fun c_2 => ?_) (fun c_2 => ?_)
    · skip
      exact absurd hbad (fun q9 => q9.elim c_1 (Int32.not_lt.mpr c_2))
    · skip
      exact vx_throwS (A := fun _ => False) (cls := "java/lang/IllegalArgumentException") (names := ["java/lang/RuntimeException", "java/lang/Exception"]) (text := "the error is too far from 0") hx hb hst hown (by decide) (by decide) (hg _ gw_201) (hg _ gw_11) hEX.st_202 hEX.at_IAE XG_IAE hEX.2.2.1 hEX.2.2.2 hS (hl.1.trans hml.symm) d_X_map_12 d_X_map_15 d_X_map_16 d_X_map_18 d_X_map_21 (fun x9 h9 => (hnt x9 h9).elim) (by decide) (Nat.le_of_ble_eq_true rfl) (by decide) (by decide) hlocks (fun t ht g1 g2 => ⟨(), trivial, rfl, g1, fun q9 h9 _ => g2 q9 h9⟩) (fun z9 h9 => by cases h9) (by decide) (by decide)
set_option maxHeartbeats 4000000 in
set_option maxRecDepth 100000 in
theorem t_X_unmapN (l : Launch) (hst : l.stackTraces = false) (D : va_G) (tw : Nat) (sa : Nat → Nat) (x sw sr br bq bi ne li sp q : Nat) (lb : Int32) (v0 v1 : Int32) (hbad : v0 < 0) : vx_Met l y_X_unmap (WSY y_X_unmap b_X_unmap 6 (some .int)) ({ frames := 6, cells := 1, slots := 6, locals := 110 }) (va_Pc [.ref x, .int v0, .int v1] (fun U => va_P D CLS [(x, .inr (4, [.int (nI bi), .int (nI ne), .int (nI li), .int (nI sp), .int (nI q), .ref sw, .ref sr, .ref br, .ref bq, .int lb]))] U.heap ∧ va_K D CLS [] U ∧ EV (fun _ => False) tw U ∧ EX (fun _ => False) sa U)) QT (XT "java/lang/IllegalArgumentException") 1 6 (fun _ => False) := by
  refine vx_ofW (cc := b_X_unmap) (maxL := 6) (ret := (some .int)) (by decide) rfl ?_
  intro p e s m args below meth c s₁ B hml hnt hv
  obtain ⟨rfl, hP, hK, hE, hEX⟩ := hv
  have hx := B.exec
  have hb := B.bytes
  have hr := B.returns
  have hts := atoms_spec (ws := WSY y_X_unmap b_X_unmap 6 (some .int)) B.pre
  have hg : ∀ w ∈ GW, w.before _ s = true := fun w h => hts w (List.mem_cons_of_mem _ h)
  have hown : s.vm.findClass "LineGolomb" = some m.cls := findClass_of_methodNamed B.named
  have hlocks := B.notSynchronized
  have hS : va_S (fun _ => False) s.heap s.heap [] := va_S.rf
  have hl := lv_entry ([.ref x, .int v0, .int v1]) (n := 6) (Nat.le_of_ble_eq_true rfl)
  rw [lg_entry_eq]
  generalize (lg_sl ([.ref x, .int v0, .int v1]) ++ List.replicate (6 - (lg_sl ([.ref x, .int v0, .int v1])).length) Slot.unset).toArray = ls at hl ⊢
  have hl : lv_has ls 6 [(0, .ref x), (1, .int v0), (2, .int v1)] := hl
  refine lv_iload_n hx hb d_X_unmap_0 rfl (lv_at hl 1 rfl) ?_
  refine lv_iconst (v := 2) hx hb d_X_unmap_1 (by decide) ?_
  refine lv_irem hx hb d_X_unmap_2 (by decide) ?_
  refine lv_if_eq (tgt := 10) hx hb d_X_unmap_3 (by decide) (fun c_1 => ?_) (fun c_1 => ?_)
  · skip
    refine lv_iconst (v := 0) hx hb d_X_unmap_10 (by decide) ?_
    refine lv_istore_n (lv' := [(3, .int 0), (0, .ref x), (1, .int v0), (2, .int v1)]) hx hb d_X_unmap_11 rfl hl (by decide) rfl (fun ls hl => ?_)
    refine lv_iload_n hx hb d_X_unmap_12 rfl (lv_at hl 0 rfl) ?_
    refine lv_iload_n hx hb d_X_unmap_13 rfl (lv_at hl 3 rfl) ?_
    refine lv_icmp_eq (tgt := 21) hx hb d_X_unmap_14 (by decide) (fun c_2 => ?_) (fun c_2 => ?_)
    · skip
      refine lv_iconst (v := 0) hx hb d_X_unmap_21 (by decide) ?_
      refine lv_istore (lv' := [(4, .int 0), (3, .int 0), (0, .ref x), (1, .int v0), (2, .int v1)]) hx hb d_X_unmap_22 hl (by decide) rfl (fun ls hl => ?_)
      refine lv_iload_n hx hb d_X_unmap_24 rfl (lv_at hl 3 rfl) ?_
      refine lv_iconst (v := 2) hx hb d_X_unmap_25 (by decide) ?_
      refine lv_idiv hx hb d_X_unmap_26 (by decide) ?_
      refine lv_iload hx hb d_X_unmap_27 (lv_at hl 0 rfl) ?_
      refine lv_if_eq (tgt := 36) hx hb d_X_unmap_29 (by decide) (fun c_3 => ?_) (fun c_3 => ?_)
      · skip
        refine lv_iconst (v := 0) hx hb d_X_unmap_36 (by decide) ?_
        refine lv_iadd hx hb d_X_unmap_37 ?_
        refine lv_istore (lv' := [(5, .int ((v0 / 2) + 0)), (4, .int 0), (3, .int 0), (0, .ref x), (1, .int v0), (2, .int v1)]) hx hb d_X_unmap_38 hl (by decide) rfl (fun ls hl => ?_)
        refine lv_iload_n hx hb d_X_unmap_40 rfl (lv_at hl 4 rfl) ?_
        refine lv_if_lt (tgt := 51) hx hb d_X_unmap_41 (by decide) (fun c_4 => ?_) (fun c_4 => ?_)
        · skip
          exact vx_throwS (A := fun _ => False) (cls := "java/lang/IllegalArgumentException") (names := ["java/lang/RuntimeException", "java/lang/Exception"]) (text := "no error has this number") hx hb hst hown (by decide) (by decide) (hg _ gw_201) (hg _ gw_11) hEX.st_204 hEX.at_IAE XG_IAE hEX.2.2.1 hEX.2.2.2 hS (hl.1.trans hml.symm) d_X_unmap_51 d_X_unmap_54 d_X_unmap_55 d_X_unmap_57 d_X_unmap_60 (fun x9 h9 => (hnt x9 h9).elim) (by decide) (Nat.le_of_ble_eq_true rfl) (by decide) (by decide) hlocks (fun t ht g1 g2 => ⟨(), trivial, rfl, g1, fun q9 h9 _ => g2 q9 h9⟩) (fun z9 h9 => by cases h9) (by decide) (by decide)
        · skip
          exact absurd hbad c_4
      · skip
        refine lv_iconst (v := 1) hx hb d_X_unmap_32 (by decide) ?_
        refine lv_goto (tgt := 37) hx hb d_X_unmap_33 (by decide) ?_
        refine lv_iadd hx hb d_X_unmap_37 ?_
        refine lv_istore (lv' := [(5, .int ((v0 / 2) + 1)), (4, .int 0), (3, .int 0), (0, .ref x), (1, .int v0), (2, .int v1)]) hx hb d_X_unmap_38 hl (by decide) rfl (fun ls hl => ?_)
        refine lv_iload_n hx hb d_X_unmap_40 rfl (lv_at hl 4 rfl) ?_
        refine lv_if_lt (tgt := 51) hx hb d_X_unmap_41 (by decide) (fun c_5 => ?_) (fun c_5 => ?_)
        · skip
          exact vx_throwS (A := fun _ => False) (cls := "java/lang/IllegalArgumentException") (names := ["java/lang/RuntimeException", "java/lang/Exception"]) (text := "no error has this number") hx hb hst hown (by decide) (by decide) (hg _ gw_201) (hg _ gw_11) hEX.st_204 hEX.at_IAE XG_IAE hEX.2.2.1 hEX.2.2.2 hS (hl.1.trans hml.symm) d_X_unmap_51 d_X_unmap_54 d_X_unmap_55 d_X_unmap_57 d_X_unmap_60 (fun x9 h9 => (hnt x9 h9).elim) (by decide) (Nat.le_of_ble_eq_true rfl) (by decide) (by decide) hlocks (fun t ht g1 g2 => ⟨(), trivial, rfl, g1, fun q9 h9 _ => g2 q9 h9⟩) (fun z9 h9 => by cases h9) (by decide) (by decide)
        · skip
          exact absurd hbad c_5
    · skip
      refine lv_iconst (v := 1) hx hb d_X_unmap_17 (by decide) ?_
      refine lv_goto (tgt := 22) hx hb d_X_unmap_18 (by decide) ?_
      refine lv_istore (lv' := [(4, .int 1), (3, .int 0), (0, .ref x), (1, .int v0), (2, .int v1)]) hx hb d_X_unmap_22 hl (by decide) rfl (fun ls hl => ?_)
      refine lv_iload_n hx hb d_X_unmap_24 rfl (lv_at hl 3 rfl) ?_
      refine lv_iconst (v := 2) hx hb d_X_unmap_25 (by decide) ?_
      refine lv_idiv hx hb d_X_unmap_26 (by decide) ?_
      refine lv_iload hx hb d_X_unmap_27 (lv_at hl 0 rfl) ?_
      refine lv_if_eq (tgt := 36) hx hb d_X_unmap_29 (by decide) (fun c_6 => ?_) (fun c_6 => ?_)
      · skip
        refine lv_iconst (v := 0) hx hb d_X_unmap_36 (by decide) ?_
        refine lv_iadd hx hb d_X_unmap_37 ?_
        refine lv_istore (lv' := [(5, .int ((v0 / 2) + 0)), (4, .int 1), (3, .int 0), (0, .ref x), (1, .int v0), (2, .int v1)]) hx hb d_X_unmap_38 hl (by decide) rfl (fun ls hl => ?_)
        refine lv_iload_n hx hb d_X_unmap_40 rfl (lv_at hl 4 rfl) ?_
        refine lv_if_lt (tgt := 51) hx hb d_X_unmap_41 (by decide) (fun c_7 => ?_) (fun c_7 => ?_)
        · skip
          exact vx_throwS (A := fun _ => False) (cls := "java/lang/IllegalArgumentException") (names := ["java/lang/RuntimeException", "java/lang/Exception"]) (text := "no error has this number") hx hb hst hown (by decide) (by decide) (hg _ gw_201) (hg _ gw_11) hEX.st_204 hEX.at_IAE XG_IAE hEX.2.2.1 hEX.2.2.2 hS (hl.1.trans hml.symm) d_X_unmap_51 d_X_unmap_54 d_X_unmap_55 d_X_unmap_57 d_X_unmap_60 (fun x9 h9 => (hnt x9 h9).elim) (by decide) (Nat.le_of_ble_eq_true rfl) (by decide) (by decide) hlocks (fun t ht g1 g2 => ⟨(), trivial, rfl, g1, fun q9 h9 _ => g2 q9 h9⟩) (fun z9 h9 => by cases h9) (by decide) (by decide)
        · skip
          exact absurd hbad c_7
      · skip
        refine lv_iconst (v := 1) hx hb d_X_unmap_32 (by decide) ?_
        refine lv_goto (tgt := 37) hx hb d_X_unmap_33 (by decide) ?_
        refine lv_iadd hx hb d_X_unmap_37 ?_
        refine lv_istore (lv' := [(5, .int ((v0 / 2) + 1)), (4, .int 1), (3, .int 0), (0, .ref x), (1, .int v0), (2, .int v1)]) hx hb d_X_unmap_38 hl (by decide) rfl (fun ls hl => ?_)
        refine lv_iload_n hx hb d_X_unmap_40 rfl (lv_at hl 4 rfl) ?_
        refine lv_if_lt (tgt := 51) hx hb d_X_unmap_41 (by decide) (fun c_8 => ?_) (fun c_8 => ?_)
        · skip
          exact vx_throwS (A := fun _ => False) (cls := "java/lang/IllegalArgumentException") (names := ["java/lang/RuntimeException", "java/lang/Exception"]) (text := "no error has this number") hx hb hst hown (by decide) (by decide) (hg _ gw_201) (hg _ gw_11) hEX.st_204 hEX.at_IAE XG_IAE hEX.2.2.1 hEX.2.2.2 hS (hl.1.trans hml.symm) d_X_unmap_51 d_X_unmap_54 d_X_unmap_55 d_X_unmap_57 d_X_unmap_60 (fun x9 h9 => (hnt x9 h9).elim) (by decide) (Nat.le_of_ble_eq_true rfl) (by decide) (by decide) hlocks (fun t ht g1 g2 => ⟨(), trivial, rfl, g1, fun q9 h9 _ => g2 q9 h9⟩) (fun z9 h9 => by cases h9) (by decide) (by decide)
        · skip
          exact absurd hbad c_8
  · skip
    refine lv_iconst (v := 1) hx hb d_X_unmap_6 (by decide) ?_
    refine lv_goto (tgt := 11) hx hb d_X_unmap_7 (by decide) ?_
    refine lv_istore_n (lv' := [(3, .int 1), (0, .ref x), (1, .int v0), (2, .int v1)]) hx hb d_X_unmap_11 rfl hl (by decide) rfl (fun ls hl => ?_)
    refine lv_iload_n hx hb d_X_unmap_12 rfl (lv_at hl 0 rfl) ?_
    refine lv_iload_n hx hb d_X_unmap_13 rfl (lv_at hl 3 rfl) ?_
    refine lv_icmp_eq (tgt := 21) hx hb d_X_unmap_14 (by decide) (fun c_9 => ?_) (fun c_9 => ?_)
    · skip
      refine lv_iconst (v := 0) hx hb d_X_unmap_21 (by decide) ?_
      refine lv_istore (lv' := [(4, .int 0), (3, .int 1), (0, .ref x), (1, .int v0), (2, .int v1)]) hx hb d_X_unmap_22 hl (by decide) rfl (fun ls hl => ?_)
      refine lv_iload_n hx hb d_X_unmap_24 rfl (lv_at hl 3 rfl) ?_
      refine lv_iconst (v := 2) hx hb d_X_unmap_25 (by decide) ?_
      refine lv_idiv hx hb d_X_unmap_26 (by decide) ?_
      refine lv_iload hx hb d_X_unmap_27 (lv_at hl 0 rfl) ?_
      refine lv_if_eq (tgt := 36) hx hb d_X_unmap_29 (by decide) (fun c_10 => ?_) (fun c_10 => ?_)
      · skip
        refine lv_iconst (v := 0) hx hb d_X_unmap_36 (by decide) ?_
        refine lv_iadd hx hb d_X_unmap_37 ?_
        refine lv_istore (lv' := [(5, .int ((v0 / 2) + 0)), (4, .int 0), (3, .int 1), (0, .ref x), (1, .int v0), (2, .int v1)]) hx hb d_X_unmap_38 hl (by decide) rfl (fun ls hl => ?_)
        refine lv_iload_n hx hb d_X_unmap_40 rfl (lv_at hl 4 rfl) ?_
        refine lv_if_lt (tgt := 51) hx hb d_X_unmap_41 (by decide) (fun c_11 => ?_) (fun c_11 => ?_)
        · skip
          exact vx_throwS (A := fun _ => False) (cls := "java/lang/IllegalArgumentException") (names := ["java/lang/RuntimeException", "java/lang/Exception"]) (text := "no error has this number") hx hb hst hown (by decide) (by decide) (hg _ gw_201) (hg _ gw_11) hEX.st_204 hEX.at_IAE XG_IAE hEX.2.2.1 hEX.2.2.2 hS (hl.1.trans hml.symm) d_X_unmap_51 d_X_unmap_54 d_X_unmap_55 d_X_unmap_57 d_X_unmap_60 (fun x9 h9 => (hnt x9 h9).elim) (by decide) (Nat.le_of_ble_eq_true rfl) (by decide) (by decide) hlocks (fun t ht g1 g2 => ⟨(), trivial, rfl, g1, fun q9 h9 _ => g2 q9 h9⟩) (fun z9 h9 => by cases h9) (by decide) (by decide)
        · skip
          exact absurd hbad c_11
      · skip
        refine lv_iconst (v := 1) hx hb d_X_unmap_32 (by decide) ?_
        refine lv_goto (tgt := 37) hx hb d_X_unmap_33 (by decide) ?_
        refine lv_iadd hx hb d_X_unmap_37 ?_
        refine lv_istore (lv' := [(5, .int ((v0 / 2) + 1)), (4, .int 0), (3, .int 1), (0, .ref x), (1, .int v0), (2, .int v1)]) hx hb d_X_unmap_38 hl (by decide) rfl (fun ls hl => ?_)
        refine lv_iload_n hx hb d_X_unmap_40 rfl (lv_at hl 4 rfl) ?_
        refine lv_if_lt (tgt := 51) hx hb d_X_unmap_41 (by decide) (fun c_12 => ?_) (fun c_12 => ?_)
        · skip
          exact vx_throwS (A := fun _ => False) (cls := "java/lang/IllegalArgumentException") (names := ["java/lang/RuntimeException", "java/lang/Exception"]) (text := "no error has this number") hx hb hst hown (by decide) (by decide) (hg _ gw_201) (hg _ gw_11) hEX.st_204 hEX.at_IAE XG_IAE hEX.2.2.1 hEX.2.2.2 hS (hl.1.trans hml.symm) d_X_unmap_51 d_X_unmap_54 d_X_unmap_55 d_X_unmap_57 d_X_unmap_60 (fun x9 h9 => (hnt x9 h9).elim) (by decide) (Nat.le_of_ble_eq_true rfl) (by decide) (by decide) hlocks (fun t ht g1 g2 => ⟨(), trivial, rfl, g1, fun q9 h9 _ => g2 q9 h9⟩) (fun z9 h9 => by cases h9) (by decide) (by decide)
        · skip
          exact absurd hbad c_12
    · skip
      refine lv_iconst (v := 1) hx hb d_X_unmap_17 (by decide) ?_
      refine lv_goto (tgt := 22) hx hb d_X_unmap_18 (by decide) ?_
      refine lv_istore (lv' := [(4, .int 1), (3, .int 1), (0, .ref x), (1, .int v0), (2, .int v1)]) hx hb d_X_unmap_22 hl (by decide) rfl (fun ls hl => ?_)
      refine lv_iload_n hx hb d_X_unmap_24 rfl (lv_at hl 3 rfl) ?_
      refine lv_iconst (v := 2) hx hb d_X_unmap_25 (by decide) ?_
      refine lv_idiv hx hb d_X_unmap_26 (by decide) ?_
      refine lv_iload hx hb d_X_unmap_27 (lv_at hl 0 rfl) ?_
      refine lv_if_eq (tgt := 36) hx hb d_X_unmap_29 (by decide) (fun c_13 => ?_) (fun c_13 => ?_)
      · skip
        refine lv_iconst (v := 0) hx hb d_X_unmap_36 (by decide) ?_
        refine lv_iadd hx hb d_X_unmap_37 ?_
        refine lv_istore (lv' := [(5, .int ((v0 / 2) + 0)), (4, .int 1), (3, .int 1), (0, .ref x), (1, .int v0), (2, .int v1)]) hx hb d_X_unmap_38 hl (by decide) rfl (fun ls hl => ?_)
        refine lv_iload_n hx hb d_X_unmap_40 rfl (lv_at hl 4 rfl) ?_
        refine lv_if_lt (tgt := 51) hx hb d_X_unmap_41 (by decide) (fun c_14 => ?_) (fun c_14 => ?_)
        · skip
          exact vx_throwS (A := fun _ => False) (cls := "java/lang/IllegalArgumentException") (names := ["java/lang/RuntimeException", "java/lang/Exception"]) (text := "no error has this number") hx hb hst hown (by decide) (by decide) (hg _ gw_201) (hg _ gw_11) hEX.st_204 hEX.at_IAE XG_IAE hEX.2.2.1 hEX.2.2.2 hS (hl.1.trans hml.symm) d_X_unmap_51 d_X_unmap_54 d_X_unmap_55 d_X_unmap_57 d_X_unmap_60 (fun x9 h9 => (hnt x9 h9).elim) (by decide) (Nat.le_of_ble_eq_true rfl) (by decide) (by decide) hlocks (fun t ht g1 g2 => ⟨(), trivial, rfl, g1, fun q9 h9 _ => g2 q9 h9⟩) (fun z9 h9 => by cases h9) (by decide) (by decide)
        · skip
          exact absurd hbad c_14
      · skip
        refine lv_iconst (v := 1) hx hb d_X_unmap_32 (by decide) ?_
        refine lv_goto (tgt := 37) hx hb d_X_unmap_33 (by decide) ?_
        refine lv_iadd hx hb d_X_unmap_37 ?_
        refine lv_istore (lv' := [(5, .int ((v0 / 2) + 1)), (4, .int 1), (3, .int 1), (0, .ref x), (1, .int v0), (2, .int v1)]) hx hb d_X_unmap_38 hl (by decide) rfl (fun ls hl => ?_)
        refine lv_iload_n hx hb d_X_unmap_40 rfl (lv_at hl 4 rfl) ?_
        refine lv_if_lt (tgt := 51) hx hb d_X_unmap_41 (by decide) (fun c_15 => ?_) (fun c_15 => ?_)
        · skip
          exact vx_throwS (A := fun _ => False) (cls := "java/lang/IllegalArgumentException") (names := ["java/lang/RuntimeException", "java/lang/Exception"]) (text := "no error has this number") hx hb hst hown (by decide) (by decide) (hg _ gw_201) (hg _ gw_11) hEX.st_204 hEX.at_IAE XG_IAE hEX.2.2.1 hEX.2.2.2 hS (hl.1.trans hml.symm) d_X_unmap_51 d_X_unmap_54 d_X_unmap_55 d_X_unmap_57 d_X_unmap_60 (fun x9 h9 => (hnt x9 h9).elim) (by decide) (Nat.le_of_ble_eq_true rfl) (by decide) (by decide) hlocks (fun t ht g1 g2 => ⟨(), trivial, rfl, g1, fun q9 h9 _ => g2 q9 h9⟩) (fun z9 h9 => by cases h9) (by decide) (by decide)
        · skip
          exact absurd hbad c_15
set_option maxHeartbeats 4000000 in
set_option maxRecDepth 100000 in
theorem t_X_unmapA0 (l : Launch) (hst : l.stackTraces = false) (D : va_G) (tw : Nat) (sa : Nat → Nat) (x sw sr br bq bi ne li sp q : Nat) (lb : Int32) (N : Nat) (hN : N < 2 ^ 31) (hsz : ¬ (N / 2 + (if (¬ N % 2 = 0) then 1 else 0)) ≤ 65536) : vx_Met l y_X_unmap (WSY y_X_unmap b_X_unmap 6 (some .int)) ({ frames := 6, cells := 1, slots := 6, locals := 110 }) (va_Pc [.ref x, .int (nI N), .int 0] (fun U => va_P D CLS [(x, .inr (4, [.int (nI bi), .int (nI ne), .int (nI li), .int (nI sp), .int (nI q), .ref sw, .ref sr, .ref br, .ref bq, .int lb]))] U.heap ∧ va_K D CLS [] U ∧ EV (fun _ => False) tw U ∧ EX (fun _ => False) sa U)) QT (XT "java/lang/IllegalArgumentException") 1 6 (fun _ => False) := by
  refine vx_ofW (cc := b_X_unmap) (maxL := 6) (ret := (some .int)) (by decide) rfl ?_
  intro p e s m args below meth c s₁ B hml hnt hv
  obtain ⟨rfl, hP, hK, hE, hEX⟩ := hv
  have hx := B.exec
  have hb := B.bytes
  have hr := B.returns
  have hts := atoms_spec (ws := WSY y_X_unmap b_X_unmap 6 (some .int)) B.pre
  have hg : ∀ w ∈ GW, w.before _ s = true := fun w h => hts w (List.mem_cons_of_mem _ h)
  have hown : s.vm.findClass "LineGolomb" = some m.cls := findClass_of_methodNamed B.named
  have hlocks := B.notSynchronized
  have hS : va_S (fun _ => False) s.heap s.heap [] := va_S.rf
  have hl := lv_entry ([.ref x, .int (nI N), .int 0]) (n := 6) (Nat.le_of_ble_eq_true rfl)
  rw [lg_entry_eq]
  generalize (lg_sl ([.ref x, .int (nI N), .int 0]) ++ List.replicate (6 - (lg_sl ([.ref x, .int (nI N), .int 0])).length) Slot.unset).toArray = ls at hl ⊢
  have hl : lv_has ls 6 [(0, .ref x), (1, .int (nI N)), (2, .int 0)] := hl
  refine lv_iload_n hx hb d_X_unmap_0 rfl (lv_at hl 1 rfl) ?_
  refine lv_iconst (v := 2) hx hb d_X_unmap_1 (by decide) ?_
  refine lv_irem hx hb d_X_unmap_2 (by decide) ?_
  refine tpi (y := nI (N % 2)) (rem2 (by omega)) ?_
  refine lv_if_eq (tgt := 10) hx hb d_X_unmap_3 (by decide) (fun c_1 => ?_) (fun c_1 => ?_)
  · skip
    have he : N % 2 = 0 := (nI_eq (b := 0) (by omega) (by omega)).mp c_1
    refine lv_iconst (v := 0) hx hb d_X_unmap_10 (by decide) ?_
    refine lv_istore_n (lv' := [(3, .int 0), (0, .ref x), (1, .int (nI N)), (2, .int 0)]) hx hb d_X_unmap_11 rfl hl (by decide) rfl (fun ls hl => ?_)
    refine lv_iload_n hx hb d_X_unmap_12 rfl (lv_at hl 0 rfl) ?_
    refine lv_iload_n hx hb d_X_unmap_13 rfl (lv_at hl 3 rfl) ?_
    refine lv_icmp_eq (tgt := 21) hx hb d_X_unmap_14 (by decide) (fun c_2 => ?_) (fun c_2 => ?_)
    · skip
      have hsz0 : (N / 2 + (if (¬ N % 2 = 0) then 1 else 0)) = N / 2 + 0 := by rw [if_neg (fun z => z he)]
      refine lv_iconst (v := 0) hx hb d_X_unmap_21 (by decide) ?_
      refine lv_istore (lv' := [(4, .int 0), (3, .int 0), (0, .ref x), (1, .int (nI N)), (2, .int 0)]) hx hb d_X_unmap_22 hl (by decide) rfl (fun ls hl => ?_)
      refine lv_iload_n hx hb d_X_unmap_24 rfl (lv_at hl 3 rfl) ?_
      refine lv_iconst (v := 2) hx hb d_X_unmap_25 (by decide) ?_
      refine lv_idiv hx hb d_X_unmap_26 (by decide) ?_
      refine tpi (y := nI (N / 2)) (div2 (by omega)) ?_
      refine lv_iload hx hb d_X_unmap_27 (lv_at hl 0 rfl) ?_
      refine lv_if_eq (tgt := 36) hx hb d_X_unmap_29 (by decide) (fun c_3 => ?_) (fun c_3 => ?_)
      · skip
        refine lv_iconst (v := 0) hx hb d_X_unmap_36 (by decide) ?_
        refine lv_iadd hx hb d_X_unmap_37 ?_
        refine tpi (y := nI (N / 2 + (if (¬ N % 2 = 0) then 1 else 0))) (by rw [hsz0]; exact nI_add _ 0) ?_
        refine lv_istore (lv' := [(5, .int (nI (N / 2 + (if (¬ N % 2 = 0) then 1 else 0)))), (4, .int 0), (3, .int 0), (0, .ref x), (1, .int (nI N)), (2, .int 0)]) hx hb d_X_unmap_38 hl (by decide) rfl (fun ls hl => ?_)
        refine lv_iload_n hx hb d_X_unmap_40 rfl (lv_at hl 4 rfl) ?_
        refine lv_if_lt (tgt := 51) hx hb d_X_unmap_41 (by decide) (fun c_4 => ?_) (fun c_4 => ?_)
        · skip
          exact absurd c_4 (nI_pos (by omega))
        · skip
          refine lv_iload hx hb d_X_unmap_44 (lv_at hl 0 rfl) ?_
          refine lv_ldc (v := 65536) hx hb hown (hg _ gw_490) d_X_unmap_46 ?_
          refine lv_icmp_le (tgt := 61) hx hb d_X_unmap_48 (by decide) (fun c_5 => ?_) (fun c_5 => ?_)
          · skip
            exact absurd ((nI_leI (b := 65536) (by omega) (by omega)).mp c_5) hsz
          · skip
            exact vx_throwS (A := fun _ => False) (cls := "java/lang/IllegalArgumentException") (names := ["java/lang/RuntimeException", "java/lang/Exception"]) (text := "no error has this number") hx hb hst hown (by decide) (by decide) (hg _ gw_201) (hg _ gw_11) hEX.st_204 hEX.at_IAE XG_IAE hEX.2.2.1 hEX.2.2.2 hS (hl.1.trans hml.symm) d_X_unmap_51 d_X_unmap_54 d_X_unmap_55 d_X_unmap_57 d_X_unmap_60 (fun x9 h9 => (hnt x9 h9).elim) (by decide) (Nat.le_of_ble_eq_true rfl) (by decide) (by decide) hlocks (fun t ht g1 g2 => ⟨(), trivial, rfl, g1, fun q9 h9 _ => g2 q9 h9⟩) (fun z9 h9 => by cases h9) (by decide) (by decide)
      · skip
        exact absurd rfl c_3
    · skip
      exact absurd rfl c_2
  · skip
    have he : ¬ N % 2 = 0 := fun z => c_1 (by rw [z]; rfl)
    refine lv_iconst (v := 1) hx hb d_X_unmap_6 (by decide) ?_
    refine lv_goto (tgt := 11) hx hb d_X_unmap_7 (by decide) ?_
    refine lv_istore_n (lv' := [(3, .int 1), (0, .ref x), (1, .int (nI N)), (2, .int 0)]) hx hb d_X_unmap_11 rfl hl (by decide) rfl (fun ls hl => ?_)
    refine lv_iload_n hx hb d_X_unmap_12 rfl (lv_at hl 0 rfl) ?_
    refine lv_iload_n hx hb d_X_unmap_13 rfl (lv_at hl 3 rfl) ?_
    refine lv_icmp_eq (tgt := 21) hx hb d_X_unmap_14 (by decide) (fun c_6 => ?_) (fun c_6 => ?_)
    · skip
      exact absurd c_6 (by decide)
    · skip
      have hsz0 : (N / 2 + (if (¬ N % 2 = 0) then 1 else 0)) = N / 2 + 1 := by rw [if_pos he]
      refine lv_iconst (v := 1) hx hb d_X_unmap_17 (by decide) ?_
      refine lv_goto (tgt := 22) hx hb d_X_unmap_18 (by decide) ?_
      refine lv_istore (lv' := [(4, .int 1), (3, .int 1), (0, .ref x), (1, .int (nI N)), (2, .int 0)]) hx hb d_X_unmap_22 hl (by decide) rfl (fun ls hl => ?_)
      refine lv_iload_n hx hb d_X_unmap_24 rfl (lv_at hl 3 rfl) ?_
      refine lv_iconst (v := 2) hx hb d_X_unmap_25 (by decide) ?_
      refine lv_idiv hx hb d_X_unmap_26 (by decide) ?_
      refine tpi (y := nI (N / 2)) (div2 (by omega)) ?_
      refine lv_iload hx hb d_X_unmap_27 (lv_at hl 0 rfl) ?_
      refine lv_if_eq (tgt := 36) hx hb d_X_unmap_29 (by decide) (fun c_7 => ?_) (fun c_7 => ?_)
      · skip
        exact absurd c_7 (by decide)
      · skip
        refine lv_iconst (v := 1) hx hb d_X_unmap_32 (by decide) ?_
        refine lv_goto (tgt := 37) hx hb d_X_unmap_33 (by decide) ?_
        refine lv_iadd hx hb d_X_unmap_37 ?_
        refine tpi (y := nI (N / 2 + (if (¬ N % 2 = 0) then 1 else 0))) (by rw [hsz0]; exact nI_add _ 1) ?_
        refine lv_istore (lv' := [(5, .int (nI (N / 2 + (if (¬ N % 2 = 0) then 1 else 0)))), (4, .int 1), (3, .int 1), (0, .ref x), (1, .int (nI N)), (2, .int 0)]) hx hb d_X_unmap_38 hl (by decide) rfl (fun ls hl => ?_)
        refine lv_iload_n hx hb d_X_unmap_40 rfl (lv_at hl 4 rfl) ?_
        refine lv_if_lt (tgt := 51) hx hb d_X_unmap_41 (by decide) (fun c_8 => ?_) (fun c_8 => ?_)
        · skip
          exact absurd c_8 (nI_pos (by omega))
        · skip
          refine lv_iload hx hb d_X_unmap_44 (lv_at hl 0 rfl) ?_
          refine lv_ldc (v := 65536) hx hb hown (hg _ gw_490) d_X_unmap_46 ?_
          refine lv_icmp_le (tgt := 61) hx hb d_X_unmap_48 (by decide) (fun c_9 => ?_) (fun c_9 => ?_)
          · skip
            exact absurd ((nI_leI (b := 65536) (by omega) (by omega)).mp c_9) hsz
          · skip
            exact vx_throwS (A := fun _ => False) (cls := "java/lang/IllegalArgumentException") (names := ["java/lang/RuntimeException", "java/lang/Exception"]) (text := "no error has this number") hx hb hst hown (by decide) (by decide) (hg _ gw_201) (hg _ gw_11) hEX.st_204 hEX.at_IAE XG_IAE hEX.2.2.1 hEX.2.2.2 hS (hl.1.trans hml.symm) d_X_unmap_51 d_X_unmap_54 d_X_unmap_55 d_X_unmap_57 d_X_unmap_60 (fun x9 h9 => (hnt x9 h9).elim) (by decide) (Nat.le_of_ble_eq_true rfl) (by decide) (by decide) hlocks (fun t ht g1 g2 => ⟨(), trivial, rfl, g1, fun q9 h9 _ => g2 q9 h9⟩) (fun z9 h9 => by cases h9) (by decide) (by decide)
set_option maxHeartbeats 4000000 in
set_option maxRecDepth 100000 in
theorem t_X_unmapA1 (l : Launch) (hst : l.stackTraces = false) (D : va_G) (tw : Nat) (sa : Nat → Nat) (x sw sr br bq bi ne li sp q : Nat) (lb : Int32) (N : Nat) (hN : N < 2 ^ 31) (hsz : ¬ (N / 2 + (if (N % 2 = 0) then 1 else 0)) ≤ 65536) : vx_Met l y_X_unmap (WSY y_X_unmap b_X_unmap 6 (some .int)) ({ frames := 6, cells := 1, slots := 6, locals := 110 }) (va_Pc [.ref x, .int (nI N), .int 1] (fun U => va_P D CLS [(x, .inr (4, [.int (nI bi), .int (nI ne), .int (nI li), .int (nI sp), .int (nI q), .ref sw, .ref sr, .ref br, .ref bq, .int lb]))] U.heap ∧ va_K D CLS [] U ∧ EV (fun _ => False) tw U ∧ EX (fun _ => False) sa U)) QT (XT "java/lang/IllegalArgumentException") 1 6 (fun _ => False) := by
  refine vx_ofW (cc := b_X_unmap) (maxL := 6) (ret := (some .int)) (by decide) rfl ?_
  intro p e s m args below meth c s₁ B hml hnt hv
  obtain ⟨rfl, hP, hK, hE, hEX⟩ := hv
  have hx := B.exec
  have hb := B.bytes
  have hr := B.returns
  have hts := atoms_spec (ws := WSY y_X_unmap b_X_unmap 6 (some .int)) B.pre
  have hg : ∀ w ∈ GW, w.before _ s = true := fun w h => hts w (List.mem_cons_of_mem _ h)
  have hown : s.vm.findClass "LineGolomb" = some m.cls := findClass_of_methodNamed B.named
  have hlocks := B.notSynchronized
  have hS : va_S (fun _ => False) s.heap s.heap [] := va_S.rf
  have hl := lv_entry ([.ref x, .int (nI N), .int 1]) (n := 6) (Nat.le_of_ble_eq_true rfl)
  rw [lg_entry_eq]
  generalize (lg_sl ([.ref x, .int (nI N), .int 1]) ++ List.replicate (6 - (lg_sl ([.ref x, .int (nI N), .int 1])).length) Slot.unset).toArray = ls at hl ⊢
  have hl : lv_has ls 6 [(0, .ref x), (1, .int (nI N)), (2, .int 1)] := hl
  refine lv_iload_n hx hb d_X_unmap_0 rfl (lv_at hl 1 rfl) ?_
  refine lv_iconst (v := 2) hx hb d_X_unmap_1 (by decide) ?_
  refine lv_irem hx hb d_X_unmap_2 (by decide) ?_
  refine tpi (y := nI (N % 2)) (rem2 (by omega)) ?_
  refine lv_if_eq (tgt := 10) hx hb d_X_unmap_3 (by decide) (fun c_1 => ?_) (fun c_1 => ?_)
  · skip
    have he : N % 2 = 0 := (nI_eq (b := 0) (by omega) (by omega)).mp c_1
    refine lv_iconst (v := 0) hx hb d_X_unmap_10 (by decide) ?_
    refine lv_istore_n (lv' := [(3, .int 0), (0, .ref x), (1, .int (nI N)), (2, .int 1)]) hx hb d_X_unmap_11 rfl hl (by decide) rfl (fun ls hl => ?_)
    refine lv_iload_n hx hb d_X_unmap_12 rfl (lv_at hl 0 rfl) ?_
    refine lv_iload_n hx hb d_X_unmap_13 rfl (lv_at hl 3 rfl) ?_
    refine lv_icmp_eq (tgt := 21) hx hb d_X_unmap_14 (by decide) (fun c_2 => ?_) (fun c_2 => ?_)
    · skip
      exact absurd c_2 (by decide)
    · skip
      have hsz0 : (N / 2 + (if (N % 2 = 0) then 1 else 0)) = N / 2 + 1 := by rw [if_pos he]
      refine lv_iconst (v := 1) hx hb d_X_unmap_17 (by decide) ?_
      refine lv_goto (tgt := 22) hx hb d_X_unmap_18 (by decide) ?_
      refine lv_istore (lv' := [(4, .int 1), (3, .int 0), (0, .ref x), (1, .int (nI N)), (2, .int 1)]) hx hb d_X_unmap_22 hl (by decide) rfl (fun ls hl => ?_)
      refine lv_iload_n hx hb d_X_unmap_24 rfl (lv_at hl 3 rfl) ?_
      refine lv_iconst (v := 2) hx hb d_X_unmap_25 (by decide) ?_
      refine lv_idiv hx hb d_X_unmap_26 (by decide) ?_
      refine tpi (y := nI (N / 2)) (div2 (by omega)) ?_
      refine lv_iload hx hb d_X_unmap_27 (lv_at hl 0 rfl) ?_
      refine lv_if_eq (tgt := 36) hx hb d_X_unmap_29 (by decide) (fun c_3 => ?_) (fun c_3 => ?_)
      · skip
        exact absurd c_3 (by decide)
      · skip
        refine lv_iconst (v := 1) hx hb d_X_unmap_32 (by decide) ?_
        refine lv_goto (tgt := 37) hx hb d_X_unmap_33 (by decide) ?_
        refine lv_iadd hx hb d_X_unmap_37 ?_
        refine tpi (y := nI (N / 2 + (if (N % 2 = 0) then 1 else 0))) (by rw [hsz0]; exact nI_add _ 1) ?_
        refine lv_istore (lv' := [(5, .int (nI (N / 2 + (if (N % 2 = 0) then 1 else 0)))), (4, .int 1), (3, .int 0), (0, .ref x), (1, .int (nI N)), (2, .int 1)]) hx hb d_X_unmap_38 hl (by decide) rfl (fun ls hl => ?_)
        refine lv_iload_n hx hb d_X_unmap_40 rfl (lv_at hl 4 rfl) ?_
        refine lv_if_lt (tgt := 51) hx hb d_X_unmap_41 (by decide) (fun c_4 => ?_) (fun c_4 => ?_)
        · skip
          exact absurd c_4 (nI_pos (by omega))
        · skip
          refine lv_iload hx hb d_X_unmap_44 (lv_at hl 0 rfl) ?_
          refine lv_ldc (v := 65536) hx hb hown (hg _ gw_490) d_X_unmap_46 ?_
          refine lv_icmp_le (tgt := 61) hx hb d_X_unmap_48 (by decide) (fun c_5 => ?_) (fun c_5 => ?_)
          · skip
            exact absurd ((nI_leI (b := 65536) (by omega) (by omega)).mp c_5) hsz
          · skip
            exact vx_throwS (A := fun _ => False) (cls := "java/lang/IllegalArgumentException") (names := ["java/lang/RuntimeException", "java/lang/Exception"]) (text := "no error has this number") hx hb hst hown (by decide) (by decide) (hg _ gw_201) (hg _ gw_11) hEX.st_204 hEX.at_IAE XG_IAE hEX.2.2.1 hEX.2.2.2 hS (hl.1.trans hml.symm) d_X_unmap_51 d_X_unmap_54 d_X_unmap_55 d_X_unmap_57 d_X_unmap_60 (fun x9 h9 => (hnt x9 h9).elim) (by decide) (Nat.le_of_ble_eq_true rfl) (by decide) (by decide) hlocks (fun t ht g1 g2 => ⟨(), trivial, rfl, g1, fun q9 h9 _ => g2 q9 h9⟩) (fun z9 h9 => by cases h9) (by decide) (by decide)
  · skip
    have he : ¬ N % 2 = 0 := fun z => c_1 (by rw [z]; rfl)
    refine lv_iconst (v := 1) hx hb d_X_unmap_6 (by decide) ?_
    refine lv_goto (tgt := 11) hx hb d_X_unmap_7 (by decide) ?_
    refine lv_istore_n (lv' := [(3, .int 1), (0, .ref x), (1, .int (nI N)), (2, .int 1)]) hx hb d_X_unmap_11 rfl hl (by decide) rfl (fun ls hl => ?_)
    refine lv_iload_n hx hb d_X_unmap_12 rfl (lv_at hl 0 rfl) ?_
    refine lv_iload_n hx hb d_X_unmap_13 rfl (lv_at hl 3 rfl) ?_
    refine lv_icmp_eq (tgt := 21) hx hb d_X_unmap_14 (by decide) (fun c_6 => ?_) (fun c_6 => ?_)
    · skip
      have hsz0 : (N / 2 + (if (N % 2 = 0) then 1 else 0)) = N / 2 + 0 := by rw [if_neg (fun z => he z)]
      refine lv_iconst (v := 0) hx hb d_X_unmap_21 (by decide) ?_
      refine lv_istore (lv' := [(4, .int 0), (3, .int 1), (0, .ref x), (1, .int (nI N)), (2, .int 1)]) hx hb d_X_unmap_22 hl (by decide) rfl (fun ls hl => ?_)
      refine lv_iload_n hx hb d_X_unmap_24 rfl (lv_at hl 3 rfl) ?_
      refine lv_iconst (v := 2) hx hb d_X_unmap_25 (by decide) ?_
      refine lv_idiv hx hb d_X_unmap_26 (by decide) ?_
      refine tpi (y := nI (N / 2)) (div2 (by omega)) ?_
      refine lv_iload hx hb d_X_unmap_27 (lv_at hl 0 rfl) ?_
      refine lv_if_eq (tgt := 36) hx hb d_X_unmap_29 (by decide) (fun c_7 => ?_) (fun c_7 => ?_)
      · skip
        refine lv_iconst (v := 0) hx hb d_X_unmap_36 (by decide) ?_
        refine lv_iadd hx hb d_X_unmap_37 ?_
        refine tpi (y := nI (N / 2 + (if (N % 2 = 0) then 1 else 0))) (by rw [hsz0]; exact nI_add _ 0) ?_
        refine lv_istore (lv' := [(5, .int (nI (N / 2 + (if (N % 2 = 0) then 1 else 0)))), (4, .int 0), (3, .int 1), (0, .ref x), (1, .int (nI N)), (2, .int 1)]) hx hb d_X_unmap_38 hl (by decide) rfl (fun ls hl => ?_)
        refine lv_iload_n hx hb d_X_unmap_40 rfl (lv_at hl 4 rfl) ?_
        refine lv_if_lt (tgt := 51) hx hb d_X_unmap_41 (by decide) (fun c_8 => ?_) (fun c_8 => ?_)
        · skip
          exact absurd c_8 (nI_pos (by omega))
        · skip
          refine lv_iload hx hb d_X_unmap_44 (lv_at hl 0 rfl) ?_
          refine lv_ldc (v := 65536) hx hb hown (hg _ gw_490) d_X_unmap_46 ?_
          refine lv_icmp_le (tgt := 61) hx hb d_X_unmap_48 (by decide) (fun c_9 => ?_) (fun c_9 => ?_)
          · skip
            exact absurd ((nI_leI (b := 65536) (by omega) (by omega)).mp c_9) hsz
          · skip
            exact vx_throwS (A := fun _ => False) (cls := "java/lang/IllegalArgumentException") (names := ["java/lang/RuntimeException", "java/lang/Exception"]) (text := "no error has this number") hx hb hst hown (by decide) (by decide) (hg _ gw_201) (hg _ gw_11) hEX.st_204 hEX.at_IAE XG_IAE hEX.2.2.1 hEX.2.2.2 hS (hl.1.trans hml.symm) d_X_unmap_51 d_X_unmap_54 d_X_unmap_55 d_X_unmap_57 d_X_unmap_60 (fun x9 h9 => (hnt x9 h9).elim) (by decide) (Nat.le_of_ble_eq_true rfl) (by decide) (by decide) hlocks (fun t ht g1 g2 => ⟨(), trivial, rfl, g1, fun q9 h9 _ => g2 q9 h9⟩) (fun z9 h9 => by cases h9) (by decide) (by decide)
      · skip
        exact absurd rfl c_7
    · skip
      exact absurd rfl c_6
set_option maxHeartbeats 4000000 in
set_option maxRecDepth 100000 in
theorem t_X_stateA00 (l : Launch) (hst : l.stackTraces = false) (D : va_G) (tw : Nat) (sa : Nat → Nat) (x sw sr br bq bi ne li sp q : Nat) (lb : Int32) (e0 e1 pl rw fs sm ct ng : Nat) (v0 : Int32) (hbad : v0.toInt < 0 ∨ 3 < v0.toInt) : vx_Met l y_X_state (WSY y_X_state b_X_state 5 (some .int)) ({ frames := 6, cells := 1, slots := 6, locals := 110 }) (va_Pc [.ref x, .int 0, .int 0, .int v0] (fun U => va_P D CLS [(x, .inr (4, [.int (nI bi), .int (nI ne), .int (nI li), .int (nI sp), .int (nI q), .ref sw, .ref sr, .ref br, .ref bq, .int lb])), (sw, .inr (3, [.ref e0, .ref e1, .int (nI pl), .int (nI rw)])), (e0, .inr (2, [.int 0, .int (nI fs), .int (nI sm), .int (nI ct), .int (nI ng)]))] U.heap ∧ va_K D CLS [] U ∧ EV (fun _ => False) tw U ∧ EX (fun _ => False) sa U)) QT (XT "java/lang/IllegalArgumentException") 1 6 (fun _ => False) := by
  refine vx_ofW (cc := b_X_state) (maxL := 5) (ret := (some .int)) (by decide) rfl ?_
  intro p e s m args below meth c s₁ B hml hnt hv
  obtain ⟨rfl, hP, hK, hE, hEX⟩ := hv
  have hx := B.exec
  have hb := B.bytes
  have hr := B.returns
  have hts := atoms_spec (ws := WSY y_X_state b_X_state 5 (some .int)) B.pre
  have hg : ∀ w ∈ GW, w.before _ s = true := fun w h => hts w (List.mem_cons_of_mem _ h)
  have hown : s.vm.findClass "LineGolomb" = some m.cls := findClass_of_methodNamed B.named
  have hlocks := B.notSynchronized
  have hS : va_S (fun _ => False) s.heap s.heap [] := va_S.rf
  have hl := lv_entry ([.ref x, .int 0, .int 0, .int v0]) (n := 5) (Nat.le_of_ble_eq_true rfl)
  rw [lg_entry_eq]
  generalize (lg_sl ([.ref x, .int 0, .int 0, .int v0]) ++ List.replicate (5 - (lg_sl ([.ref x, .int 0, .int 0, .int v0])).length) Slot.unset).toArray = ls at hl ⊢
  have hl : lv_has ls 5 [(0, .ref x), (1, .int 0), (2, .int 0), (3, .int v0)] := hl
  refine lv_iload_n hx hb d_X_state_0 rfl (lv_at hl 2 rfl) ?_
  have hPc := hP.sub (ws' := []) [] rfl
  have hKc := hK.sub (tys' := []) [] rfl
  refine pci (va_runS (As := [.int 0]) (rest := []) ⟨hx, hb, hml, hown, hg⟩ (c_X_isKind l D 0) (va_cwS 1 hg (gS gw_343 gw_344 gw_1 gw_345) rfl rfl rfl (by decide +kernel) ⟨Nat.le_of_ble_eq_true rfl, Nat.le_of_ble_eq_true rfl⟩) ⟨fun a U g mk q => by obtain ⟨q0, qP, qK⟩ := q; exact ⟨q0, qP, va_K.moved (u := U) (U := U.calling g mk a) (Vm.Alike.refl U.vm) qK⟩, fun U hU hW => ⟨rfl, by rw [hU]; exact hPc, va_K.moved hW.alike hKc⟩⟩ rfl rfl hl.1 rfl (lv_room (Nat.le_of_ble_eq_true rfl)) d_X_state_1 (⟨Nat.le_of_ble_eq_true rfl, Nat.le_of_ble_eq_true rfl⟩)) ?_
  refine tpi (y := 1) (by decide) ?_
  refine lv_if_ne (tgt := 17) hx hb d_X_state_4 (by decide) (fun c_1 => ?_) (fun c_1 => ?_)
  · skip
    refine lv_aload_n hx hb d_X_state_17 rfl (lv_at hl 0 rfl) ?_
    refine lv_iload_n hx hb d_X_state_18 rfl (lv_at hl 1 rfl) ?_
    have hPc := hP.sub (ws' := [(x, .inr (4, [.int (nI bi), .int (nI ne), .int (nI li), .int (nI sp), .int (nI q), .ref sw, .ref sr, .ref br, .ref bq, .int lb]))]) [0] rfl
    have hKc := hK.sub (tys' := []) [] rfl
    refine pcr (va_runV (As := [.int 0]) (rest := []) ⟨hx, hb, hml, hown, hg⟩ (c_X_sideOf0 l D x sw sr br bq bi ne li sp q lb) (cwV 1 hg (gV gw_163 gw_165 gs_0 gw_1 gw_166) rfl rfl rfl (by decide +kernel) ⟨Nat.le_of_ble_eq_true rfl, Nat.le_of_ble_eq_true rfl⟩) ⟨fun a U g mk q => by obtain ⟨q0, qP, qK⟩ := q; exact ⟨q0, qP, va_K.moved (u := U) (U := U.calling g mk a) (Vm.Alike.refl U.vm) qK⟩, va_recv hKc hPc (ci := 4) (q0 := 0) rfl rfl, fun U hU hW => ⟨rfl, by rw [hU]; exact hPc, va_K.moved hW.alike hKc⟩⟩ rfl rfl hl.1 rfl (lv_room (Nat.le_of_ble_eq_true rfl)) d_X_state_19 (⟨Nat.le_of_ble_eq_true rfl, Nat.le_of_ble_eq_true rfl⟩)) ?_
    refine lv_iload_n hx hb d_X_state_22 rfl (lv_at hl 2 rfl) ?_
    have hPc := hP.sub (ws' := [(sw, .inr (3, [.ref e0, .ref e1, .int (nI pl), .int (nI rw)]))]) [1] rfl
    have hKc := hK.sub (tys' := []) [] rfl
    refine pcr (va_runV (As := [.int 0]) (rest := []) ⟨hx, hb, hml, hown, hg⟩ (c_S_endsOf0 l D sw e0 e1 pl rw) (cwV 1 hg (gV gw_367 gw_368 gw_369 gw_5 gw_370) rfl rfl rfl (by decide +kernel) ⟨Nat.le_of_ble_eq_true rfl, Nat.le_of_ble_eq_true rfl⟩) ⟨fun a U g mk q => by obtain ⟨q0, qP, qK⟩ := q; exact ⟨q0, qP, va_K.moved (u := U) (U := U.calling g mk a) (Vm.Alike.refl U.vm) qK⟩, va_recv hKc hPc (ci := 3) (q0 := 0) rfl rfl, fun U hU hW => ⟨rfl, by rw [hU]; exact hPc, va_K.moved hW.alike hKc⟩⟩ rfl rfl hl.1 rfl (lv_room (Nat.le_of_ble_eq_true rfl)) d_X_state_23 (⟨Nat.le_of_ble_eq_true rfl, Nat.le_of_ble_eq_true rfl⟩)) ?_
    refine lv_astore (lv' := [(4, .ref e0), (0, .ref x), (1, .int 0), (2, .int 0), (3, .int v0)]) hx hb d_X_state_26 hl (by decide) rfl (fun ls hl => ?_)
    refine lv_iload_n hx hb d_X_state_28 rfl (lv_at hl 4 rfl) ?_
    refine lv_tableOut (tgt := 84) hx hb d_X_state_29 hbad (by decide) ?_
    exact vx_throwS (A := fun _ => False) (cls := "java/lang/IllegalArgumentException") (names := ["java/lang/RuntimeException", "java/lang/Exception"]) (text := "no such part of the state") hx hb hst hown (by decide) (by decide) (hg _ gw_201) (hg _ gw_11) hEX.st_219 hEX.at_IAE XG_IAE hEX.2.2.1 hEX.2.2.2 hS (hl.1.trans hml.symm) d_X_state_84 d_X_state_87 d_X_state_88 d_X_state_90 d_X_state_93 (fun x9 h9 => (hnt x9 h9).elim) (by decide) (Nat.le_of_ble_eq_true rfl) (by decide) (by decide) hlocks (fun t ht g1 g2 => ⟨(), trivial, rfl, g1, fun q9 h9 _ => g2 q9 h9⟩) (fun z9 h9 => by cases h9) (by decide) (by decide)
  · skip
    exact absurd c_1 (by decide)
set_option maxHeartbeats 4000000 in
set_option maxRecDepth 100000 in
theorem t_X_stateA01 (l : Launch) (hst : l.stackTraces = false) (D : va_G) (tw : Nat) (sa : Nat → Nat) (x sw sr br bq bi ne li sp q : Nat) (lb : Int32) (e0 e1 pl rw fs sm ct ng : Nat) (v0 : Int32) (hbad : v0.toInt < 0 ∨ 3 < v0.toInt) : vx_Met l y_X_state (WSY y_X_state b_X_state 5 (some .int)) ({ frames := 6, cells := 1, slots := 6, locals := 110 }) (va_Pc [.ref x, .int 0, .int 1, .int v0] (fun U => va_P D CLS [(x, .inr (4, [.int (nI bi), .int (nI ne), .int (nI li), .int (nI sp), .int (nI q), .ref sw, .ref sr, .ref br, .ref bq, .int lb])), (sw, .inr (3, [.ref e0, .ref e1, .int (nI pl), .int (nI rw)])), (e1, .inr (2, [.int 1, .int (nI fs), .int (nI sm), .int (nI ct), .int (nI ng)]))] U.heap ∧ va_K D CLS [] U ∧ EV (fun _ => False) tw U ∧ EX (fun _ => False) sa U)) QT (XT "java/lang/IllegalArgumentException") 1 6 (fun _ => False) := by
  refine vx_ofW (cc := b_X_state) (maxL := 5) (ret := (some .int)) (by decide) rfl ?_
  intro p e s m args below meth c s₁ B hml hnt hv
  obtain ⟨rfl, hP, hK, hE, hEX⟩ := hv
  have hx := B.exec
  have hb := B.bytes
  have hr := B.returns
  have hts := atoms_spec (ws := WSY y_X_state b_X_state 5 (some .int)) B.pre
  have hg : ∀ w ∈ GW, w.before _ s = true := fun w h => hts w (List.mem_cons_of_mem _ h)
  have hown : s.vm.findClass "LineGolomb" = some m.cls := findClass_of_methodNamed B.named
  have hlocks := B.notSynchronized
  have hS : va_S (fun _ => False) s.heap s.heap [] := va_S.rf
  have hl := lv_entry ([.ref x, .int 0, .int 1, .int v0]) (n := 5) (Nat.le_of_ble_eq_true rfl)
  rw [lg_entry_eq]
  generalize (lg_sl ([.ref x, .int 0, .int 1, .int v0]) ++ List.replicate (5 - (lg_sl ([.ref x, .int 0, .int 1, .int v0])).length) Slot.unset).toArray = ls at hl ⊢
  have hl : lv_has ls 5 [(0, .ref x), (1, .int 0), (2, .int 1), (3, .int v0)] := hl
  refine lv_iload_n hx hb d_X_state_0 rfl (lv_at hl 2 rfl) ?_
  have hPc := hP.sub (ws' := []) [] rfl
  have hKc := hK.sub (tys' := []) [] rfl
  refine pci (va_runS (As := [.int 1]) (rest := []) ⟨hx, hb, hml, hown, hg⟩ (c_X_isKind l D 1) (va_cwS 1 hg (gS gw_343 gw_344 gw_1 gw_345) rfl rfl rfl (by decide +kernel) ⟨Nat.le_of_ble_eq_true rfl, Nat.le_of_ble_eq_true rfl⟩) ⟨fun a U g mk q => by obtain ⟨q0, qP, qK⟩ := q; exact ⟨q0, qP, va_K.moved (u := U) (U := U.calling g mk a) (Vm.Alike.refl U.vm) qK⟩, fun U hU hW => ⟨rfl, by rw [hU]; exact hPc, va_K.moved hW.alike hKc⟩⟩ rfl rfl hl.1 rfl (lv_room (Nat.le_of_ble_eq_true rfl)) d_X_state_1 (⟨Nat.le_of_ble_eq_true rfl, Nat.le_of_ble_eq_true rfl⟩)) ?_
  refine tpi (y := 1) (by decide) ?_
  refine lv_if_ne (tgt := 17) hx hb d_X_state_4 (by decide) (fun c_1 => ?_) (fun c_1 => ?_)
  · skip
    refine lv_aload_n hx hb d_X_state_17 rfl (lv_at hl 0 rfl) ?_
    refine lv_iload_n hx hb d_X_state_18 rfl (lv_at hl 1 rfl) ?_
    have hPc := hP.sub (ws' := [(x, .inr (4, [.int (nI bi), .int (nI ne), .int (nI li), .int (nI sp), .int (nI q), .ref sw, .ref sr, .ref br, .ref bq, .int lb]))]) [0] rfl
    have hKc := hK.sub (tys' := []) [] rfl
    refine pcr (va_runV (As := [.int 0]) (rest := []) ⟨hx, hb, hml, hown, hg⟩ (c_X_sideOf0 l D x sw sr br bq bi ne li sp q lb) (cwV 1 hg (gV gw_163 gw_165 gs_0 gw_1 gw_166) rfl rfl rfl (by decide +kernel) ⟨Nat.le_of_ble_eq_true rfl, Nat.le_of_ble_eq_true rfl⟩) ⟨fun a U g mk q => by obtain ⟨q0, qP, qK⟩ := q; exact ⟨q0, qP, va_K.moved (u := U) (U := U.calling g mk a) (Vm.Alike.refl U.vm) qK⟩, va_recv hKc hPc (ci := 4) (q0 := 0) rfl rfl, fun U hU hW => ⟨rfl, by rw [hU]; exact hPc, va_K.moved hW.alike hKc⟩⟩ rfl rfl hl.1 rfl (lv_room (Nat.le_of_ble_eq_true rfl)) d_X_state_19 (⟨Nat.le_of_ble_eq_true rfl, Nat.le_of_ble_eq_true rfl⟩)) ?_
    refine lv_iload_n hx hb d_X_state_22 rfl (lv_at hl 2 rfl) ?_
    have hPc := hP.sub (ws' := [(sw, .inr (3, [.ref e0, .ref e1, .int (nI pl), .int (nI rw)]))]) [1] rfl
    have hKc := hK.sub (tys' := []) [] rfl
    refine pcr (va_runV (As := [.int 1]) (rest := []) ⟨hx, hb, hml, hown, hg⟩ (c_S_endsOf1 l D sw e0 e1 pl rw) (cwV 1 hg (gV gw_367 gw_368 gw_369 gw_5 gw_370) rfl rfl rfl (by decide +kernel) ⟨Nat.le_of_ble_eq_true rfl, Nat.le_of_ble_eq_true rfl⟩) ⟨fun a U g mk q => by obtain ⟨q0, qP, qK⟩ := q; exact ⟨q0, qP, va_K.moved (u := U) (U := U.calling g mk a) (Vm.Alike.refl U.vm) qK⟩, va_recv hKc hPc (ci := 3) (q0 := 0) rfl rfl, fun U hU hW => ⟨rfl, by rw [hU]; exact hPc, va_K.moved hW.alike hKc⟩⟩ rfl rfl hl.1 rfl (lv_room (Nat.le_of_ble_eq_true rfl)) d_X_state_23 (⟨Nat.le_of_ble_eq_true rfl, Nat.le_of_ble_eq_true rfl⟩)) ?_
    refine lv_astore (lv' := [(4, .ref e1), (0, .ref x), (1, .int 0), (2, .int 1), (3, .int v0)]) hx hb d_X_state_26 hl (by decide) rfl (fun ls hl => ?_)
    refine lv_iload_n hx hb d_X_state_28 rfl (lv_at hl 4 rfl) ?_
    refine lv_tableOut (tgt := 84) hx hb d_X_state_29 hbad (by decide) ?_
    exact vx_throwS (A := fun _ => False) (cls := "java/lang/IllegalArgumentException") (names := ["java/lang/RuntimeException", "java/lang/Exception"]) (text := "no such part of the state") hx hb hst hown (by decide) (by decide) (hg _ gw_201) (hg _ gw_11) hEX.st_219 hEX.at_IAE XG_IAE hEX.2.2.1 hEX.2.2.2 hS (hl.1.trans hml.symm) d_X_state_84 d_X_state_87 d_X_state_88 d_X_state_90 d_X_state_93 (fun x9 h9 => (hnt x9 h9).elim) (by decide) (Nat.le_of_ble_eq_true rfl) (by decide) (by decide) hlocks (fun t ht g1 g2 => ⟨(), trivial, rfl, g1, fun q9 h9 _ => g2 q9 h9⟩) (fun z9 h9 => by cases h9) (by decide) (by decide)
  · skip
    exact absurd c_1 (by decide)
set_option maxHeartbeats 4000000 in
set_option maxRecDepth 100000 in
theorem t_X_stateA10 (l : Launch) (hst : l.stackTraces = false) (D : va_G) (tw : Nat) (sa : Nat → Nat) (x sw sr br bq bi ne li sp q : Nat) (lb : Int32) (e0 e1 pl rw fs sm ct ng : Nat) (v0 : Int32) (hbad : v0.toInt < 0 ∨ 3 < v0.toInt) : vx_Met l y_X_state (WSY y_X_state b_X_state 5 (some .int)) ({ frames := 6, cells := 1, slots := 6, locals := 110 }) (va_Pc [.ref x, .int 1, .int 0, .int v0] (fun U => va_P D CLS [(x, .inr (4, [.int (nI bi), .int (nI ne), .int (nI li), .int (nI sp), .int (nI q), .ref sw, .ref sr, .ref br, .ref bq, .int lb])), (sr, .inr (3, [.ref e0, .ref e1, .int (nI pl), .int (nI rw)])), (e0, .inr (2, [.int 0, .int (nI fs), .int (nI sm), .int (nI ct), .int (nI ng)]))] U.heap ∧ va_K D CLS [] U ∧ EV (fun _ => False) tw U ∧ EX (fun _ => False) sa U)) QT (XT "java/lang/IllegalArgumentException") 1 6 (fun _ => False) := by
  refine vx_ofW (cc := b_X_state) (maxL := 5) (ret := (some .int)) (by decide) rfl ?_
  intro p e s m args below meth c s₁ B hml hnt hv
  obtain ⟨rfl, hP, hK, hE, hEX⟩ := hv
  have hx := B.exec
  have hb := B.bytes
  have hr := B.returns
  have hts := atoms_spec (ws := WSY y_X_state b_X_state 5 (some .int)) B.pre
  have hg : ∀ w ∈ GW, w.before _ s = true := fun w h => hts w (List.mem_cons_of_mem _ h)
  have hown : s.vm.findClass "LineGolomb" = some m.cls := findClass_of_methodNamed B.named
  have hlocks := B.notSynchronized
  have hS : va_S (fun _ => False) s.heap s.heap [] := va_S.rf
  have hl := lv_entry ([.ref x, .int 1, .int 0, .int v0]) (n := 5) (Nat.le_of_ble_eq_true rfl)
  rw [lg_entry_eq]
  generalize (lg_sl ([.ref x, .int 1, .int 0, .int v0]) ++ List.replicate (5 - (lg_sl ([.ref x, .int 1, .int 0, .int v0])).length) Slot.unset).toArray = ls at hl ⊢
  have hl : lv_has ls 5 [(0, .ref x), (1, .int 1), (2, .int 0), (3, .int v0)] := hl
  refine lv_iload_n hx hb d_X_state_0 rfl (lv_at hl 2 rfl) ?_
  have hPc := hP.sub (ws' := []) [] rfl
  have hKc := hK.sub (tys' := []) [] rfl
  refine pci (va_runS (As := [.int 0]) (rest := []) ⟨hx, hb, hml, hown, hg⟩ (c_X_isKind l D 0) (va_cwS 1 hg (gS gw_343 gw_344 gw_1 gw_345) rfl rfl rfl (by decide +kernel) ⟨Nat.le_of_ble_eq_true rfl, Nat.le_of_ble_eq_true rfl⟩) ⟨fun a U g mk q => by obtain ⟨q0, qP, qK⟩ := q; exact ⟨q0, qP, va_K.moved (u := U) (U := U.calling g mk a) (Vm.Alike.refl U.vm) qK⟩, fun U hU hW => ⟨rfl, by rw [hU]; exact hPc, va_K.moved hW.alike hKc⟩⟩ rfl rfl hl.1 rfl (lv_room (Nat.le_of_ble_eq_true rfl)) d_X_state_1 (⟨Nat.le_of_ble_eq_true rfl, Nat.le_of_ble_eq_true rfl⟩)) ?_
  refine tpi (y := 1) (by decide) ?_
  refine lv_if_ne (tgt := 17) hx hb d_X_state_4 (by decide) (fun c_1 => ?_) (fun c_1 => ?_)
  · skip
    refine lv_aload_n hx hb d_X_state_17 rfl (lv_at hl 0 rfl) ?_
    refine lv_iload_n hx hb d_X_state_18 rfl (lv_at hl 1 rfl) ?_
    have hPc := hP.sub (ws' := [(x, .inr (4, [.int (nI bi), .int (nI ne), .int (nI li), .int (nI sp), .int (nI q), .ref sw, .ref sr, .ref br, .ref bq, .int lb]))]) [0] rfl
    have hKc := hK.sub (tys' := []) [] rfl
    refine pcr (va_runV (As := [.int 1]) (rest := []) ⟨hx, hb, hml, hown, hg⟩ (c_X_sideOf1 l D x sw sr br bq bi ne li sp q lb) (cwV 1 hg (gV gw_163 gw_165 gs_0 gw_1 gw_166) rfl rfl rfl (by decide +kernel) ⟨Nat.le_of_ble_eq_true rfl, Nat.le_of_ble_eq_true rfl⟩) ⟨fun a U g mk q => by obtain ⟨q0, qP, qK⟩ := q; exact ⟨q0, qP, va_K.moved (u := U) (U := U.calling g mk a) (Vm.Alike.refl U.vm) qK⟩, va_recv hKc hPc (ci := 4) (q0 := 0) rfl rfl, fun U hU hW => ⟨rfl, by rw [hU]; exact hPc, va_K.moved hW.alike hKc⟩⟩ rfl rfl hl.1 rfl (lv_room (Nat.le_of_ble_eq_true rfl)) d_X_state_19 (⟨Nat.le_of_ble_eq_true rfl, Nat.le_of_ble_eq_true rfl⟩)) ?_
    refine lv_iload_n hx hb d_X_state_22 rfl (lv_at hl 2 rfl) ?_
    have hPc := hP.sub (ws' := [(sr, .inr (3, [.ref e0, .ref e1, .int (nI pl), .int (nI rw)]))]) [1] rfl
    have hKc := hK.sub (tys' := []) [] rfl
    refine pcr (va_runV (As := [.int 0]) (rest := []) ⟨hx, hb, hml, hown, hg⟩ (c_S_endsOf0 l D sr e0 e1 pl rw) (cwV 1 hg (gV gw_367 gw_368 gw_369 gw_5 gw_370) rfl rfl rfl (by decide +kernel) ⟨Nat.le_of_ble_eq_true rfl, Nat.le_of_ble_eq_true rfl⟩) ⟨fun a U g mk q => by obtain ⟨q0, qP, qK⟩ := q; exact ⟨q0, qP, va_K.moved (u := U) (U := U.calling g mk a) (Vm.Alike.refl U.vm) qK⟩, va_recv hKc hPc (ci := 3) (q0 := 0) rfl rfl, fun U hU hW => ⟨rfl, by rw [hU]; exact hPc, va_K.moved hW.alike hKc⟩⟩ rfl rfl hl.1 rfl (lv_room (Nat.le_of_ble_eq_true rfl)) d_X_state_23 (⟨Nat.le_of_ble_eq_true rfl, Nat.le_of_ble_eq_true rfl⟩)) ?_
    refine lv_astore (lv' := [(4, .ref e0), (0, .ref x), (1, .int 1), (2, .int 0), (3, .int v0)]) hx hb d_X_state_26 hl (by decide) rfl (fun ls hl => ?_)
    refine lv_iload_n hx hb d_X_state_28 rfl (lv_at hl 4 rfl) ?_
    refine lv_tableOut (tgt := 84) hx hb d_X_state_29 hbad (by decide) ?_
    exact vx_throwS (A := fun _ => False) (cls := "java/lang/IllegalArgumentException") (names := ["java/lang/RuntimeException", "java/lang/Exception"]) (text := "no such part of the state") hx hb hst hown (by decide) (by decide) (hg _ gw_201) (hg _ gw_11) hEX.st_219 hEX.at_IAE XG_IAE hEX.2.2.1 hEX.2.2.2 hS (hl.1.trans hml.symm) d_X_state_84 d_X_state_87 d_X_state_88 d_X_state_90 d_X_state_93 (fun x9 h9 => (hnt x9 h9).elim) (by decide) (Nat.le_of_ble_eq_true rfl) (by decide) (by decide) hlocks (fun t ht g1 g2 => ⟨(), trivial, rfl, g1, fun q9 h9 _ => g2 q9 h9⟩) (fun z9 h9 => by cases h9) (by decide) (by decide)
  · skip
    exact absurd c_1 (by decide)
set_option maxHeartbeats 4000000 in
set_option maxRecDepth 100000 in
theorem t_X_stateA11 (l : Launch) (hst : l.stackTraces = false) (D : va_G) (tw : Nat) (sa : Nat → Nat) (x sw sr br bq bi ne li sp q : Nat) (lb : Int32) (e0 e1 pl rw fs sm ct ng : Nat) (v0 : Int32) (hbad : v0.toInt < 0 ∨ 3 < v0.toInt) : vx_Met l y_X_state (WSY y_X_state b_X_state 5 (some .int)) ({ frames := 6, cells := 1, slots := 6, locals := 110 }) (va_Pc [.ref x, .int 1, .int 1, .int v0] (fun U => va_P D CLS [(x, .inr (4, [.int (nI bi), .int (nI ne), .int (nI li), .int (nI sp), .int (nI q), .ref sw, .ref sr, .ref br, .ref bq, .int lb])), (sr, .inr (3, [.ref e0, .ref e1, .int (nI pl), .int (nI rw)])), (e1, .inr (2, [.int 1, .int (nI fs), .int (nI sm), .int (nI ct), .int (nI ng)]))] U.heap ∧ va_K D CLS [] U ∧ EV (fun _ => False) tw U ∧ EX (fun _ => False) sa U)) QT (XT "java/lang/IllegalArgumentException") 1 6 (fun _ => False) := by
  refine vx_ofW (cc := b_X_state) (maxL := 5) (ret := (some .int)) (by decide) rfl ?_
  intro p e s m args below meth c s₁ B hml hnt hv
  obtain ⟨rfl, hP, hK, hE, hEX⟩ := hv
  have hx := B.exec
  have hb := B.bytes
  have hr := B.returns
  have hts := atoms_spec (ws := WSY y_X_state b_X_state 5 (some .int)) B.pre
  have hg : ∀ w ∈ GW, w.before _ s = true := fun w h => hts w (List.mem_cons_of_mem _ h)
  have hown : s.vm.findClass "LineGolomb" = some m.cls := findClass_of_methodNamed B.named
  have hlocks := B.notSynchronized
  have hS : va_S (fun _ => False) s.heap s.heap [] := va_S.rf
  have hl := lv_entry ([.ref x, .int 1, .int 1, .int v0]) (n := 5) (Nat.le_of_ble_eq_true rfl)
  rw [lg_entry_eq]
  generalize (lg_sl ([.ref x, .int 1, .int 1, .int v0]) ++ List.replicate (5 - (lg_sl ([.ref x, .int 1, .int 1, .int v0])).length) Slot.unset).toArray = ls at hl ⊢
  have hl : lv_has ls 5 [(0, .ref x), (1, .int 1), (2, .int 1), (3, .int v0)] := hl
  refine lv_iload_n hx hb d_X_state_0 rfl (lv_at hl 2 rfl) ?_
  have hPc := hP.sub (ws' := []) [] rfl
  have hKc := hK.sub (tys' := []) [] rfl
  refine pci (va_runS (As := [.int 1]) (rest := []) ⟨hx, hb, hml, hown, hg⟩ (c_X_isKind l D 1) (va_cwS 1 hg (gS gw_343 gw_344 gw_1 gw_345) rfl rfl rfl (by decide +kernel) ⟨Nat.le_of_ble_eq_true rfl, Nat.le_of_ble_eq_true rfl⟩) ⟨fun a U g mk q => by obtain ⟨q0, qP, qK⟩ := q; exact ⟨q0, qP, va_K.moved (u := U) (U := U.calling g mk a) (Vm.Alike.refl U.vm) qK⟩, fun U hU hW => ⟨rfl, by rw [hU]; exact hPc, va_K.moved hW.alike hKc⟩⟩ rfl rfl hl.1 rfl (lv_room (Nat.le_of_ble_eq_true rfl)) d_X_state_1 (⟨Nat.le_of_ble_eq_true rfl, Nat.le_of_ble_eq_true rfl⟩)) ?_
  refine tpi (y := 1) (by decide) ?_
  refine lv_if_ne (tgt := 17) hx hb d_X_state_4 (by decide) (fun c_1 => ?_) (fun c_1 => ?_)
  · skip
    refine lv_aload_n hx hb d_X_state_17 rfl (lv_at hl 0 rfl) ?_
    refine lv_iload_n hx hb d_X_state_18 rfl (lv_at hl 1 rfl) ?_
    have hPc := hP.sub (ws' := [(x, .inr (4, [.int (nI bi), .int (nI ne), .int (nI li), .int (nI sp), .int (nI q), .ref sw, .ref sr, .ref br, .ref bq, .int lb]))]) [0] rfl
    have hKc := hK.sub (tys' := []) [] rfl
    refine pcr (va_runV (As := [.int 1]) (rest := []) ⟨hx, hb, hml, hown, hg⟩ (c_X_sideOf1 l D x sw sr br bq bi ne li sp q lb) (cwV 1 hg (gV gw_163 gw_165 gs_0 gw_1 gw_166) rfl rfl rfl (by decide +kernel) ⟨Nat.le_of_ble_eq_true rfl, Nat.le_of_ble_eq_true rfl⟩) ⟨fun a U g mk q => by obtain ⟨q0, qP, qK⟩ := q; exact ⟨q0, qP, va_K.moved (u := U) (U := U.calling g mk a) (Vm.Alike.refl U.vm) qK⟩, va_recv hKc hPc (ci := 4) (q0 := 0) rfl rfl, fun U hU hW => ⟨rfl, by rw [hU]; exact hPc, va_K.moved hW.alike hKc⟩⟩ rfl rfl hl.1 rfl (lv_room (Nat.le_of_ble_eq_true rfl)) d_X_state_19 (⟨Nat.le_of_ble_eq_true rfl, Nat.le_of_ble_eq_true rfl⟩)) ?_
    refine lv_iload_n hx hb d_X_state_22 rfl (lv_at hl 2 rfl) ?_
    have hPc := hP.sub (ws' := [(sr, .inr (3, [.ref e0, .ref e1, .int (nI pl), .int (nI rw)]))]) [1] rfl
    have hKc := hK.sub (tys' := []) [] rfl
    refine pcr (va_runV (As := [.int 1]) (rest := []) ⟨hx, hb, hml, hown, hg⟩ (c_S_endsOf1 l D sr e0 e1 pl rw) (cwV 1 hg (gV gw_367 gw_368 gw_369 gw_5 gw_370) rfl rfl rfl (by decide +kernel) ⟨Nat.le_of_ble_eq_true rfl, Nat.le_of_ble_eq_true rfl⟩) ⟨fun a U g mk q => by obtain ⟨q0, qP, qK⟩ := q; exact ⟨q0, qP, va_K.moved (u := U) (U := U.calling g mk a) (Vm.Alike.refl U.vm) qK⟩, va_recv hKc hPc (ci := 3) (q0 := 0) rfl rfl, fun U hU hW => ⟨rfl, by rw [hU]; exact hPc, va_K.moved hW.alike hKc⟩⟩ rfl rfl hl.1 rfl (lv_room (Nat.le_of_ble_eq_true rfl)) d_X_state_23 (⟨Nat.le_of_ble_eq_true rfl, Nat.le_of_ble_eq_true rfl⟩)) ?_
    refine lv_astore (lv' := [(4, .ref e1), (0, .ref x), (1, .int 1), (2, .int 1), (3, .int v0)]) hx hb d_X_state_26 hl (by decide) rfl (fun ls hl => ?_)
    refine lv_iload_n hx hb d_X_state_28 rfl (lv_at hl 4 rfl) ?_
    refine lv_tableOut (tgt := 84) hx hb d_X_state_29 hbad (by decide) ?_
    exact vx_throwS (A := fun _ => False) (cls := "java/lang/IllegalArgumentException") (names := ["java/lang/RuntimeException", "java/lang/Exception"]) (text := "no such part of the state") hx hb hst hown (by decide) (by decide) (hg _ gw_201) (hg _ gw_11) hEX.st_219 hEX.at_IAE XG_IAE hEX.2.2.1 hEX.2.2.2 hS (hl.1.trans hml.symm) d_X_state_84 d_X_state_87 d_X_state_88 d_X_state_90 d_X_state_93 (fun x9 h9 => (hnt x9 h9).elim) (by decide) (Nat.le_of_ble_eq_true rfl) (by decide) (by decide) hlocks (fun t ht g1 g2 => ⟨(), trivial, rfl, g1, fun q9 h9 _ => g2 q9 h9⟩) (fun z9 h9 => by cases h9) (by decide) (by decide)
  · skip
    exact absurd c_1 (by decide)
