/-! LineGolomb: the private methods that write -/
def wnum (f : Nat → Int32) (q K N mo u : Nat) : Nat → Int32 := if N / 2 ^ K < mo then flw (fil (fil f 0 u (N / 2 ^ K)) 1 (u + N / 2 ^ K) 1) (nI N) K (u + N / 2 ^ K + 1) K else flw (fil (fil f 0 u mo) 1 (u + mo) 1) (nI N - 1) q (u + mo + 1) q
/-- the bits behind the first 1 -/
def tln (q K mo z : Nat) : Nat := if z < mo then K else q
/-- the number behind z bits 0 and a 1 -/
def rnum (g : Nat → Int32) (q K mo z : Nat) : Int32 := if z < mo then nI (z * 2 ^ K) + bnum g (z + 1) K else bnum g (z + 1) q + 1
theorem minI {a b : Nat} (ha : a < 2 ^ 31) (hb : b < 2 ^ 31) : (if nI b < nI a then nI b else nI a) = nI (min a b) := by
  by_cases h : b < a
  · rw [if_pos (nI_lt h ha), Nat.min_eq_right (by omega)]
  · rw [if_neg (nI_nlt (by omega) hb), Nat.min_eq_left (by omega)]
set_option maxHeartbeats 4000000 in
set_option maxRecDepth 100000 in
theorem c_X_writeNumber (l : Launch) (D : va_G) (x sw sr br bq bi ne li sp q : Nat) (lb : Int32) (ra : Nat) (cB : ClassId) (u : Nat) (f : Nat → Int32) (K N mo : Nat) (hN : N < 2 ^ 30) (hKb : K < 32) (hq : q < 32) (hmo : mo < 2 ^ 20) (hu : u + nlen q K N mo ≤ 6000) : Met l y_X_writeNumber (WSY y_X_writeNumber b_X_writeNumber 5 none) ({ frames := 2, cells := 0, slots := 0, locals := 46 }) (va_Pc [.ref x, .int (nI K), .int (nI N), .int (nI mo)] (fun U => va_P D CLS [(x, .inr (4, [.int (nI bi), .int (nI ne), .int (nI li), .int (nI sp), .int (nI q), .ref sw, .ref sr, .ref br, .ref bq, .int lb])), (br, .inr (1, [.ref ra, .int (nI u)])), (ra, .inl (cB, 6000, .inl f))] U.heap ∧ va_K D CLS [(cB, .byte)] U ∧ va_D (fun _ => True) [(x, .inr (4, [.int (nI bi), .int (nI ne), .int (nI li), .int (nI sp), .int (nI q), .ref sw, .ref sr, .ref br, .ref bq, .int lb])), (br, .inr (1, [.ref ra, .int (nI u)])), (ra, .inl (cB, 6000, .inl f))])) (QM none [(x, .inr (4, [.int (nI bi), .int (nI ne), .int (nI li), .int (nI sp), .int (nI q), .ref sw, .ref sr, .ref br, .ref bq, .int lb])), (br, .inr (1, [.ref ra, .int (nI u)])), (ra, .inl (cB, 6000, .inl f))] [(x, .inr (4, [.int (nI bi), .int (nI ne), .int (nI li), .int (nI sp), .int (nI q), .ref sw, .ref sr, .ref br, .ref bq, .int lb])), (br, .inr (1, [.ref ra, .int (nI (u + nlen q K N mo))])), (ra, .inl (cB, 6000, .inl (wnum f q K N mo u)))] D) 0 0 (ad [(x, .inr (4, [.int (nI bi), .int (nI ne), .int (nI li), .int (nI sp), .int (nI q), .ref sw, .ref sr, .ref br, .ref bq, .int lb])), (br, .inr (1, [.ref ra, .int (nI u)])), (ra, .inl (cB, 6000, .inl f))]) := by
  refine Met.ofW (cc := b_X_writeNumber) (maxL := 5) (ret := none) (by decide) rfl ?_
  intro p e s m args below meth c s₁ B hml hv
  obtain ⟨rfl, hP, hK, hD0⟩ := hv
  have hx := B.exec
  have hb := B.bytes
  have hr := B.returns
  have hts := atoms_spec (ws := WSY y_X_writeNumber b_X_writeNumber 5 none) B.pre
  have hg : ∀ w ∈ GW, w.before _ s = true := fun w h => hts w (List.mem_cons_of_mem _ h)
  have hown : s.vm.findClass "LineGolomb" = some m.cls := findClass_of_methodNamed B.named
  have hlocks := B.notSynchronized
  obtain ⟨A, hAe⟩ : ∃ A, A = ad [(x, .inr (4, [.int (nI bi), .int (nI ne), .int (nI li), .int (nI sp), .int (nI q), .ref sw, .ref sr, .ref br, .ref bq, .int lb])), (br, .inr (1, [.ref ra, .int (nI u)])), (ra, .inl (cB, 6000, .inl f))] := ⟨_, rfl⟩
  have hD : va_D A [(x, .inr (4, [.int (nI bi), .int (nI ne), .int (nI li), .int (nI sp), .int (nI q), .ref sw, .ref sr, .ref br, .ref bq, .int lb])), (br, .inr (1, [.ref ra, .int (nI u)])), (ra, .inl (cB, 6000, .inl f))] := by rw [hAe]; exact va_D_ad hD0
  have hS : va_S A s.heap s.heap [] := va_S.rf
  have hl := lv_entry ([.ref x, .int (nI K), .int (nI N), .int (nI mo)]) (n := 5) (Nat.le_of_ble_eq_true rfl)
  rw [lg_entry_eq]
  generalize (lg_sl ([.ref x, .int (nI K), .int (nI N), .int (nI mo)]) ++ List.replicate (5 - (lg_sl ([.ref x, .int (nI K), .int (nI N), .int (nI mo)])).length) Slot.unset).toArray = ls at hl ⊢
  have hl : lv_has ls 5 [(0, .ref x), (1, .int (nI K)), (2, .int (nI N)), (3, .int (nI mo))] := hl
  have hz : N / 2 ^ K ≤ N := Nat.div_le_self _ _
  refine lv_iload_n hx hb d_X_writeNumber_0 rfl (lv_at hl 2 rfl) ?_
  refine lv_iload_n hx hb d_X_writeNumber_1 rfl (lv_at hl 1 rfl) ?_
  refine lv_ishr hx hb d_X_writeNumber_2 ?_
  refine tpi (y := nI (N / 2 ^ K)) (shr (by omega) hKb) ?_
  refine lv_istore (lv' := [(4, .int (nI (N / 2 ^ K))), (0, .ref x), (1, .int (nI K)), (2, .int (nI N)), (3, .int (nI mo))]) hx hb d_X_writeNumber_3 hl (by decide) rfl (fun ls hl => ?_)
  refine lv_aload_n hx hb d_X_writeNumber_5 rfl (lv_at hl 1 rfl) ?_
  refine va_get (D := D) (ci := 4) (v := .ref br) (C := R_X) (T := T_X) (N := 10) hx hb hg in_X hown hK hP 0 rfl rfl 7 (by decide) (hg _ gw_123) (fun _ h9 => h9) rfl d_X_writeNumber_6 ?_
  refine lv_iconst (v := 0) hx hb d_X_writeNumber_9 (by decide) ?_
  refine lv_iload hx hb d_X_writeNumber_10 (lv_at hl 0 rfl) ?_
  refine lv_iload_n hx hb d_X_writeNumber_12 rfl (lv_at hl 4 rfl) ?_
  refine va_mmin hx hb (hml.trans hl.1.symm) hown (hg _ gw_57) (hg _ gw_58) (hg _ gw_4) (hg _ gw_59) (Nat.le_of_ble_eq_true rfl) (Nat.le_of_ble_eq_true rfl) (Nat.le_of_ble_eq_true rfl) (Nat.le_of_ble_eq_true rfl) d_X_writeNumber_13 ?_
  refine tpi (y := nI (min (N / 2 ^ K) mo)) (minI (by omega) (by omega)) ?_
  by_cases hzm : N / 2 ^ K < mo
  · skip
    have hln : nlen q K N mo = N / 2 ^ K + 1 + K := if_pos hzm
    refine tpi (y := nI (N / 2 ^ K)) (by rw [Nat.min_eq_left (by omega)]) ?_
    have hPc := hP.sub (ws' := [(br, .inr (1, [.ref ra, .int (nI u)])), (ra, .inl (cB, 6000, .inl f))]) [1, 2] rfl
    have hDc := hD.sub (ws' := [(br, .inr (1, [.ref ra, .int (nI u)])), (ra, .inl (cB, 6000, .inl f))]) [1, 2] (by decide) rfl
    have hKc := hK.sub (tys' := [(cB, .byte)]) [0] rfl
    refine mcv (va_runV (As := [.int 0, .int (nI (N / 2 ^ K))]) (rest := []) ⟨hx, hb, hml, hown, hg⟩ (c_B_putSame l D br ra cB u f 0 (N / 2 ^ K) (Or.inl rfl) (by omega)) (cwV 2 hg (gV gw_301 gw_302 gw_303 gw_2 gw_304) rfl rfl rfl (by decide +kernel) ⟨Nat.le_of_ble_eq_true rfl, Nat.le_of_ble_eq_true rfl⟩) ⟨fun a U g mk q => by obtain ⟨q0, qP, qK, qD⟩ := q; exact ⟨q0, qP, va_K.moved (u := U) (U := U.calling g mk a) (Vm.Alike.refl U.vm) qK, qD⟩, va_recv hKc hPc (ci := 1) (q0 := 0) rfl rfl, fun U hU hW => ⟨rfl, by rw [hU]; exact hPc, va_K.moved hW.alike hKc, hDc.weaken (fun _ _ _ _ => trivial)⟩⟩ rfl rfl hl.1 rfl (lv_room (Nat.le_of_ble_eq_true rfl)) d_X_writeNumber_16 (⟨Nat.le_of_ble_eq_true rfl, Nat.le_of_ble_eq_true rfl⟩)) hS hP hD [1, 2] rfl rfl rfl (fun H locs hP hD hS => ?_)
    have hP : va_P D CLS [(x, .inr (4, [.int (nI bi), .int (nI ne), .int (nI li), .int (nI sp), .int (nI q), .ref sw, .ref sr, .ref br, .ref bq, .int lb])), (br, .inr (1, [.ref ra, .int (nI (u + N / 2 ^ K))])), (ra, .inl (cB, 6000, .inl (fil f 0 u (N / 2 ^ K))))] H := hP
    have hD : va_D A [(x, .inr (4, [.int (nI bi), .int (nI ne), .int (nI li), .int (nI sp), .int (nI q), .ref sw, .ref sr, .ref br, .ref bq, .int lb])), (br, .inr (1, [.ref ra, .int (nI (u + N / 2 ^ K))])), (ra, .inl (cB, 6000, .inl (fil f 0 u (N / 2 ^ K))))] := hD
    refine lv_aload_n hx hb d_X_writeNumber_19 rfl (lv_at hl 1 rfl) ?_
    refine va_get (D := D) (ci := 4) (v := .ref br) (C := R_X) (T := T_X) (N := 10) hx hb hg in_X hown hK hP 0 rfl rfl 7 (by decide) (hg _ gw_123) (fun _ h9 => h9) rfl d_X_writeNumber_20 ?_
    refine lv_iconst (v := 1) hx hb d_X_writeNumber_23 (by decide) ?_
    refine lv_iconst (v := 1) hx hb d_X_writeNumber_24 (by decide) ?_
    refine tpi (y := nI 1) (rfl) ?_
    have hPc := hP.sub (ws' := [(br, .inr (1, [.ref ra, .int (nI (u + N / 2 ^ K))])), (ra, .inl (cB, 6000, .inl (fil f 0 u (N / 2 ^ K))))]) [1, 2] rfl
    have hDc := hD.sub (ws' := [(br, .inr (1, [.ref ra, .int (nI (u + N / 2 ^ K))])), (ra, .inl (cB, 6000, .inl (fil f 0 u (N / 2 ^ K))))]) [1, 2] (by decide) rfl
    have hKc := hK.sub (tys' := [(cB, .byte)]) [0] rfl
    refine mcv (va_runV (As := [.int 1, .int (nI 1)]) (rest := []) ⟨hx, hb, hml, hown, hg⟩ (c_B_putSame l D br ra cB (u + N / 2 ^ K) (fil f 0 u (N / 2 ^ K)) 1 1 (Or.inr rfl) (by omega)) (cwV 2 hg (gV gw_301 gw_302 gw_303 gw_2 gw_304) rfl rfl rfl (by decide +kernel) ⟨Nat.le_of_ble_eq_true rfl, Nat.le_of_ble_eq_true rfl⟩) ⟨fun a U g mk q => by obtain ⟨q0, qP, qK, qD⟩ := q; exact ⟨q0, qP, va_K.moved (u := U) (U := U.calling g mk a) (Vm.Alike.refl U.vm) qK, qD⟩, va_recv hKc hPc (ci := 1) (q0 := 0) rfl rfl, fun U hU hW => ⟨rfl, by rw [hU]; exact hPc, va_K.moved hW.alike hKc, hDc.weaken (fun _ _ _ _ => trivial)⟩⟩ rfl rfl hl.1 rfl (lv_room (Nat.le_of_ble_eq_true rfl)) d_X_writeNumber_25 (⟨Nat.le_of_ble_eq_true rfl, Nat.le_of_ble_eq_true rfl⟩)) hS hP hD [1, 2] rfl rfl rfl (fun H locs hP hD hS => ?_)
    have hP : va_P D CLS [(x, .inr (4, [.int (nI bi), .int (nI ne), .int (nI li), .int (nI sp), .int (nI q), .ref sw, .ref sr, .ref br, .ref bq, .int lb])), (br, .inr (1, [.ref ra, .int (nI (u + N / 2 ^ K + 1))])), (ra, .inl (cB, 6000, .inl (fil (fil f 0 u (N / 2 ^ K)) 1 (u + N / 2 ^ K) 1)))] H := hP
    have hD : va_D A [(x, .inr (4, [.int (nI bi), .int (nI ne), .int (nI li), .int (nI sp), .int (nI q), .ref sw, .ref sr, .ref br, .ref bq, .int lb])), (br, .inr (1, [.ref ra, .int (nI (u + N / 2 ^ K + 1))])), (ra, .inl (cB, 6000, .inl (fil (fil f 0 u (N / 2 ^ K)) 1 (u + N / 2 ^ K) 1)))] := hD
    refine lv_iload hx hb d_X_writeNumber_28 (lv_at hl 0 rfl) ?_
    refine lv_iload_n hx hb d_X_writeNumber_30 rfl (lv_at hl 4 rfl) ?_
    refine lv_icmp_ge (tgt := 46) hx hb d_X_writeNumber_31 (by decide) (fun c_1 => ?_) (fun c_1 => ?_)
    · skip
      exact absurd ((nI_leI (by omega) (by omega)).mp c_1) (by omega)
    · skip
      refine lv_aload_n hx hb d_X_writeNumber_34 rfl (lv_at hl 1 rfl) ?_
      refine va_get (D := D) (ci := 4) (v := .ref br) (C := R_X) (T := T_X) (N := 10) hx hb hg in_X hown hK hP 0 rfl rfl 7 (by decide) (hg _ gw_123) (fun _ h9 => h9) rfl d_X_writeNumber_35 ?_
      refine lv_iload_n hx hb d_X_writeNumber_38 rfl (lv_at hl 3 rfl) ?_
      refine lv_iload_n hx hb d_X_writeNumber_39 rfl (lv_at hl 2 rfl) ?_
      have hPc := hP.sub (ws' := [(br, .inr (1, [.ref ra, .int (nI (u + N / 2 ^ K + 1))])), (ra, .inl (cB, 6000, .inl (fil (fil f 0 u (N / 2 ^ K)) 1 (u + N / 2 ^ K) 1)))]) [1, 2] rfl
      have hDc := hD.sub (ws' := [(br, .inr (1, [.ref ra, .int (nI (u + N / 2 ^ K + 1))])), (ra, .inl (cB, 6000, .inl (fil (fil f 0 u (N / 2 ^ K)) 1 (u + N / 2 ^ K) 1)))]) [1, 2] (by decide) rfl
      have hKc := hK.sub (tys' := [(cB, .byte)]) [0] rfl
      refine mcv (va_runV (As := [.int (nI N), .int (nI K)]) (rest := []) ⟨hx, hb, hml, hown, hg⟩ (c_B_putLow l D br ra cB (u + N / 2 ^ K + 1) (fil (fil f 0 u (N / 2 ^ K)) 1 (u + N / 2 ^ K) 1) (nI N) K hKb (by omega)) (cwV 2 hg (gV gw_305 gw_306 gw_307 gw_2 gw_308) rfl rfl rfl (by decide +kernel) ⟨Nat.le_of_ble_eq_true rfl, Nat.le_of_ble_eq_true rfl⟩) ⟨fun a U g mk q => by obtain ⟨q0, qP, qK, qD⟩ := q; exact ⟨q0, qP, va_K.moved (u := U) (U := U.calling g mk a) (Vm.Alike.refl U.vm) qK, qD⟩, va_recv hKc hPc (ci := 1) (q0 := 0) rfl rfl, fun U hU hW => ⟨rfl, by rw [hU]; exact hPc, va_K.moved hW.alike hKc, hDc.weaken (fun _ _ _ _ => trivial)⟩⟩ rfl rfl hl.1 rfl (lv_room (Nat.le_of_ble_eq_true rfl)) d_X_writeNumber_40 (⟨Nat.le_of_ble_eq_true rfl, Nat.le_of_ble_eq_true rfl⟩)) hS hP hD [1, 2] rfl rfl rfl (fun H locs hP hD hS => ?_)
      have hP : va_P D CLS [(x, .inr (4, [.int (nI bi), .int (nI ne), .int (nI li), .int (nI sp), .int (nI q), .ref sw, .ref sr, .ref br, .ref bq, .int lb])), (br, .inr (1, [.ref ra, .int (nI (u + N / 2 ^ K + 1 + K))])), (ra, .inl (cB, 6000, .inl (flw (fil (fil f 0 u (N / 2 ^ K)) 1 (u + N / 2 ^ K) 1) (nI N) K (u + N / 2 ^ K + 1) K)))] H := hP
      have hD : va_D A [(x, .inr (4, [.int (nI bi), .int (nI ne), .int (nI li), .int (nI sp), .int (nI q), .ref sw, .ref sr, .ref br, .ref bq, .int lb])), (br, .inr (1, [.ref ra, .int (nI (u + N / 2 ^ K + 1 + K))])), (ra, .inl (cB, 6000, .inl (flw (fil (fil f 0 u (N / 2 ^ K)) 1 (u + N / 2 ^ K) 1) (nI N) K (u + N / 2 ^ K + 1) K)))] := hD
      refine lv_goto (tgt := 60) hx hb d_X_writeNumber_43 (by decide) ?_
      exact W.vret hx hb hr (fun t ht hW => ⟨rfl, by rw [ht]; exact (by rw [hln, show u + (N / 2 ^ K + 1 + K) = u + N / 2 ^ K + 1 + K by omega, show wnum f q K N mo u = flw (fil (fil f 0 u (N / 2 ^ K)) 1 (u + N / 2 ^ K) 1) (nI N) K (u + N / 2 ^ K + 1) K from if_pos hzm]; exact hP), (hAe ▸ hS).F ht⟩) (hAe ▸ hS).2.2 d_X_writeNumber_60
  · skip
    have hln : nlen q K N mo = mo + 1 + q := if_neg hzm
    refine tpi (y := nI mo) (by rw [Nat.min_eq_right (by omega)]) ?_
    have hPc := hP.sub (ws' := [(br, .inr (1, [.ref ra, .int (nI u)])), (ra, .inl (cB, 6000, .inl f))]) [1, 2] rfl
    have hDc := hD.sub (ws' := [(br, .inr (1, [.ref ra, .int (nI u)])), (ra, .inl (cB, 6000, .inl f))]) [1, 2] (by decide) rfl
    have hKc := hK.sub (tys' := [(cB, .byte)]) [0] rfl
    refine mcv (va_runV (As := [.int 0, .int (nI mo)]) (rest := []) ⟨hx, hb, hml, hown, hg⟩ (c_B_putSame l D br ra cB u f 0 mo (Or.inl rfl) (by omega)) (cwV 2 hg (gV gw_301 gw_302 gw_303 gw_2 gw_304) rfl rfl rfl (by decide +kernel) ⟨Nat.le_of_ble_eq_true rfl, Nat.le_of_ble_eq_true rfl⟩) ⟨fun a U g mk q => by obtain ⟨q0, qP, qK, qD⟩ := q; exact ⟨q0, qP, va_K.moved (u := U) (U := U.calling g mk a) (Vm.Alike.refl U.vm) qK, qD⟩, va_recv hKc hPc (ci := 1) (q0 := 0) rfl rfl, fun U hU hW => ⟨rfl, by rw [hU]; exact hPc, va_K.moved hW.alike hKc, hDc.weaken (fun _ _ _ _ => trivial)⟩⟩ rfl rfl hl.1 rfl (lv_room (Nat.le_of_ble_eq_true rfl)) d_X_writeNumber_16 (⟨Nat.le_of_ble_eq_true rfl, Nat.le_of_ble_eq_true rfl⟩)) hS hP hD [1, 2] rfl rfl rfl (fun H locs hP hD hS => ?_)
    have hP : va_P D CLS [(x, .inr (4, [.int (nI bi), .int (nI ne), .int (nI li), .int (nI sp), .int (nI q), .ref sw, .ref sr, .ref br, .ref bq, .int lb])), (br, .inr (1, [.ref ra, .int (nI (u + mo))])), (ra, .inl (cB, 6000, .inl (fil f 0 u mo)))] H := hP
    have hD : va_D A [(x, .inr (4, [.int (nI bi), .int (nI ne), .int (nI li), .int (nI sp), .int (nI q), .ref sw, .ref sr, .ref br, .ref bq, .int lb])), (br, .inr (1, [.ref ra, .int (nI (u + mo))])), (ra, .inl (cB, 6000, .inl (fil f 0 u mo)))] := hD
    refine lv_aload_n hx hb d_X_writeNumber_19 rfl (lv_at hl 1 rfl) ?_
    refine va_get (D := D) (ci := 4) (v := .ref br) (C := R_X) (T := T_X) (N := 10) hx hb hg in_X hown hK hP 0 rfl rfl 7 (by decide) (hg _ gw_123) (fun _ h9 => h9) rfl d_X_writeNumber_20 ?_
    refine lv_iconst (v := 1) hx hb d_X_writeNumber_23 (by decide) ?_
    refine lv_iconst (v := 1) hx hb d_X_writeNumber_24 (by decide) ?_
    refine tpi (y := nI 1) (rfl) ?_
    have hPc := hP.sub (ws' := [(br, .inr (1, [.ref ra, .int (nI (u + mo))])), (ra, .inl (cB, 6000, .inl (fil f 0 u mo)))]) [1, 2] rfl
    have hDc := hD.sub (ws' := [(br, .inr (1, [.ref ra, .int (nI (u + mo))])), (ra, .inl (cB, 6000, .inl (fil f 0 u mo)))]) [1, 2] (by decide) rfl
    have hKc := hK.sub (tys' := [(cB, .byte)]) [0] rfl
    refine mcv (va_runV (As := [.int 1, .int (nI 1)]) (rest := []) ⟨hx, hb, hml, hown, hg⟩ (c_B_putSame l D br ra cB (u + mo) (fil f 0 u mo) 1 1 (Or.inr rfl) (by omega)) (cwV 2 hg (gV gw_301 gw_302 gw_303 gw_2 gw_304) rfl rfl rfl (by decide +kernel) ⟨Nat.le_of_ble_eq_true rfl, Nat.le_of_ble_eq_true rfl⟩) ⟨fun a U g mk q => by obtain ⟨q0, qP, qK, qD⟩ := q; exact ⟨q0, qP, va_K.moved (u := U) (U := U.calling g mk a) (Vm.Alike.refl U.vm) qK, qD⟩, va_recv hKc hPc (ci := 1) (q0 := 0) rfl rfl, fun U hU hW => ⟨rfl, by rw [hU]; exact hPc, va_K.moved hW.alike hKc, hDc.weaken (fun _ _ _ _ => trivial)⟩⟩ rfl rfl hl.1 rfl (lv_room (Nat.le_of_ble_eq_true rfl)) d_X_writeNumber_25 (⟨Nat.le_of_ble_eq_true rfl, Nat.le_of_ble_eq_true rfl⟩)) hS hP hD [1, 2] rfl rfl rfl (fun H locs hP hD hS => ?_)
    have hP : va_P D CLS [(x, .inr (4, [.int (nI bi), .int (nI ne), .int (nI li), .int (nI sp), .int (nI q), .ref sw, .ref sr, .ref br, .ref bq, .int lb])), (br, .inr (1, [.ref ra, .int (nI (u + mo + 1))])), (ra, .inl (cB, 6000, .inl (fil (fil f 0 u mo) 1 (u + mo) 1)))] H := hP
    have hD : va_D A [(x, .inr (4, [.int (nI bi), .int (nI ne), .int (nI li), .int (nI sp), .int (nI q), .ref sw, .ref sr, .ref br, .ref bq, .int lb])), (br, .inr (1, [.ref ra, .int (nI (u + mo + 1))])), (ra, .inl (cB, 6000, .inl (fil (fil f 0 u mo) 1 (u + mo) 1)))] := hD
    refine lv_iload hx hb d_X_writeNumber_28 (lv_at hl 0 rfl) ?_
    refine lv_iload_n hx hb d_X_writeNumber_30 rfl (lv_at hl 4 rfl) ?_
    refine lv_icmp_ge (tgt := 46) hx hb d_X_writeNumber_31 (by decide) (fun c_2 => ?_) (fun c_2 => ?_)
    · skip
      refine lv_aload_n hx hb d_X_writeNumber_46 rfl (lv_at hl 1 rfl) ?_
      refine va_get (D := D) (ci := 4) (v := .ref br) (C := R_X) (T := T_X) (N := 10) hx hb hg in_X hown hK hP 0 rfl rfl 7 (by decide) (hg _ gw_123) (fun _ h9 => h9) rfl d_X_writeNumber_47 ?_
      refine lv_iload_n hx hb d_X_writeNumber_50 rfl (lv_at hl 3 rfl) ?_
      refine lv_iconst (v := 1) hx hb d_X_writeNumber_51 (by decide) ?_
      refine lv_isub hx hb d_X_writeNumber_52 ?_
      refine lv_aload_n hx hb d_X_writeNumber_53 rfl (lv_at hl 1 rfl) ?_
      refine va_get (D := D) (ci := 4) (v := .int (nI q)) (C := R_X) (T := T_X) (N := 10) hx hb hg in_X hown hK hP 0 rfl rfl 4 (by decide) (hg _ gw_120) (fun _ h9 => h9) rfl d_X_writeNumber_54 ?_
      have hPc := hP.sub (ws' := [(br, .inr (1, [.ref ra, .int (nI (u + mo + 1))])), (ra, .inl (cB, 6000, .inl (fil (fil f 0 u mo) 1 (u + mo) 1)))]) [1, 2] rfl
      have hDc := hD.sub (ws' := [(br, .inr (1, [.ref ra, .int (nI (u + mo + 1))])), (ra, .inl (cB, 6000, .inl (fil (fil f 0 u mo) 1 (u + mo) 1)))]) [1, 2] (by decide) rfl
      have hKc := hK.sub (tys' := [(cB, .byte)]) [0] rfl
      refine mcv (va_runV (As := [.int ((nI N) - 1), .int (nI q)]) (rest := []) ⟨hx, hb, hml, hown, hg⟩ (c_B_putLow l D br ra cB (u + mo + 1) (fil (fil f 0 u mo) 1 (u + mo) 1) (nI N - 1) q hq (by omega)) (cwV 2 hg (gV gw_305 gw_306 gw_307 gw_2 gw_308) rfl rfl rfl (by decide +kernel) ⟨Nat.le_of_ble_eq_true rfl, Nat.le_of_ble_eq_true rfl⟩) ⟨fun a U g mk q => by obtain ⟨q0, qP, qK, qD⟩ := q; exact ⟨q0, qP, va_K.moved (u := U) (U := U.calling g mk a) (Vm.Alike.refl U.vm) qK, qD⟩, va_recv hKc hPc (ci := 1) (q0 := 0) rfl rfl, fun U hU hW => ⟨rfl, by rw [hU]; exact hPc, va_K.moved hW.alike hKc, hDc.weaken (fun _ _ _ _ => trivial)⟩⟩ rfl rfl hl.1 rfl (lv_room (Nat.le_of_ble_eq_true rfl)) d_X_writeNumber_57 (⟨Nat.le_of_ble_eq_true rfl, Nat.le_of_ble_eq_true rfl⟩)) hS hP hD [1, 2] rfl rfl rfl (fun H locs hP hD hS => ?_)
      have hP : va_P D CLS [(x, .inr (4, [.int (nI bi), .int (nI ne), .int (nI li), .int (nI sp), .int (nI q), .ref sw, .ref sr, .ref br, .ref bq, .int lb])), (br, .inr (1, [.ref ra, .int (nI (u + mo + 1 + q))])), (ra, .inl (cB, 6000, .inl (flw (fil (fil f 0 u mo) 1 (u + mo) 1) (nI N - 1) q (u + mo + 1) q)))] H := hP
      have hD : va_D A [(x, .inr (4, [.int (nI bi), .int (nI ne), .int (nI li), .int (nI sp), .int (nI q), .ref sw, .ref sr, .ref br, .ref bq, .int lb])), (br, .inr (1, [.ref ra, .int (nI (u + mo + 1 + q))])), (ra, .inl (cB, 6000, .inl (flw (fil (fil f 0 u mo) 1 (u + mo) 1) (nI N - 1) q (u + mo + 1) q)))] := hD
      exact W.vret hx hb hr (fun t ht hW => ⟨rfl, by rw [ht]; exact (by rw [hln, show u + (mo + 1 + q) = u + mo + 1 + q by omega, show wnum f q K N mo u = flw (fil (fil f 0 u mo) 1 (u + mo) 1) (nI N - 1) q (u + mo + 1) q from if_neg hzm]; exact hP), (hAe ▸ hS).F ht⟩) (hAe ▸ hS).2.2 d_X_writeNumber_60
    · skip
      exact absurd ((nI_leI (by omega) (by omega)).mpr (by omega)) c_2
set_option maxHeartbeats 4000000 in
set_option maxRecDepth 100000 in
theorem c_X_takeNumberN (l : Launch) (D : va_G) (x sw sr br bq bi ne li sp q : Nat) (lb : Int32) (qa : Nat) (cB : ClassId) (fi h : Nat) (g : Nat → Int32) (tw K mo z : Nat) (hf : fi < 1000) (hh : h ≤ 1000) (hKb : K < 32) (hq : q < 32) (hmo : mo < 2 ^ 20) (hz1 : z ≤ mo + 1) (hz2 : z ≤ h) (hz3 : ∀ j, j < z → qb g fi h j = 0) (hz4 : z = mo + 1 ∨ z = h ∨ qb g fi h z ≠ 0) (hzN : z = mo + 1) : Met l y_X_takeNumber (WSY y_X_takeNumber b_X_takeNumber 7 (some .int)) ({ frames := 3, cells := 0, slots := 0, locals := 67 }) (va_Pc [.ref x, .int (nI K), .int (nI mo)] (fun U => va_P D CLS [(x, .inr (4, [.int (nI bi), .int (nI ne), .int (nI li), .int (nI sp), .int (nI q), .ref sw, .ref sr, .ref br, .ref bq, .int lb])), (bq, .inr (0, [.ref qa, .int (nI fi), .int (nI h)])), (qa, .inl (cB, 1000, .inl g))] U.heap ∧ va_K D CLS [(cB, .byte)] U ∧ va_D (fun _ => True) [(x, .inr (4, [.int (nI bi), .int (nI ne), .int (nI li), .int (nI sp), .int (nI q), .ref sw, .ref sr, .ref br, .ref bq, .int lb])), (bq, .inr (0, [.ref qa, .int (nI fi), .int (nI h)])), (qa, .inl (cB, 1000, .inl g))] ∧ EV (ad [(x, .inr (4, [.int (nI bi), .int (nI ne), .int (nI li), .int (nI sp), .int (nI q), .ref sw, .ref sr, .ref br, .ref bq, .int lb])), (bq, .inr (0, [.ref qa, .int (nI fi), .int (nI h)])), (qa, .inl (cB, 1000, .inl g))]) tw U)) (QM (some (.int (-2))) [(x, .inr (4, [.int (nI bi), .int (nI ne), .int (nI li), .int (nI sp), .int (nI q), .ref sw, .ref sr, .ref br, .ref bq, .int lb])), (bq, .inr (0, [.ref qa, .int (nI fi), .int (nI h)])), (qa, .inl (cB, 1000, .inl g))] [(x, .inr (4, [.int (nI bi), .int (nI ne), .int (nI li), .int (nI sp), .int (nI q), .ref sw, .ref sr, .ref br, .ref bq, .int lb])), (bq, .inr (0, [.ref qa, .int (nI (rpl fi (mo + 1))), .int (nI (h - (mo + 1)))])), (qa, .inl (cB, 1000, .inl g))] D) 0 0 (ad [(x, .inr (4, [.int (nI bi), .int (nI ne), .int (nI li), .int (nI sp), .int (nI q), .ref sw, .ref sr, .ref br, .ref bq, .int lb])), (bq, .inr (0, [.ref qa, .int (nI fi), .int (nI h)])), (qa, .inl (cB, 1000, .inl g))]) := by
  refine Met.ofW (cc := b_X_takeNumber) (maxL := 7) (ret := (some .int)) (by decide) rfl ?_
  intro p e s m args below meth c s₁ B hml hv
  obtain ⟨rfl, hP, hK, hD0, hE⟩ := hv
  have hx := B.exec
  have hb := B.bytes
  have hr := B.returns
  have hts := atoms_spec (ws := WSY y_X_takeNumber b_X_takeNumber 7 (some .int)) B.pre
  have hg : ∀ w ∈ GW, w.before _ s = true := fun w h => hts w (List.mem_cons_of_mem _ h)
  have hown : s.vm.findClass "LineGolomb" = some m.cls := findClass_of_methodNamed B.named
  have hlocks := B.notSynchronized
  obtain ⟨A, hAe⟩ : ∃ A, A = ad [(x, .inr (4, [.int (nI bi), .int (nI ne), .int (nI li), .int (nI sp), .int (nI q), .ref sw, .ref sr, .ref br, .ref bq, .int lb])), (bq, .inr (0, [.ref qa, .int (nI fi), .int (nI h)])), (qa, .inl (cB, 1000, .inl g))] := ⟨_, rfl⟩
  have hD : va_D A [(x, .inr (4, [.int (nI bi), .int (nI ne), .int (nI li), .int (nI sp), .int (nI q), .ref sw, .ref sr, .ref br, .ref bq, .int lb])), (bq, .inr (0, [.ref qa, .int (nI fi), .int (nI h)])), (qa, .inl (cB, 1000, .inl g))] := by rw [hAe]; exact va_D_ad hD0
  have hS : va_S A s.heap s.heap [] := va_S.rf
  rw [← hAe] at hE
  have hl := lv_entry ([.ref x, .int (nI K), .int (nI mo)]) (n := 7) (Nat.le_of_ble_eq_true rfl)
  rw [lg_entry_eq]
  generalize (lg_sl ([.ref x, .int (nI K), .int (nI mo)]) ++ List.replicate (7 - (lg_sl ([.ref x, .int (nI K), .int (nI mo)])).length) Slot.unset).toArray = ls at hl ⊢
  have hl : lv_has ls 7 [(0, .ref x), (1, .int (nI K)), (2, .int (nI mo))] := hl
  refine lv_aload_n hx hb d_X_takeNumber_0 rfl (lv_at hl 0 rfl) ?_
  refine va_get (D := D) (ci := 4) (v := .ref bq) (C := R_X) (T := T_X) (N := 10) hx hb hg in_X hown hK hP 0 rfl rfl 8 (by decide) (hg _ gw_124) (fun _ h9 => h9) rfl d_X_takeNumber_1 ?_
  refine lv_iload_n hx hb d_X_takeNumber_4 rfl (lv_at hl 2 rfl) ?_
  refine lv_iconst (v := 1) hx hb d_X_takeNumber_5 (by decide) ?_
  refine lv_iadd hx hb d_X_takeNumber_6 ?_
  refine tpi (y := nI (mo + 1)) (nI_1 mo) ?_
  have hPc := hP.sub (ws' := [(bq, .inr (0, [.ref qa, .int (nI fi), .int (nI h)])), (qa, .inl (cB, 1000, .inl g))]) [1, 2] rfl
  have hKc := hK.sub (tys' := [(cB, .byte)]) [0] rfl
  refine pci (va_runV (As := [.int (nI (mo + 1))]) (rest := []) ⟨hx, hb, hml, hown, hg⟩ (c_Q_zerosAhead l D bq qa cB fi h g (mo + 1) z hf hh (by omega) hz1 hz2 hz3 hz4) (cwV 1 hg (gV gw_441 gw_442 gw_443 gw_3 gw_444) rfl rfl rfl (by decide +kernel) ⟨Nat.le_of_ble_eq_true rfl, Nat.le_of_ble_eq_true rfl⟩) ⟨fun a U g mk q => by obtain ⟨q0, qP, qK⟩ := q; exact ⟨q0, qP, va_K.moved (u := U) (U := U.calling g mk a) (Vm.Alike.refl U.vm) qK⟩, va_recv hKc hPc (ci := 0) (q0 := 0) rfl rfl, fun U hU hW => ⟨rfl, by rw [hU]; exact hPc, va_K.moved hW.alike hKc⟩⟩ rfl rfl hl.1 rfl (lv_room (Nat.le_of_ble_eq_true rfl)) d_X_takeNumber_7 (⟨Nat.le_of_ble_eq_true rfl, Nat.le_of_ble_eq_true rfl⟩)) ?_
  refine lv_istore_n (lv' := [(3, .int (nI z)), (0, .ref x), (1, .int (nI K)), (2, .int (nI mo))]) hx hb d_X_takeNumber_10 rfl hl (by decide) rfl (fun ls hl => ?_)
  refine lv_iload_n hx hb d_X_takeNumber_11 rfl (lv_at hl 0 rfl) ?_
  refine lv_iload_n hx hb d_X_takeNumber_12 rfl (lv_at hl 3 rfl) ?_
  refine lv_icmp_le (tgt := 29) hx hb d_X_takeNumber_13 (by decide) (fun c_1 => ?_) (fun c_1 => ?_)
  · skip
    exact absurd ((nI_leI (by omega) (by omega)).mp c_1) (by omega)
  · skip
    refine lv_aload_n hx hb d_X_takeNumber_16 rfl (lv_at hl 1 rfl) ?_
    refine va_get (D := D) (ci := 4) (v := .ref bq) (C := R_X) (T := T_X) (N := 10) hx hb hg in_X hown hK hP 0 rfl rfl 8 (by decide) (hg _ gw_124) (fun _ h9 => h9) rfl d_X_takeNumber_17 ?_
    refine lv_iload_n hx hb d_X_takeNumber_20 rfl (lv_at hl 3 rfl) ?_
    refine lv_iconst (v := 1) hx hb d_X_takeNumber_21 (by decide) ?_
    refine lv_iadd hx hb d_X_takeNumber_22 ?_
    refine tpi (y := nI (mo + 1)) (nI_1 mo) ?_
    have hPc := hP.sub (ws' := [(bq, .inr (0, [.ref qa, .int (nI fi), .int (nI h)])), (qa, .inl (cB, 1000, .inl g))]) [1, 2] rfl
    have hDc := hD.sub (ws' := [(bq, .inr (0, [.ref qa, .int (nI fi), .int (nI h)])), (qa, .inl (cB, 1000, .inl g))]) [1, 2] (by decide) rfl
    have hKc := hK.sub (tys' := [(cB, .byte)]) [0] rfl
    refine mcv (va_runV (As := [.int (nI (mo + 1))]) (rest := []) ⟨hx, hb, hml, hown, hg⟩ (c_Q_drop l D bq qa cB fi h g (mo + 1) hf hh (by omega)) (cwV 1 hg (gV gw_175 gw_176 gw_177 gw_3 gw_178) rfl rfl rfl (by decide +kernel) ⟨Nat.le_of_ble_eq_true rfl, Nat.le_of_ble_eq_true rfl⟩) ⟨fun a U g mk q => by obtain ⟨q0, qP, qK, qD⟩ := q; exact ⟨q0, qP, va_K.moved (u := U) (U := U.calling g mk a) (Vm.Alike.refl U.vm) qK, qD⟩, va_recv hKc hPc (ci := 0) (q0 := 0) rfl rfl, fun U hU hW => ⟨rfl, by rw [hU]; exact hPc, va_K.moved hW.alike hKc, hDc.weaken (fun _ _ _ _ => trivial)⟩⟩ rfl rfl hl.1 rfl (lv_room (Nat.le_of_ble_eq_true rfl)) d_X_takeNumber_23 (⟨Nat.le_of_ble_eq_true rfl, Nat.le_of_ble_eq_true rfl⟩)) hS hP hD [1, 2] rfl rfl rfl (fun H locs hP hD hS => ?_)
    have hP : va_P D CLS [(x, .inr (4, [.int (nI bi), .int (nI ne), .int (nI li), .int (nI sp), .int (nI q), .ref sw, .ref sr, .ref br, .ref bq, .int lb])), (bq, .inr (0, [.ref qa, .int (nI (rpl fi (mo + 1))), .int (nI (h - (mo + 1)))])), (qa, .inl (cB, 1000, .inl g))] H := hP
    have hD : va_D A [(x, .inr (4, [.int (nI bi), .int (nI ne), .int (nI li), .int (nI sp), .int (nI q), .ref sw, .ref sr, .ref br, .ref bq, .int lb])), (bq, .inr (0, [.ref qa, .int (nI (rpl fi (mo + 1))), .int (nI (h - (mo + 1)))])), (qa, .inl (cB, 1000, .inl g))] := hD
    refine lv_bipush (v := (-2)) hx hb d_X_takeNumber_26 (by decide) ?_
    exact W.iret (v := (-2)) hx hb hr (fun t ht hW => ⟨rfl, by rw [ht]; exact hP, (hAe ▸ hS).F ht⟩) (hAe ▸ hS).2.2 d_X_takeNumber_28
set_option maxHeartbeats 4000000 in
set_option maxRecDepth 100000 in
theorem c_X_takeNumberW (l : Launch) (D : va_G) (x sw sr br bq bi ne li sp q : Nat) (lb : Int32) (qa : Nat) (cB : ClassId) (fi h : Nat) (g : Nat → Int32) (tw K mo z : Nat) (hf : fi < 1000) (hh : h ≤ 1000) (hKb : K < 32) (hq : q < 32) (hmo : mo < 2 ^ 20) (hz1 : z ≤ mo + 1) (hz2 : z ≤ h) (hz3 : ∀ j, j < z → qb g fi h j = 0) (hz4 : z = mo + 1 ∨ z = h ∨ qb g fi h z ≠ 0) (hzm : z ≤ mo) (hw : h < z + 1 + tln q K mo z) : Met l y_X_takeNumber (WSY y_X_takeNumber b_X_takeNumber 7 (some .int)) ({ frames := 3, cells := 0, slots := 0, locals := 67 }) (va_Pc [.ref x, .int (nI K), .int (nI mo)] (fun U => va_P D CLS [(x, .inr (4, [.int (nI bi), .int (nI ne), .int (nI li), .int (nI sp), .int (nI q), .ref sw, .ref sr, .ref br, .ref bq, .int lb])), (bq, .inr (0, [.ref qa, .int (nI fi), .int (nI h)])), (qa, .inl (cB, 1000, .inl g))] U.heap ∧ va_K D CLS [(cB, .byte)] U ∧ va_D (fun _ => True) [(x, .inr (4, [.int (nI bi), .int (nI ne), .int (nI li), .int (nI sp), .int (nI q), .ref sw, .ref sr, .ref br, .ref bq, .int lb])), (bq, .inr (0, [.ref qa, .int (nI fi), .int (nI h)])), (qa, .inl (cB, 1000, .inl g))] ∧ EV (ad [(x, .inr (4, [.int (nI bi), .int (nI ne), .int (nI li), .int (nI sp), .int (nI q), .ref sw, .ref sr, .ref br, .ref bq, .int lb])), (bq, .inr (0, [.ref qa, .int (nI fi), .int (nI h)])), (qa, .inl (cB, 1000, .inl g))]) tw U)) (QM (some (.int (-1))) [(x, .inr (4, [.int (nI bi), .int (nI ne), .int (nI li), .int (nI sp), .int (nI q), .ref sw, .ref sr, .ref br, .ref bq, .int lb])), (bq, .inr (0, [.ref qa, .int (nI fi), .int (nI h)])), (qa, .inl (cB, 1000, .inl g))] [(x, .inr (4, [.int (nI bi), .int (nI ne), .int (nI li), .int (nI sp), .int (nI q), .ref sw, .ref sr, .ref br, .ref bq, .int lb])), (bq, .inr (0, [.ref qa, .int (nI fi), .int (nI h)])), (qa, .inl (cB, 1000, .inl g))] D) 0 0 (ad [(x, .inr (4, [.int (nI bi), .int (nI ne), .int (nI li), .int (nI sp), .int (nI q), .ref sw, .ref sr, .ref br, .ref bq, .int lb])), (bq, .inr (0, [.ref qa, .int (nI fi), .int (nI h)])), (qa, .inl (cB, 1000, .inl g))]) := by
  refine Met.ofW (cc := b_X_takeNumber) (maxL := 7) (ret := (some .int)) (by decide) rfl ?_
  intro p e s m args below meth c s₁ B hml hv
  obtain ⟨rfl, hP, hK, hD0, hE⟩ := hv
  have hx := B.exec
  have hb := B.bytes
  have hr := B.returns
  have hts := atoms_spec (ws := WSY y_X_takeNumber b_X_takeNumber 7 (some .int)) B.pre
  have hg : ∀ w ∈ GW, w.before _ s = true := fun w h => hts w (List.mem_cons_of_mem _ h)
  have hown : s.vm.findClass "LineGolomb" = some m.cls := findClass_of_methodNamed B.named
  have hlocks := B.notSynchronized
  obtain ⟨A, hAe⟩ : ∃ A, A = ad [(x, .inr (4, [.int (nI bi), .int (nI ne), .int (nI li), .int (nI sp), .int (nI q), .ref sw, .ref sr, .ref br, .ref bq, .int lb])), (bq, .inr (0, [.ref qa, .int (nI fi), .int (nI h)])), (qa, .inl (cB, 1000, .inl g))] := ⟨_, rfl⟩
  have hD : va_D A [(x, .inr (4, [.int (nI bi), .int (nI ne), .int (nI li), .int (nI sp), .int (nI q), .ref sw, .ref sr, .ref br, .ref bq, .int lb])), (bq, .inr (0, [.ref qa, .int (nI fi), .int (nI h)])), (qa, .inl (cB, 1000, .inl g))] := by rw [hAe]; exact va_D_ad hD0
  have hS : va_S A s.heap s.heap [] := va_S.rf
  rw [← hAe] at hE
  have hl := lv_entry ([.ref x, .int (nI K), .int (nI mo)]) (n := 7) (Nat.le_of_ble_eq_true rfl)
  rw [lg_entry_eq]
  generalize (lg_sl ([.ref x, .int (nI K), .int (nI mo)]) ++ List.replicate (7 - (lg_sl ([.ref x, .int (nI K), .int (nI mo)])).length) Slot.unset).toArray = ls at hl ⊢
  have hl : lv_has ls 7 [(0, .ref x), (1, .int (nI K)), (2, .int (nI mo))] := hl
  refine lv_aload_n hx hb d_X_takeNumber_0 rfl (lv_at hl 0 rfl) ?_
  refine va_get (D := D) (ci := 4) (v := .ref bq) (C := R_X) (T := T_X) (N := 10) hx hb hg in_X hown hK hP 0 rfl rfl 8 (by decide) (hg _ gw_124) (fun _ h9 => h9) rfl d_X_takeNumber_1 ?_
  refine lv_iload_n hx hb d_X_takeNumber_4 rfl (lv_at hl 2 rfl) ?_
  refine lv_iconst (v := 1) hx hb d_X_takeNumber_5 (by decide) ?_
  refine lv_iadd hx hb d_X_takeNumber_6 ?_
  refine tpi (y := nI (mo + 1)) (nI_1 mo) ?_
  have hPc := hP.sub (ws' := [(bq, .inr (0, [.ref qa, .int (nI fi), .int (nI h)])), (qa, .inl (cB, 1000, .inl g))]) [1, 2] rfl
  have hKc := hK.sub (tys' := [(cB, .byte)]) [0] rfl
  refine pci (va_runV (As := [.int (nI (mo + 1))]) (rest := []) ⟨hx, hb, hml, hown, hg⟩ (c_Q_zerosAhead l D bq qa cB fi h g (mo + 1) z hf hh (by omega) hz1 hz2 hz3 hz4) (cwV 1 hg (gV gw_441 gw_442 gw_443 gw_3 gw_444) rfl rfl rfl (by decide +kernel) ⟨Nat.le_of_ble_eq_true rfl, Nat.le_of_ble_eq_true rfl⟩) ⟨fun a U g mk q => by obtain ⟨q0, qP, qK⟩ := q; exact ⟨q0, qP, va_K.moved (u := U) (U := U.calling g mk a) (Vm.Alike.refl U.vm) qK⟩, va_recv hKc hPc (ci := 0) (q0 := 0) rfl rfl, fun U hU hW => ⟨rfl, by rw [hU]; exact hPc, va_K.moved hW.alike hKc⟩⟩ rfl rfl hl.1 rfl (lv_room (Nat.le_of_ble_eq_true rfl)) d_X_takeNumber_7 (⟨Nat.le_of_ble_eq_true rfl, Nat.le_of_ble_eq_true rfl⟩)) ?_
  refine lv_istore_n (lv' := [(3, .int (nI z)), (0, .ref x), (1, .int (nI K)), (2, .int (nI mo))]) hx hb d_X_takeNumber_10 rfl hl (by decide) rfl (fun ls hl => ?_)
  refine lv_iload_n hx hb d_X_takeNumber_11 rfl (lv_at hl 0 rfl) ?_
  refine lv_iload_n hx hb d_X_takeNumber_12 rfl (lv_at hl 3 rfl) ?_
  refine lv_icmp_le (tgt := 29) hx hb d_X_takeNumber_13 (by decide) (fun c_1 => ?_) (fun c_1 => ?_)
  · skip
    refine lv_iload_n hx hb d_X_takeNumber_29 rfl (lv_at hl 0 rfl) ?_
    refine lv_iload_n hx hb d_X_takeNumber_30 rfl (lv_at hl 3 rfl) ?_
    refine lv_icmp_ge (tgt := 38) hx hb d_X_takeNumber_31 (by decide) (fun c_2 => ?_) (fun c_2 => ?_)
    · skip
      have hlt : ¬ z < mo := by have := (nI_leI (by omega) (by omega)).mp c_2; omega
      have htl : tln q K mo z = q := if_neg hlt
      refine lv_aload_n hx hb d_X_takeNumber_38 rfl (lv_at hl 1 rfl) ?_
      refine va_get (D := D) (ci := 4) (v := .int (nI q)) (C := R_X) (T := T_X) (N := 10) hx hb hg in_X hown hK hP 0 rfl rfl 4 (by decide) (hg _ gw_120) (fun _ h9 => h9) rfl d_X_takeNumber_39 ?_
      refine lv_istore (lv' := [(4, .int (nI q)), (3, .int (nI z)), (0, .ref x), (1, .int (nI K)), (2, .int (nI mo))]) hx hb d_X_takeNumber_42 hl (by decide) rfl (fun ls hl => ?_)
      refine lv_iload_n hx hb d_X_takeNumber_44 rfl (lv_at hl 1 rfl) ?_
      refine lv_iconst (v := 1) hx hb d_X_takeNumber_45 (by decide) ?_
      refine lv_iadd hx hb d_X_takeNumber_46 ?_
      refine tpi (y := nI (z + 1)) (nI_1 z) ?_
      refine lv_iload hx hb d_X_takeNumber_47 (lv_at hl 0 rfl) ?_
      refine lv_iadd hx hb d_X_takeNumber_49 ?_
      refine tpi (y := nI (z + 1 + q)) (nI_add _ _) ?_
      refine lv_istore (lv' := [(5, .int (nI (z + 1 + q))), (4, .int (nI q)), (3, .int (nI z)), (0, .ref x), (1, .int (nI K)), (2, .int (nI mo))]) hx hb d_X_takeNumber_50 hl (by decide) rfl (fun ls hl => ?_)
      refine lv_iload hx hb d_X_takeNumber_52 (lv_at hl 0 rfl) ?_
      refine lv_aload_n hx hb d_X_takeNumber_54 rfl (lv_at hl 3 rfl) ?_
      refine va_get (D := D) (ci := 4) (v := .ref bq) (C := R_X) (T := T_X) (N := 10) hx hb hg in_X hown hK hP 0 rfl rfl 8 (by decide) (hg _ gw_124) (fun _ h9 => h9) rfl d_X_takeNumber_55 ?_
      refine va_getN (D := D) (ci := 0) (v := .int (nI h)) (C := R_Q) (T := T_Q) (N := 3) hx hb hg in_Q hown hK hP 1 rfl rfl 2 (by decide) (va_Nw.use rfl (hE.nw nw_46)) (fun _ h9 => h9) rfl d_X_takeNumber_58 ?_
      refine lv_icmp_le (tgt := 66) hx hb d_X_takeNumber_61 (by decide) (fun c_3 => ?_) (fun c_3 => ?_)
      · skip
        exact absurd ((nI_leI (by omega) (by omega)).mp c_3) (by omega)
      · skip
        refine lv_iconst (v := (-1)) hx hb d_X_takeNumber_64 (by decide) ?_
        exact W.iret (v := (-1)) hx hb hr (fun t ht hW => ⟨rfl, by rw [ht]; exact hP, (hAe ▸ hS).F ht⟩) (hAe ▸ hS).2.2 d_X_takeNumber_65
    · skip
      have hlt : z < mo := by have : ¬ mo ≤ z := fun q9 => c_2 ((nI_leI (by omega) (by omega)).mpr q9); omega
      have htl : tln q K mo z = K := if_pos hlt
      refine lv_iload_n hx hb d_X_takeNumber_34 rfl (lv_at hl 2 rfl) ?_
      refine lv_goto (tgt := 42) hx hb d_X_takeNumber_35 (by decide) ?_
      refine lv_istore (lv' := [(4, .int (nI K)), (3, .int (nI z)), (0, .ref x), (1, .int (nI K)), (2, .int (nI mo))]) hx hb d_X_takeNumber_42 hl (by decide) rfl (fun ls hl => ?_)
      refine lv_iload_n hx hb d_X_takeNumber_44 rfl (lv_at hl 1 rfl) ?_
      refine lv_iconst (v := 1) hx hb d_X_takeNumber_45 (by decide) ?_
      refine lv_iadd hx hb d_X_takeNumber_46 ?_
      refine tpi (y := nI (z + 1)) (nI_1 z) ?_
      refine lv_iload hx hb d_X_takeNumber_47 (lv_at hl 0 rfl) ?_
      refine lv_iadd hx hb d_X_takeNumber_49 ?_
      refine tpi (y := nI (z + 1 + K)) (nI_add _ _) ?_
      refine lv_istore (lv' := [(5, .int (nI (z + 1 + K))), (4, .int (nI K)), (3, .int (nI z)), (0, .ref x), (1, .int (nI K)), (2, .int (nI mo))]) hx hb d_X_takeNumber_50 hl (by decide) rfl (fun ls hl => ?_)
      refine lv_iload hx hb d_X_takeNumber_52 (lv_at hl 0 rfl) ?_
      refine lv_aload_n hx hb d_X_takeNumber_54 rfl (lv_at hl 3 rfl) ?_
      refine va_get (D := D) (ci := 4) (v := .ref bq) (C := R_X) (T := T_X) (N := 10) hx hb hg in_X hown hK hP 0 rfl rfl 8 (by decide) (hg _ gw_124) (fun _ h9 => h9) rfl d_X_takeNumber_55 ?_
      refine va_getN (D := D) (ci := 0) (v := .int (nI h)) (C := R_Q) (T := T_Q) (N := 3) hx hb hg in_Q hown hK hP 1 rfl rfl 2 (by decide) (va_Nw.use rfl (hE.nw nw_46)) (fun _ h9 => h9) rfl d_X_takeNumber_58 ?_
      refine lv_icmp_le (tgt := 66) hx hb d_X_takeNumber_61 (by decide) (fun c_4 => ?_) (fun c_4 => ?_)
      · skip
        exact absurd ((nI_leI (by omega) (by omega)).mp c_4) (by omega)
      · skip
        refine lv_iconst (v := (-1)) hx hb d_X_takeNumber_64 (by decide) ?_
        exact W.iret (v := (-1)) hx hb hr (fun t ht hW => ⟨rfl, by rw [ht]; exact hP, (hAe ▸ hS).F ht⟩) (hAe ▸ hS).2.2 d_X_takeNumber_65
  · skip
    exact absurd (nI_le (by omega) (by omega)) c_1
set_option maxHeartbeats 4000000 in
set_option maxRecDepth 100000 in
theorem c_X_takeNumberG (l : Launch) (D : va_G) (x sw sr br bq bi ne li sp q : Nat) (lb : Int32) (qa : Nat) (cB : ClassId) (fi h : Nat) (g : Nat → Int32) (tw K mo z : Nat) (hf : fi < 1000) (hh : h ≤ 1000) (hKb : K < 32) (hq : q < 32) (hmo : mo < 2 ^ 20) (hz1 : z ≤ mo + 1) (hz2 : z ≤ h) (hz3 : ∀ j, j < z → qb g fi h j = 0) (hz4 : z = mo + 1 ∨ z = h ∨ qb g fi h z ≠ 0) (hzm : z ≤ mo) (hw : z + 1 + tln q K mo z ≤ h) (hzk : z * 2 ^ K < 2 ^ 31) : Met l y_X_takeNumber (WSY y_X_takeNumber b_X_takeNumber 7 (some .int)) ({ frames := 3, cells := 0, slots := 0, locals := 67 }) (va_Pc [.ref x, .int (nI K), .int (nI mo)] (fun U => va_P D CLS [(x, .inr (4, [.int (nI bi), .int (nI ne), .int (nI li), .int (nI sp), .int (nI q), .ref sw, .ref sr, .ref br, .ref bq, .int lb])), (bq, .inr (0, [.ref qa, .int (nI fi), .int (nI h)])), (qa, .inl (cB, 1000, .inl g))] U.heap ∧ va_K D CLS [(cB, .byte)] U ∧ va_D (fun _ => True) [(x, .inr (4, [.int (nI bi), .int (nI ne), .int (nI li), .int (nI sp), .int (nI q), .ref sw, .ref sr, .ref br, .ref bq, .int lb])), (bq, .inr (0, [.ref qa, .int (nI fi), .int (nI h)])), (qa, .inl (cB, 1000, .inl g))] ∧ EV (ad [(x, .inr (4, [.int (nI bi), .int (nI ne), .int (nI li), .int (nI sp), .int (nI q), .ref sw, .ref sr, .ref br, .ref bq, .int lb])), (bq, .inr (0, [.ref qa, .int (nI fi), .int (nI h)])), (qa, .inl (cB, 1000, .inl g))]) tw U)) (QM (some (.int (rnum (qb g fi h) q K mo z))) [(x, .inr (4, [.int (nI bi), .int (nI ne), .int (nI li), .int (nI sp), .int (nI q), .ref sw, .ref sr, .ref br, .ref bq, .int lb])), (bq, .inr (0, [.ref qa, .int (nI fi), .int (nI h)])), (qa, .inl (cB, 1000, .inl g))] [(x, .inr (4, [.int (nI bi), .int (nI ne), .int (nI li), .int (nI sp), .int (nI q), .ref sw, .ref sr, .ref br, .ref bq, .int lb])), (bq, .inr (0, [.ref qa, .int (nI (rpl fi (z + 1 + tln q K mo z))), .int (nI (h - (z + 1 + tln q K mo z)))])), (qa, .inl (cB, 1000, .inl g))] D) 0 0 (ad [(x, .inr (4, [.int (nI bi), .int (nI ne), .int (nI li), .int (nI sp), .int (nI q), .ref sw, .ref sr, .ref br, .ref bq, .int lb])), (bq, .inr (0, [.ref qa, .int (nI fi), .int (nI h)])), (qa, .inl (cB, 1000, .inl g))]) := by
  refine Met.ofW (cc := b_X_takeNumber) (maxL := 7) (ret := (some .int)) (by decide) rfl ?_
  intro p e s m args below meth c s₁ B hml hv
  obtain ⟨rfl, hP, hK, hD0, hE⟩ := hv
  have hx := B.exec
  have hb := B.bytes
  have hr := B.returns
  have hts := atoms_spec (ws := WSY y_X_takeNumber b_X_takeNumber 7 (some .int)) B.pre
  have hg : ∀ w ∈ GW, w.before _ s = true := fun w h => hts w (List.mem_cons_of_mem _ h)
  have hown : s.vm.findClass "LineGolomb" = some m.cls := findClass_of_methodNamed B.named
  have hlocks := B.notSynchronized
  obtain ⟨A, hAe⟩ : ∃ A, A = ad [(x, .inr (4, [.int (nI bi), .int (nI ne), .int (nI li), .int (nI sp), .int (nI q), .ref sw, .ref sr, .ref br, .ref bq, .int lb])), (bq, .inr (0, [.ref qa, .int (nI fi), .int (nI h)])), (qa, .inl (cB, 1000, .inl g))] := ⟨_, rfl⟩
  have hD : va_D A [(x, .inr (4, [.int (nI bi), .int (nI ne), .int (nI li), .int (nI sp), .int (nI q), .ref sw, .ref sr, .ref br, .ref bq, .int lb])), (bq, .inr (0, [.ref qa, .int (nI fi), .int (nI h)])), (qa, .inl (cB, 1000, .inl g))] := by rw [hAe]; exact va_D_ad hD0
  have hS : va_S A s.heap s.heap [] := va_S.rf
  rw [← hAe] at hE
  have hl := lv_entry ([.ref x, .int (nI K), .int (nI mo)]) (n := 7) (Nat.le_of_ble_eq_true rfl)
  rw [lg_entry_eq]
  generalize (lg_sl ([.ref x, .int (nI K), .int (nI mo)]) ++ List.replicate (7 - (lg_sl ([.ref x, .int (nI K), .int (nI mo)])).length) Slot.unset).toArray = ls at hl ⊢
  have hl : lv_has ls 7 [(0, .ref x), (1, .int (nI K)), (2, .int (nI mo))] := hl
  refine lv_aload_n hx hb d_X_takeNumber_0 rfl (lv_at hl 0 rfl) ?_
  refine va_get (D := D) (ci := 4) (v := .ref bq) (C := R_X) (T := T_X) (N := 10) hx hb hg in_X hown hK hP 0 rfl rfl 8 (by decide) (hg _ gw_124) (fun _ h9 => h9) rfl d_X_takeNumber_1 ?_
  refine lv_iload_n hx hb d_X_takeNumber_4 rfl (lv_at hl 2 rfl) ?_
  refine lv_iconst (v := 1) hx hb d_X_takeNumber_5 (by decide) ?_
  refine lv_iadd hx hb d_X_takeNumber_6 ?_
  refine tpi (y := nI (mo + 1)) (nI_1 mo) ?_
  have hPc := hP.sub (ws' := [(bq, .inr (0, [.ref qa, .int (nI fi), .int (nI h)])), (qa, .inl (cB, 1000, .inl g))]) [1, 2] rfl
  have hKc := hK.sub (tys' := [(cB, .byte)]) [0] rfl
  refine pci (va_runV (As := [.int (nI (mo + 1))]) (rest := []) ⟨hx, hb, hml, hown, hg⟩ (c_Q_zerosAhead l D bq qa cB fi h g (mo + 1) z hf hh (by omega) hz1 hz2 hz3 hz4) (cwV 1 hg (gV gw_441 gw_442 gw_443 gw_3 gw_444) rfl rfl rfl (by decide +kernel) ⟨Nat.le_of_ble_eq_true rfl, Nat.le_of_ble_eq_true rfl⟩) ⟨fun a U g mk q => by obtain ⟨q0, qP, qK⟩ := q; exact ⟨q0, qP, va_K.moved (u := U) (U := U.calling g mk a) (Vm.Alike.refl U.vm) qK⟩, va_recv hKc hPc (ci := 0) (q0 := 0) rfl rfl, fun U hU hW => ⟨rfl, by rw [hU]; exact hPc, va_K.moved hW.alike hKc⟩⟩ rfl rfl hl.1 rfl (lv_room (Nat.le_of_ble_eq_true rfl)) d_X_takeNumber_7 (⟨Nat.le_of_ble_eq_true rfl, Nat.le_of_ble_eq_true rfl⟩)) ?_
  refine lv_istore_n (lv' := [(3, .int (nI z)), (0, .ref x), (1, .int (nI K)), (2, .int (nI mo))]) hx hb d_X_takeNumber_10 rfl hl (by decide) rfl (fun ls hl => ?_)
  refine lv_iload_n hx hb d_X_takeNumber_11 rfl (lv_at hl 0 rfl) ?_
  refine lv_iload_n hx hb d_X_takeNumber_12 rfl (lv_at hl 3 rfl) ?_
  refine lv_icmp_le (tgt := 29) hx hb d_X_takeNumber_13 (by decide) (fun c_1 => ?_) (fun c_1 => ?_)
  · skip
    refine lv_iload_n hx hb d_X_takeNumber_29 rfl (lv_at hl 0 rfl) ?_
    refine lv_iload_n hx hb d_X_takeNumber_30 rfl (lv_at hl 3 rfl) ?_
    refine lv_icmp_ge (tgt := 38) hx hb d_X_takeNumber_31 (by decide) (fun c_2 => ?_) (fun c_2 => ?_)
    · skip
      have hlt : ¬ z < mo := by have := (nI_leI (by omega) (by omega)).mp c_2; omega
      have htl : tln q K mo z = q := if_neg hlt
      refine lv_aload_n hx hb d_X_takeNumber_38 rfl (lv_at hl 1 rfl) ?_
      refine va_get (D := D) (ci := 4) (v := .int (nI q)) (C := R_X) (T := T_X) (N := 10) hx hb hg in_X hown hK hP 0 rfl rfl 4 (by decide) (hg _ gw_120) (fun _ h9 => h9) rfl d_X_takeNumber_39 ?_
      refine lv_istore (lv' := [(4, .int (nI q)), (3, .int (nI z)), (0, .ref x), (1, .int (nI K)), (2, .int (nI mo))]) hx hb d_X_takeNumber_42 hl (by decide) rfl (fun ls hl => ?_)
      refine lv_iload_n hx hb d_X_takeNumber_44 rfl (lv_at hl 1 rfl) ?_
      refine lv_iconst (v := 1) hx hb d_X_takeNumber_45 (by decide) ?_
      refine lv_iadd hx hb d_X_takeNumber_46 ?_
      refine tpi (y := nI (z + 1)) (nI_1 z) ?_
      refine lv_iload hx hb d_X_takeNumber_47 (lv_at hl 0 rfl) ?_
      refine lv_iadd hx hb d_X_takeNumber_49 ?_
      refine tpi (y := nI (z + 1 + q)) (nI_add _ _) ?_
      refine lv_istore (lv' := [(5, .int (nI (z + 1 + q))), (4, .int (nI q)), (3, .int (nI z)), (0, .ref x), (1, .int (nI K)), (2, .int (nI mo))]) hx hb d_X_takeNumber_50 hl (by decide) rfl (fun ls hl => ?_)
      refine lv_iload hx hb d_X_takeNumber_52 (lv_at hl 0 rfl) ?_
      refine lv_aload_n hx hb d_X_takeNumber_54 rfl (lv_at hl 3 rfl) ?_
      refine va_get (D := D) (ci := 4) (v := .ref bq) (C := R_X) (T := T_X) (N := 10) hx hb hg in_X hown hK hP 0 rfl rfl 8 (by decide) (hg _ gw_124) (fun _ h9 => h9) rfl d_X_takeNumber_55 ?_
      refine va_getN (D := D) (ci := 0) (v := .int (nI h)) (C := R_Q) (T := T_Q) (N := 3) hx hb hg in_Q hown hK hP 1 rfl rfl 2 (by decide) (va_Nw.use rfl (hE.nw nw_46)) (fun _ h9 => h9) rfl d_X_takeNumber_58 ?_
      refine lv_icmp_le (tgt := 66) hx hb d_X_takeNumber_61 (by decide) (fun c_3 => ?_) (fun c_3 => ?_)
      · skip
        refine lv_aload_n hx hb d_X_takeNumber_66 rfl (lv_at hl 3 rfl) ?_
        refine va_get (D := D) (ci := 4) (v := .ref bq) (C := R_X) (T := T_X) (N := 10) hx hb hg in_X hown hK hP 0 rfl rfl 8 (by decide) (hg _ gw_124) (fun _ h9 => h9) rfl d_X_takeNumber_67 ?_
        refine lv_iload_n hx hb d_X_takeNumber_70 rfl (lv_at hl 2 rfl) ?_
        refine lv_iconst (v := 1) hx hb d_X_takeNumber_71 (by decide) ?_
        refine lv_iadd hx hb d_X_takeNumber_72 ?_
        refine tpi (y := nI (z + 1)) (nI_1 z) ?_
        refine lv_iload hx hb d_X_takeNumber_73 (lv_at hl 1 rfl) ?_
        have hPc := hP.sub (ws' := [(bq, .inr (0, [.ref qa, .int (nI fi), .int (nI h)])), (qa, .inl (cB, 1000, .inl g))]) [1, 2] rfl
        have hKc := hK.sub (tys' := [(cB, .byte)]) [0] rfl
        refine pci (va_runV (As := [.int (nI (z + 1)), .int (nI q)]) (rest := []) ⟨hx, hb, hml, hown, hg⟩ (c_Q_lookNumber l D bq qa cB fi h g (z + 1) q hf hh (by omega) (by omega)) (cwV 2 hg (gV gw_449 gw_450 gw_451 gw_3 gw_452) rfl rfl rfl (by decide +kernel) ⟨Nat.le_of_ble_eq_true rfl, Nat.le_of_ble_eq_true rfl⟩) ⟨fun a U g mk q => by obtain ⟨q0, qP, qK⟩ := q; exact ⟨q0, qP, va_K.moved (u := U) (U := U.calling g mk a) (Vm.Alike.refl U.vm) qK⟩, va_recv hKc hPc (ci := 0) (q0 := 0) rfl rfl, fun U hU hW => ⟨rfl, by rw [hU]; exact hPc, va_K.moved hW.alike hKc⟩⟩ rfl rfl hl.1 rfl (lv_room (Nat.le_of_ble_eq_true rfl)) d_X_takeNumber_75 (⟨Nat.le_of_ble_eq_true rfl, Nat.le_of_ble_eq_true rfl⟩)) ?_
        refine lv_istore (lv' := [(6, .int (bnum (qb g fi h) (z + 1) q)), (5, .int (nI (z + 1 + q))), (4, .int (nI q)), (3, .int (nI z)), (0, .ref x), (1, .int (nI K)), (2, .int (nI mo))]) hx hb d_X_takeNumber_78 hl (by decide) rfl (fun ls hl => ?_)
        refine lv_aload_n hx hb d_X_takeNumber_80 rfl (lv_at hl 4 rfl) ?_
        refine va_get (D := D) (ci := 4) (v := .ref bq) (C := R_X) (T := T_X) (N := 10) hx hb hg in_X hown hK hP 0 rfl rfl 8 (by decide) (hg _ gw_124) (fun _ h9 => h9) rfl d_X_takeNumber_81 ?_
        refine lv_iload hx hb d_X_takeNumber_84 (lv_at hl 1 rfl) ?_
        have hPc := hP.sub (ws' := [(bq, .inr (0, [.ref qa, .int (nI fi), .int (nI h)])), (qa, .inl (cB, 1000, .inl g))]) [1, 2] rfl
        have hDc := hD.sub (ws' := [(bq, .inr (0, [.ref qa, .int (nI fi), .int (nI h)])), (qa, .inl (cB, 1000, .inl g))]) [1, 2] (by decide) rfl
        have hKc := hK.sub (tys' := [(cB, .byte)]) [0] rfl
        refine mcv (va_runV (As := [.int (nI (z + 1 + q))]) (rest := []) ⟨hx, hb, hml, hown, hg⟩ (c_Q_drop l D bq qa cB fi h g (z + 1 + q) hf hh (by omega)) (cwV 1 hg (gV gw_175 gw_176 gw_177 gw_3 gw_178) rfl rfl rfl (by decide +kernel) ⟨Nat.le_of_ble_eq_true rfl, Nat.le_of_ble_eq_true rfl⟩) ⟨fun a U g mk q => by obtain ⟨q0, qP, qK, qD⟩ := q; exact ⟨q0, qP, va_K.moved (u := U) (U := U.calling g mk a) (Vm.Alike.refl U.vm) qK, qD⟩, va_recv hKc hPc (ci := 0) (q0 := 0) rfl rfl, fun U hU hW => ⟨rfl, by rw [hU]; exact hPc, va_K.moved hW.alike hKc, hDc.weaken (fun _ _ _ _ => trivial)⟩⟩ rfl rfl hl.1 rfl (lv_room (Nat.le_of_ble_eq_true rfl)) d_X_takeNumber_86 (⟨Nat.le_of_ble_eq_true rfl, Nat.le_of_ble_eq_true rfl⟩)) hS hP hD [1, 2] rfl rfl rfl (fun H locs hP hD hS => ?_)
        have hP : va_P D CLS [(x, .inr (4, [.int (nI bi), .int (nI ne), .int (nI li), .int (nI sp), .int (nI q), .ref sw, .ref sr, .ref br, .ref bq, .int lb])), (bq, .inr (0, [.ref qa, .int (nI (rpl fi (z + 1 + q))), .int (nI (h - (z + 1 + q)))])), (qa, .inl (cB, 1000, .inl g))] H := hP
        have hD : va_D A [(x, .inr (4, [.int (nI bi), .int (nI ne), .int (nI li), .int (nI sp), .int (nI q), .ref sw, .ref sr, .ref br, .ref bq, .int lb])), (bq, .inr (0, [.ref qa, .int (nI (rpl fi (z + 1 + q))), .int (nI (h - (z + 1 + q)))])), (qa, .inl (cB, 1000, .inl g))] := hD
        refine lv_iload_n hx hb d_X_takeNumber_89 rfl (lv_at hl 3 rfl) ?_
        refine lv_iload_n hx hb d_X_takeNumber_90 rfl (lv_at hl 6 rfl) ?_
        refine lv_icmp_ge (tgt := 103) hx hb d_X_takeNumber_91 (by decide) (fun c_4 => ?_) (fun c_4 => ?_)
        · skip
          refine lv_iload hx hb d_X_takeNumber_103 (lv_at hl 0 rfl) ?_
          refine lv_iconst (v := 1) hx hb d_X_takeNumber_105 (by decide) ?_
          refine lv_iadd hx hb d_X_takeNumber_106 ?_
          refine tpi (y := rnum (qb g fi h) q K mo z) ((if_neg hlt).symm) ?_
          exact W.iret (v := rnum (qb g fi h) q K mo z) hx hb hr (fun t ht hW => ⟨rfl, by rw [ht]; exact (by rw [htl]; exact hP), (hAe ▸ hS).F ht⟩) (hAe ▸ hS).2.2 d_X_takeNumber_107
        · skip
          exact absurd ((nI_leI (by omega) (by omega)).mpr (by omega)) c_4
      · skip
        exact absurd ((nI_leI (by omega) (by omega)).mpr (by omega)) c_3
    · skip
      have hlt : z < mo := by have : ¬ mo ≤ z := fun q9 => c_2 ((nI_leI (by omega) (by omega)).mpr q9); omega
      have htl : tln q K mo z = K := if_pos hlt
      refine lv_iload_n hx hb d_X_takeNumber_34 rfl (lv_at hl 2 rfl) ?_
      refine lv_goto (tgt := 42) hx hb d_X_takeNumber_35 (by decide) ?_
      refine lv_istore (lv' := [(4, .int (nI K)), (3, .int (nI z)), (0, .ref x), (1, .int (nI K)), (2, .int (nI mo))]) hx hb d_X_takeNumber_42 hl (by decide) rfl (fun ls hl => ?_)
      refine lv_iload_n hx hb d_X_takeNumber_44 rfl (lv_at hl 1 rfl) ?_
      refine lv_iconst (v := 1) hx hb d_X_takeNumber_45 (by decide) ?_
      refine lv_iadd hx hb d_X_takeNumber_46 ?_
      refine tpi (y := nI (z + 1)) (nI_1 z) ?_
      refine lv_iload hx hb d_X_takeNumber_47 (lv_at hl 0 rfl) ?_
      refine lv_iadd hx hb d_X_takeNumber_49 ?_
      refine tpi (y := nI (z + 1 + K)) (nI_add _ _) ?_
      refine lv_istore (lv' := [(5, .int (nI (z + 1 + K))), (4, .int (nI K)), (3, .int (nI z)), (0, .ref x), (1, .int (nI K)), (2, .int (nI mo))]) hx hb d_X_takeNumber_50 hl (by decide) rfl (fun ls hl => ?_)
      refine lv_iload hx hb d_X_takeNumber_52 (lv_at hl 0 rfl) ?_
      refine lv_aload_n hx hb d_X_takeNumber_54 rfl (lv_at hl 3 rfl) ?_
      refine va_get (D := D) (ci := 4) (v := .ref bq) (C := R_X) (T := T_X) (N := 10) hx hb hg in_X hown hK hP 0 rfl rfl 8 (by decide) (hg _ gw_124) (fun _ h9 => h9) rfl d_X_takeNumber_55 ?_
      refine va_getN (D := D) (ci := 0) (v := .int (nI h)) (C := R_Q) (T := T_Q) (N := 3) hx hb hg in_Q hown hK hP 1 rfl rfl 2 (by decide) (va_Nw.use rfl (hE.nw nw_46)) (fun _ h9 => h9) rfl d_X_takeNumber_58 ?_
      refine lv_icmp_le (tgt := 66) hx hb d_X_takeNumber_61 (by decide) (fun c_5 => ?_) (fun c_5 => ?_)
      · skip
        refine lv_aload_n hx hb d_X_takeNumber_66 rfl (lv_at hl 3 rfl) ?_
        refine va_get (D := D) (ci := 4) (v := .ref bq) (C := R_X) (T := T_X) (N := 10) hx hb hg in_X hown hK hP 0 rfl rfl 8 (by decide) (hg _ gw_124) (fun _ h9 => h9) rfl d_X_takeNumber_67 ?_
        refine lv_iload_n hx hb d_X_takeNumber_70 rfl (lv_at hl 2 rfl) ?_
        refine lv_iconst (v := 1) hx hb d_X_takeNumber_71 (by decide) ?_
        refine lv_iadd hx hb d_X_takeNumber_72 ?_
        refine tpi (y := nI (z + 1)) (nI_1 z) ?_
        refine lv_iload hx hb d_X_takeNumber_73 (lv_at hl 1 rfl) ?_
        have hPc := hP.sub (ws' := [(bq, .inr (0, [.ref qa, .int (nI fi), .int (nI h)])), (qa, .inl (cB, 1000, .inl g))]) [1, 2] rfl
        have hKc := hK.sub (tys' := [(cB, .byte)]) [0] rfl
        refine pci (va_runV (As := [.int (nI (z + 1)), .int (nI K)]) (rest := []) ⟨hx, hb, hml, hown, hg⟩ (c_Q_lookNumber l D bq qa cB fi h g (z + 1) K hf hh (by omega) (by omega)) (cwV 2 hg (gV gw_449 gw_450 gw_451 gw_3 gw_452) rfl rfl rfl (by decide +kernel) ⟨Nat.le_of_ble_eq_true rfl, Nat.le_of_ble_eq_true rfl⟩) ⟨fun a U g mk q => by obtain ⟨q0, qP, qK⟩ := q; exact ⟨q0, qP, va_K.moved (u := U) (U := U.calling g mk a) (Vm.Alike.refl U.vm) qK⟩, va_recv hKc hPc (ci := 0) (q0 := 0) rfl rfl, fun U hU hW => ⟨rfl, by rw [hU]; exact hPc, va_K.moved hW.alike hKc⟩⟩ rfl rfl hl.1 rfl (lv_room (Nat.le_of_ble_eq_true rfl)) d_X_takeNumber_75 (⟨Nat.le_of_ble_eq_true rfl, Nat.le_of_ble_eq_true rfl⟩)) ?_
        refine lv_istore (lv' := [(6, .int (bnum (qb g fi h) (z + 1) K)), (5, .int (nI (z + 1 + K))), (4, .int (nI K)), (3, .int (nI z)), (0, .ref x), (1, .int (nI K)), (2, .int (nI mo))]) hx hb d_X_takeNumber_78 hl (by decide) rfl (fun ls hl => ?_)
        refine lv_aload_n hx hb d_X_takeNumber_80 rfl (lv_at hl 4 rfl) ?_
        refine va_get (D := D) (ci := 4) (v := .ref bq) (C := R_X) (T := T_X) (N := 10) hx hb hg in_X hown hK hP 0 rfl rfl 8 (by decide) (hg _ gw_124) (fun _ h9 => h9) rfl d_X_takeNumber_81 ?_
        refine lv_iload hx hb d_X_takeNumber_84 (lv_at hl 1 rfl) ?_
        have hPc := hP.sub (ws' := [(bq, .inr (0, [.ref qa, .int (nI fi), .int (nI h)])), (qa, .inl (cB, 1000, .inl g))]) [1, 2] rfl
        have hDc := hD.sub (ws' := [(bq, .inr (0, [.ref qa, .int (nI fi), .int (nI h)])), (qa, .inl (cB, 1000, .inl g))]) [1, 2] (by decide) rfl
        have hKc := hK.sub (tys' := [(cB, .byte)]) [0] rfl
        refine mcv (va_runV (As := [.int (nI (z + 1 + K))]) (rest := []) ⟨hx, hb, hml, hown, hg⟩ (c_Q_drop l D bq qa cB fi h g (z + 1 + K) hf hh (by omega)) (cwV 1 hg (gV gw_175 gw_176 gw_177 gw_3 gw_178) rfl rfl rfl (by decide +kernel) ⟨Nat.le_of_ble_eq_true rfl, Nat.le_of_ble_eq_true rfl⟩) ⟨fun a U g mk q => by obtain ⟨q0, qP, qK, qD⟩ := q; exact ⟨q0, qP, va_K.moved (u := U) (U := U.calling g mk a) (Vm.Alike.refl U.vm) qK, qD⟩, va_recv hKc hPc (ci := 0) (q0 := 0) rfl rfl, fun U hU hW => ⟨rfl, by rw [hU]; exact hPc, va_K.moved hW.alike hKc, hDc.weaken (fun _ _ _ _ => trivial)⟩⟩ rfl rfl hl.1 rfl (lv_room (Nat.le_of_ble_eq_true rfl)) d_X_takeNumber_86 (⟨Nat.le_of_ble_eq_true rfl, Nat.le_of_ble_eq_true rfl⟩)) hS hP hD [1, 2] rfl rfl rfl (fun H locs hP hD hS => ?_)
        have hP : va_P D CLS [(x, .inr (4, [.int (nI bi), .int (nI ne), .int (nI li), .int (nI sp), .int (nI q), .ref sw, .ref sr, .ref br, .ref bq, .int lb])), (bq, .inr (0, [.ref qa, .int (nI (rpl fi (z + 1 + K))), .int (nI (h - (z + 1 + K)))])), (qa, .inl (cB, 1000, .inl g))] H := hP
        have hD : va_D A [(x, .inr (4, [.int (nI bi), .int (nI ne), .int (nI li), .int (nI sp), .int (nI q), .ref sw, .ref sr, .ref br, .ref bq, .int lb])), (bq, .inr (0, [.ref qa, .int (nI (rpl fi (z + 1 + K))), .int (nI (h - (z + 1 + K)))])), (qa, .inl (cB, 1000, .inl g))] := hD
        refine lv_iload_n hx hb d_X_takeNumber_89 rfl (lv_at hl 3 rfl) ?_
        refine lv_iload_n hx hb d_X_takeNumber_90 rfl (lv_at hl 6 rfl) ?_
        refine lv_icmp_ge (tgt := 103) hx hb d_X_takeNumber_91 (by decide) (fun c_6 => ?_) (fun c_6 => ?_)
        · skip
          exact absurd ((nI_leI (by omega) (by omega)).mp c_6) (by omega)
        · skip
          refine lv_iload_n hx hb d_X_takeNumber_94 rfl (lv_at hl 3 rfl) ?_
          refine lv_iload_n hx hb d_X_takeNumber_95 rfl (lv_at hl 5 rfl) ?_
          refine lv_ishl hx hb d_X_takeNumber_96 ?_
          refine tpi (y := nI (z * 2 ^ K)) (shl hKb (by omega)) ?_
          refine lv_iload hx hb d_X_takeNumber_97 (lv_at hl 0 rfl) ?_
          refine lv_iadd hx hb d_X_takeNumber_99 ?_
          refine lv_goto (tgt := 107) hx hb d_X_takeNumber_100 (by decide) ?_
          refine tpi (y := rnum (qb g fi h) q K mo z) ((if_pos hlt).symm) ?_
          exact W.iret (v := rnum (qb g fi h) q K mo z) hx hb hr (fun t ht hW => ⟨rfl, by rw [ht]; exact (by rw [htl]; exact hP), (hAe ▸ hS).F ht⟩) (hAe ▸ hS).2.2 d_X_takeNumber_107
      · skip
        exact absurd ((nI_leI (by omega) (by omega)).mpr (by omega)) c_5
  · skip
    exact absurd (nI_le (by omega) (by omega)) c_1
set_option maxHeartbeats 4000000 in
set_option maxRecDepth 100000 in
theorem c_X_endReadRun0 (l : Launch) (D : va_G) (x sw sr br bq bi ne li sp q : Nat) (lb : Int32) (e0 e1 pl rw tw p0 : Nat) (hp : p0 < 32) : Met l y_X_endReadRun (WSY y_X_endReadRun b_X_endReadRun 3 none) ({ frames := 3, cells := 0, slots := 0, locals := 68 }) (va_Pc [.ref x, .int (nI p0), .int 0] (fun U => va_P D CLS [(x, .inr (4, [.int (nI bi), .int (nI ne), .int (nI li), .int (nI sp), .int (nI q), .ref sw, .ref sr, .ref br, .ref bq, .int lb])), (sr, .inr (3, [.ref e0, .ref e1, .int (nI pl), .int (nI rw)]))] U.heap ∧ va_K D CLS [] U ∧ va_D (fun _ => True) [(x, .inr (4, [.int (nI bi), .int (nI ne), .int (nI li), .int (nI sp), .int (nI q), .ref sw, .ref sr, .ref br, .ref bq, .int lb])), (sr, .inr (3, [.ref e0, .ref e1, .int (nI pl), .int (nI rw)]))] ∧ EV (ad [(x, .inr (4, [.int (nI bi), .int (nI ne), .int (nI li), .int (nI sp), .int (nI q), .ref sw, .ref sr, .ref br, .ref bq, .int lb])), (sr, .inr (3, [.ref e0, .ref e1, .int (nI pl), .int (nI rw)]))]) tw U)) (QM none [(x, .inr (4, [.int (nI bi), .int (nI ne), .int (nI li), .int (nI sp), .int (nI q), .ref sw, .ref sr, .ref br, .ref bq, .int lb])), (sr, .inr (3, [.ref e0, .ref e1, .int (nI pl), .int (nI rw)]))] [(x, .inr (4, [.int (nI bi), .int (nI ne), .int (nI li), .int (nI sp), .int (nI q), .ref sw, .ref sr, .ref br, .ref bq, .int 0])), (sr, .inr (3, [.ref e0, .ref e1, .int (nI p0), .int (nI (wdt p0))]))] D) 0 0 (ad [(x, .inr (4, [.int (nI bi), .int (nI ne), .int (nI li), .int (nI sp), .int (nI q), .ref sw, .ref sr, .ref br, .ref bq, .int lb])), (sr, .inr (3, [.ref e0, .ref e1, .int (nI pl), .int (nI rw)]))]) := by
  refine Met.ofW (cc := b_X_endReadRun) (maxL := 3) (ret := none) (by decide) rfl ?_
  intro p e s m args below meth c s₁ B hml hv
  obtain ⟨rfl, hP, hK, hD0, hE⟩ := hv
  have hx := B.exec
  have hb := B.bytes
  have hr := B.returns
  have hts := atoms_spec (ws := WSY y_X_endReadRun b_X_endReadRun 3 none) B.pre
  have hg : ∀ w ∈ GW, w.before _ s = true := fun w h => hts w (List.mem_cons_of_mem _ h)
  have hown : s.vm.findClass "LineGolomb" = some m.cls := findClass_of_methodNamed B.named
  have hlocks := B.notSynchronized
  obtain ⟨A, hAe⟩ : ∃ A, A = ad [(x, .inr (4, [.int (nI bi), .int (nI ne), .int (nI li), .int (nI sp), .int (nI q), .ref sw, .ref sr, .ref br, .ref bq, .int lb])), (sr, .inr (3, [.ref e0, .ref e1, .int (nI pl), .int (nI rw)]))] := ⟨_, rfl⟩
  have hD : va_D A [(x, .inr (4, [.int (nI bi), .int (nI ne), .int (nI li), .int (nI sp), .int (nI q), .ref sw, .ref sr, .ref br, .ref bq, .int lb])), (sr, .inr (3, [.ref e0, .ref e1, .int (nI pl), .int (nI rw)]))] := by rw [hAe]; exact va_D_ad hD0
  have hS : va_S A s.heap s.heap [] := va_S.rf
  rw [← hAe] at hE
  have hl := lv_entry ([.ref x, .int (nI p0), .int 0]) (n := 3) (Nat.le_of_ble_eq_true rfl)
  rw [lg_entry_eq]
  generalize (lg_sl ([.ref x, .int (nI p0), .int 0]) ++ List.replicate (3 - (lg_sl ([.ref x, .int (nI p0), .int 0])).length) Slot.unset).toArray = ls at hl ⊢
  have hl : lv_has ls 3 [(0, .ref x), (1, .int (nI p0)), (2, .int 0)] := hl
  refine lv_aload_n hx hb d_X_endReadRun_0 rfl (lv_at hl 0 rfl) ?_
  refine va_get (D := D) (ci := 4) (v := .ref sr) (C := R_X) (T := T_X) (N := 10) hx hb hg in_X hown hK hP 0 rfl rfl 6 (by decide) (hg _ gw_122) (fun _ h9 => h9) rfl d_X_endReadRun_1 ?_
  refine lv_iload_n hx hb d_X_endReadRun_4 rfl (lv_at hl 1 rfl) ?_
  refine lv_iload_n hx hb d_X_endReadRun_5 rfl (lv_at hl 2 rfl) ?_
  have hPc := hP.sub (ws' := [(sr, .inr (3, [.ref e0, .ref e1, .int (nI pl), .int (nI rw)]))]) [1] rfl
  have hDc := hD.sub (ws' := [(sr, .inr (3, [.ref e0, .ref e1, .int (nI pl), .int (nI rw)]))]) [1] (by decide) rfl
  have hKc := hK.sub (tys' := []) [] rfl
  refine mcv (va_runV (As := [.int (nI p0), .int 0]) (rest := []) ⟨hx, hb, hml, hown, hg⟩ (c_S_endRun0 l D sr e0 e1 pl rw tw p0 hp) (cwV 2 hg (gV gw_327 gw_328 gw_329 gw_5 gw_330) rfl rfl rfl (by decide +kernel) ⟨Nat.le_of_ble_eq_true rfl, Nat.le_of_ble_eq_true rfl⟩) ⟨fun a U g mk q => by obtain ⟨q0, qP, qK, qD, qX⟩ := q; exact ⟨q0, qP, va_K.moved (u := U) (U := U.calling g mk a) (Vm.Alike.refl U.vm) qK, qD, qX.blind⟩, va_recv hKc hPc (ci := 3) (q0 := 0) rfl rfl, fun U hU hW => ⟨rfl, by rw [hU]; exact hPc, va_K.moved hW.alike hKc, hDc.weaken (fun _ _ _ _ => trivial), hE.call hS (ad_sub hD [1] rfl) hU hW⟩⟩ rfl rfl hl.1 rfl (lv_room (Nat.le_of_ble_eq_true rfl)) d_X_endReadRun_6 (⟨Nat.le_of_ble_eq_true rfl, Nat.le_of_ble_eq_true rfl⟩)) hS hP hD [1] rfl rfl rfl (fun H locs hP hD hS => ?_)
  have hP : va_P D CLS [(x, .inr (4, [.int (nI bi), .int (nI ne), .int (nI li), .int (nI sp), .int (nI q), .ref sw, .ref sr, .ref br, .ref bq, .int lb])), (sr, .inr (3, [.ref e0, .ref e1, .int (nI p0), .int (nI (wdt p0))]))] H := hP
  have hD : va_D A [(x, .inr (4, [.int (nI bi), .int (nI ne), .int (nI li), .int (nI sp), .int (nI q), .ref sw, .ref sr, .ref br, .ref bq, .int lb])), (sr, .inr (3, [.ref e0, .ref e1, .int (nI p0), .int (nI (wdt p0))]))] := hD
  refine lv_aload_n hx hb d_X_endReadRun_9 rfl (lv_at hl 0 rfl) ?_
  refine lv_iload_n hx hb d_X_endReadRun_10 rfl (lv_at hl 2 rfl) ?_
  refine va_put (D := D) (ci := 4) (v := .int 0) (ty := .boolean) (C := R_X) (T := T_X) (N := 10) hx hb hg in_X ty_X tok_X nm_X hown hK hP hD hS 0 rfl rfl 9 (by decide) (hg _ gw_125) (fun _ h9 => h9) rfl (by decide +kernel) (rfl) (rfl) (Nat.le_of_ble_eq_true rfl) d_X_endReadRun_11 (fun H locs hP hD hS => ?_)
  have hP : va_P D CLS [(x, .inr (4, [.int (nI bi), .int (nI ne), .int (nI li), .int (nI sp), .int (nI q), .ref sw, .ref sr, .ref br, .ref bq, .int 0])), (sr, .inr (3, [.ref e0, .ref e1, .int (nI p0), .int (nI (wdt p0))]))] H := hP
  have hD : va_D A [(x, .inr (4, [.int (nI bi), .int (nI ne), .int (nI li), .int (nI sp), .int (nI q), .ref sw, .ref sr, .ref br, .ref bq, .int 0])), (sr, .inr (3, [.ref e0, .ref e1, .int (nI p0), .int (nI (wdt p0))]))] := hD
  exact W.vret hx hb hr (fun t ht hW => ⟨rfl, by rw [ht]; exact hP, (hAe ▸ hS).F ht⟩) (hAe ▸ hS).2.2 d_X_endReadRun_14
set_option maxHeartbeats 4000000 in
set_option maxRecDepth 100000 in
theorem c_X_endReadRun1 (l : Launch) (D : va_G) (x sw sr br bq bi ne li sp q : Nat) (lb : Int32) (e0 e1 pl rw tw p0 : Nat) (hp : p0 < 32) : Met l y_X_endReadRun (WSY y_X_endReadRun b_X_endReadRun 3 none) ({ frames := 3, cells := 0, slots := 0, locals := 68 }) (va_Pc [.ref x, .int (nI p0), .int 1] (fun U => va_P D CLS [(x, .inr (4, [.int (nI bi), .int (nI ne), .int (nI li), .int (nI sp), .int (nI q), .ref sw, .ref sr, .ref br, .ref bq, .int lb])), (sr, .inr (3, [.ref e0, .ref e1, .int (nI pl), .int (nI rw)]))] U.heap ∧ va_K D CLS [] U ∧ va_D (fun _ => True) [(x, .inr (4, [.int (nI bi), .int (nI ne), .int (nI li), .int (nI sp), .int (nI q), .ref sw, .ref sr, .ref br, .ref bq, .int lb])), (sr, .inr (3, [.ref e0, .ref e1, .int (nI pl), .int (nI rw)]))] ∧ EV (ad [(x, .inr (4, [.int (nI bi), .int (nI ne), .int (nI li), .int (nI sp), .int (nI q), .ref sw, .ref sr, .ref br, .ref bq, .int lb])), (sr, .inr (3, [.ref e0, .ref e1, .int (nI pl), .int (nI rw)]))]) tw U)) (QM none [(x, .inr (4, [.int (nI bi), .int (nI ne), .int (nI li), .int (nI sp), .int (nI q), .ref sw, .ref sr, .ref br, .ref bq, .int lb])), (sr, .inr (3, [.ref e0, .ref e1, .int (nI pl), .int (nI rw)]))] [(x, .inr (4, [.int (nI bi), .int (nI ne), .int (nI li), .int (nI sp), .int (nI q), .ref sw, .ref sr, .ref br, .ref bq, .int 1])), (sr, .inr (3, [.ref e0, .ref e1, .int (nI (p0 - 1)), .int (nI (wdt p0))]))] D) 0 0 (ad [(x, .inr (4, [.int (nI bi), .int (nI ne), .int (nI li), .int (nI sp), .int (nI q), .ref sw, .ref sr, .ref br, .ref bq, .int lb])), (sr, .inr (3, [.ref e0, .ref e1, .int (nI pl), .int (nI rw)]))]) := by
  refine Met.ofW (cc := b_X_endReadRun) (maxL := 3) (ret := none) (by decide) rfl ?_
  intro p e s m args below meth c s₁ B hml hv
  obtain ⟨rfl, hP, hK, hD0, hE⟩ := hv
  have hx := B.exec
  have hb := B.bytes
  have hr := B.returns
  have hts := atoms_spec (ws := WSY y_X_endReadRun b_X_endReadRun 3 none) B.pre
  have hg : ∀ w ∈ GW, w.before _ s = true := fun w h => hts w (List.mem_cons_of_mem _ h)
  have hown : s.vm.findClass "LineGolomb" = some m.cls := findClass_of_methodNamed B.named
  have hlocks := B.notSynchronized
  obtain ⟨A, hAe⟩ : ∃ A, A = ad [(x, .inr (4, [.int (nI bi), .int (nI ne), .int (nI li), .int (nI sp), .int (nI q), .ref sw, .ref sr, .ref br, .ref bq, .int lb])), (sr, .inr (3, [.ref e0, .ref e1, .int (nI pl), .int (nI rw)]))] := ⟨_, rfl⟩
  have hD : va_D A [(x, .inr (4, [.int (nI bi), .int (nI ne), .int (nI li), .int (nI sp), .int (nI q), .ref sw, .ref sr, .ref br, .ref bq, .int lb])), (sr, .inr (3, [.ref e0, .ref e1, .int (nI pl), .int (nI rw)]))] := by rw [hAe]; exact va_D_ad hD0
  have hS : va_S A s.heap s.heap [] := va_S.rf
  rw [← hAe] at hE
  have hl := lv_entry ([.ref x, .int (nI p0), .int 1]) (n := 3) (Nat.le_of_ble_eq_true rfl)
  rw [lg_entry_eq]
  generalize (lg_sl ([.ref x, .int (nI p0), .int 1]) ++ List.replicate (3 - (lg_sl ([.ref x, .int (nI p0), .int 1])).length) Slot.unset).toArray = ls at hl ⊢
  have hl : lv_has ls 3 [(0, .ref x), (1, .int (nI p0)), (2, .int 1)] := hl
  refine lv_aload_n hx hb d_X_endReadRun_0 rfl (lv_at hl 0 rfl) ?_
  refine va_get (D := D) (ci := 4) (v := .ref sr) (C := R_X) (T := T_X) (N := 10) hx hb hg in_X hown hK hP 0 rfl rfl 6 (by decide) (hg _ gw_122) (fun _ h9 => h9) rfl d_X_endReadRun_1 ?_
  refine lv_iload_n hx hb d_X_endReadRun_4 rfl (lv_at hl 1 rfl) ?_
  refine lv_iload_n hx hb d_X_endReadRun_5 rfl (lv_at hl 2 rfl) ?_
  have hPc := hP.sub (ws' := [(sr, .inr (3, [.ref e0, .ref e1, .int (nI pl), .int (nI rw)]))]) [1] rfl
  have hDc := hD.sub (ws' := [(sr, .inr (3, [.ref e0, .ref e1, .int (nI pl), .int (nI rw)]))]) [1] (by decide) rfl
  have hKc := hK.sub (tys' := []) [] rfl
  refine mcv (va_runV (As := [.int (nI p0), .int 1]) (rest := []) ⟨hx, hb, hml, hown, hg⟩ (c_S_endRun1 l D sr e0 e1 pl rw tw p0 hp) (cwV 2 hg (gV gw_327 gw_328 gw_329 gw_5 gw_330) rfl rfl rfl (by decide +kernel) ⟨Nat.le_of_ble_eq_true rfl, Nat.le_of_ble_eq_true rfl⟩) ⟨fun a U g mk q => by obtain ⟨q0, qP, qK, qD, qX⟩ := q; exact ⟨q0, qP, va_K.moved (u := U) (U := U.calling g mk a) (Vm.Alike.refl U.vm) qK, qD, qX.blind⟩, va_recv hKc hPc (ci := 3) (q0 := 0) rfl rfl, fun U hU hW => ⟨rfl, by rw [hU]; exact hPc, va_K.moved hW.alike hKc, hDc.weaken (fun _ _ _ _ => trivial), hE.call hS (ad_sub hD [1] rfl) hU hW⟩⟩ rfl rfl hl.1 rfl (lv_room (Nat.le_of_ble_eq_true rfl)) d_X_endReadRun_6 (⟨Nat.le_of_ble_eq_true rfl, Nat.le_of_ble_eq_true rfl⟩)) hS hP hD [1] rfl rfl rfl (fun H locs hP hD hS => ?_)
  have hP : va_P D CLS [(x, .inr (4, [.int (nI bi), .int (nI ne), .int (nI li), .int (nI sp), .int (nI q), .ref sw, .ref sr, .ref br, .ref bq, .int lb])), (sr, .inr (3, [.ref e0, .ref e1, .int (nI (p0 - 1)), .int (nI (wdt p0))]))] H := hP
  have hD : va_D A [(x, .inr (4, [.int (nI bi), .int (nI ne), .int (nI li), .int (nI sp), .int (nI q), .ref sw, .ref sr, .ref br, .ref bq, .int lb])), (sr, .inr (3, [.ref e0, .ref e1, .int (nI (p0 - 1)), .int (nI (wdt p0))]))] := hD
  refine lv_aload_n hx hb d_X_endReadRun_9 rfl (lv_at hl 0 rfl) ?_
  refine lv_iload_n hx hb d_X_endReadRun_10 rfl (lv_at hl 2 rfl) ?_
  refine va_put (D := D) (ci := 4) (v := .int 1) (ty := .boolean) (C := R_X) (T := T_X) (N := 10) hx hb hg in_X ty_X tok_X nm_X hown hK hP hD hS 0 rfl rfl 9 (by decide) (hg _ gw_125) (fun _ h9 => h9) rfl (by decide +kernel) (rfl) (rfl) (Nat.le_of_ble_eq_true rfl) d_X_endReadRun_11 (fun H locs hP hD hS => ?_)
  have hP : va_P D CLS [(x, .inr (4, [.int (nI bi), .int (nI ne), .int (nI li), .int (nI sp), .int (nI q), .ref sw, .ref sr, .ref br, .ref bq, .int 1])), (sr, .inr (3, [.ref e0, .ref e1, .int (nI (p0 - 1)), .int (nI (wdt p0))]))] H := hP
  have hD : va_D A [(x, .inr (4, [.int (nI bi), .int (nI ne), .int (nI li), .int (nI sp), .int (nI q), .ref sw, .ref sr, .ref br, .ref bq, .int 1])), (sr, .inr (3, [.ref e0, .ref e1, .int (nI (p0 - 1)), .int (nI (wdt p0))]))] := hD
  exact W.vret hx hb hr (fun t ht hW => ⟨rfl, by rw [ht]; exact hP, (hAe ▸ hS).F ht⟩) (hAe ▸ hS).2.2 d_X_endReadRun_14
set_option maxHeartbeats 4000000 in
set_option maxRecDepth 100000 in
theorem c_X_takeBrokenRunW (l : Launch) (D : va_G) (x sw sr br bq bi ne li sp q : Nat) (lb : Int32) (e0 e1 pl rw : Nat) (qa : Nat) (cB : ClassId) (fi h : Nat) (g : Nat → Int32) (tw on p0 lf rs : Nat) (hf : fi < 1000) (hh : h ≤ 1000) (hp : p0 < 32) (hon : on < 2 ^ 20) (hw : h < on + 1 + wdt p0) : Met l y_X_takeBrokenRun (WSY y_X_takeBrokenRun b_X_takeBrokenRun 8 (some .int)) ({ frames := 4, cells := 0, slots := 0, locals := 90 }) (va_Pc [.ref x, .int (nI on), .int (nI p0), .int (nI lf), .int (nI rs)] (fun U => va_P D CLS [(x, .inr (4, [.int (nI bi), .int (nI ne), .int (nI li), .int (nI sp), .int (nI q), .ref sw, .ref sr, .ref br, .ref bq, .int lb])), (sr, .inr (3, [.ref e0, .ref e1, .int (nI pl), .int (nI rw)])), (bq, .inr (0, [.ref qa, .int (nI fi), .int (nI h)])), (qa, .inl (cB, 1000, .inl g))] U.heap ∧ va_K D CLS [(cB, .byte)] U ∧ va_D (fun _ => True) [(x, .inr (4, [.int (nI bi), .int (nI ne), .int (nI li), .int (nI sp), .int (nI q), .ref sw, .ref sr, .ref br, .ref bq, .int lb])), (sr, .inr (3, [.ref e0, .ref e1, .int (nI pl), .int (nI rw)])), (bq, .inr (0, [.ref qa, .int (nI fi), .int (nI h)])), (qa, .inl (cB, 1000, .inl g))] ∧ EV (ad [(x, .inr (4, [.int (nI bi), .int (nI ne), .int (nI li), .int (nI sp), .int (nI q), .ref sw, .ref sr, .ref br, .ref bq, .int lb])), (sr, .inr (3, [.ref e0, .ref e1, .int (nI pl), .int (nI rw)])), (bq, .inr (0, [.ref qa, .int (nI fi), .int (nI h)])), (qa, .inl (cB, 1000, .inl g))]) tw U)) (QM (some (.int (-1))) [(x, .inr (4, [.int (nI bi), .int (nI ne), .int (nI li), .int (nI sp), .int (nI q), .ref sw, .ref sr, .ref br, .ref bq, .int lb])), (sr, .inr (3, [.ref e0, .ref e1, .int (nI pl), .int (nI rw)])), (bq, .inr (0, [.ref qa, .int (nI fi), .int (nI h)])), (qa, .inl (cB, 1000, .inl g))] [(x, .inr (4, [.int (nI bi), .int (nI ne), .int (nI li), .int (nI sp), .int (nI q), .ref sw, .ref sr, .ref br, .ref bq, .int lb])), (sr, .inr (3, [.ref e0, .ref e1, .int (nI pl), .int (nI rw)])), (bq, .inr (0, [.ref qa, .int (nI fi), .int (nI h)])), (qa, .inl (cB, 1000, .inl g))] D) 0 0 (ad [(x, .inr (4, [.int (nI bi), .int (nI ne), .int (nI li), .int (nI sp), .int (nI q), .ref sw, .ref sr, .ref br, .ref bq, .int lb])), (sr, .inr (3, [.ref e0, .ref e1, .int (nI pl), .int (nI rw)])), (bq, .inr (0, [.ref qa, .int (nI fi), .int (nI h)])), (qa, .inl (cB, 1000, .inl g))]) := by
  refine Met.ofW (cc := b_X_takeBrokenRun) (maxL := 8) (ret := (some .int)) (by decide) rfl ?_
  intro p e s m args below meth c s₁ B hml hv
  obtain ⟨rfl, hP, hK, hD0, hE⟩ := hv
  have hx := B.exec
  have hb := B.bytes
  have hr := B.returns
  have hts := atoms_spec (ws := WSY y_X_takeBrokenRun b_X_takeBrokenRun 8 (some .int)) B.pre
  have hg : ∀ w ∈ GW, w.before _ s = true := fun w h => hts w (List.mem_cons_of_mem _ h)
  have hown : s.vm.findClass "LineGolomb" = some m.cls := findClass_of_methodNamed B.named
  have hlocks := B.notSynchronized
  obtain ⟨A, hAe⟩ : ∃ A, A = ad [(x, .inr (4, [.int (nI bi), .int (nI ne), .int (nI li), .int (nI sp), .int (nI q), .ref sw, .ref sr, .ref br, .ref bq, .int lb])), (sr, .inr (3, [.ref e0, .ref e1, .int (nI pl), .int (nI rw)])), (bq, .inr (0, [.ref qa, .int (nI fi), .int (nI h)])), (qa, .inl (cB, 1000, .inl g))] := ⟨_, rfl⟩
  have hD : va_D A [(x, .inr (4, [.int (nI bi), .int (nI ne), .int (nI li), .int (nI sp), .int (nI q), .ref sw, .ref sr, .ref br, .ref bq, .int lb])), (sr, .inr (3, [.ref e0, .ref e1, .int (nI pl), .int (nI rw)])), (bq, .inr (0, [.ref qa, .int (nI fi), .int (nI h)])), (qa, .inl (cB, 1000, .inl g))] := by rw [hAe]; exact va_D_ad hD0
  have hS : va_S A s.heap s.heap [] := va_S.rf
  rw [← hAe] at hE
  have hl := lv_entry ([.ref x, .int (nI on), .int (nI p0), .int (nI lf), .int (nI rs)]) (n := 8) (Nat.le_of_ble_eq_true rfl)
  rw [lg_entry_eq]
  generalize (lg_sl ([.ref x, .int (nI on), .int (nI p0), .int (nI lf), .int (nI rs)]) ++ List.replicate (8 - (lg_sl ([.ref x, .int (nI on), .int (nI p0), .int (nI lf), .int (nI rs)])).length) Slot.unset).toArray = ls at hl ⊢
  have hl : lv_has ls 8 [(0, .ref x), (1, .int (nI on)), (2, .int (nI p0)), (3, .int (nI lf)), (4, .int (nI rs))] := hl
  have hwd := wdt_le p0 hp
  refine lv_iload_n hx hb d_X_takeBrokenRun_0 rfl (lv_at hl 2 rfl) ?_
  have hPc := hP.sub (ws' := []) [] rfl
  have hKc := hK.sub (tys' := []) [] rfl
  refine pci (va_runS (As := [.int (nI p0)]) (rest := []) ⟨hx, hb, hml, hown, hg⟩ (c_X_widthOf l D tw p0 hp) (va_cwS 1 hg (gS gw_319 gw_320 gw_1 gw_321) rfl rfl rfl (by decide +kernel) ⟨Nat.le_of_ble_eq_true rfl, Nat.le_of_ble_eq_true rfl⟩) ⟨fun a U g mk q => by obtain ⟨q0, qP, qK, qX⟩ := q; exact ⟨q0, qP, va_K.moved (u := U) (U := U.calling g mk a) (Vm.Alike.refl U.vm) qK, qX.blind⟩, fun U hU hW => ⟨rfl, by rw [hU]; exact hPc, va_K.moved hW.alike hKc, hE.call hS noF hU hW⟩⟩ rfl rfl hl.1 rfl (lv_room (Nat.le_of_ble_eq_true rfl)) d_X_takeBrokenRun_1 (⟨Nat.le_of_ble_eq_true rfl, Nat.le_of_ble_eq_true rfl⟩)) ?_
  refine lv_istore (lv' := [(5, .int (nI (wdt p0))), (0, .ref x), (1, .int (nI on)), (2, .int (nI p0)), (3, .int (nI lf)), (4, .int (nI rs))]) hx hb d_X_takeBrokenRun_4 hl (by decide) rfl (fun ls hl => ?_)
  refine lv_iload_n hx hb d_X_takeBrokenRun_6 rfl (lv_at hl 2 rfl) ?_
  refine lv_iconst (v := 1) hx hb d_X_takeBrokenRun_7 (by decide) ?_
  refine lv_iadd hx hb d_X_takeBrokenRun_8 ?_
  refine tpi (y := nI (on + 1)) (nI_1 on) ?_
  refine lv_iload hx hb d_X_takeBrokenRun_9 (lv_at hl 0 rfl) ?_
  refine lv_iadd hx hb d_X_takeBrokenRun_11 ?_
  refine tpi (y := nI (on + 1 + wdt p0)) (nI_add _ _) ?_
  refine lv_istore (lv' := [(6, .int (nI (on + 1 + wdt p0))), (5, .int (nI (wdt p0))), (0, .ref x), (1, .int (nI on)), (2, .int (nI p0)), (3, .int (nI lf)), (4, .int (nI rs))]) hx hb d_X_takeBrokenRun_12 hl (by decide) rfl (fun ls hl => ?_)
  refine lv_iload hx hb d_X_takeBrokenRun_14 (lv_at hl 0 rfl) ?_
  refine lv_aload_n hx hb d_X_takeBrokenRun_16 rfl (lv_at hl 2 rfl) ?_
  refine va_get (D := D) (ci := 4) (v := .ref bq) (C := R_X) (T := T_X) (N := 10) hx hb hg in_X hown hK hP 0 rfl rfl 8 (by decide) (hg _ gw_124) (fun _ h9 => h9) rfl d_X_takeBrokenRun_17 ?_
  refine va_getN (D := D) (ci := 0) (v := .int (nI h)) (C := R_Q) (T := T_Q) (N := 3) hx hb hg in_Q hown hK hP 2 rfl rfl 2 (by decide) (va_Nw.use rfl (hE.nw nw_46)) (fun _ h9 => h9) rfl d_X_takeBrokenRun_20 ?_
  refine lv_icmp_le (tgt := 28) hx hb d_X_takeBrokenRun_23 (by decide) (fun c_1 => ?_) (fun c_1 => ?_)
  · skip
    exact absurd ((nI_leI (by omega) (by omega)).mp c_1) (by omega)
  · skip
    refine lv_iconst (v := (-1)) hx hb d_X_takeBrokenRun_26 (by decide) ?_
    exact W.iret (v := (-1)) hx hb hr (fun t ht hW => ⟨rfl, by rw [ht]; exact hP, (hAe ▸ hS).F ht⟩) (hAe ▸ hS).2.2 d_X_takeBrokenRun_27
set_option maxHeartbeats 4000000 in
set_option maxRecDepth 100000 in
theorem c_X_takeBrokenRunN (l : Launch) (D : va_G) (x sw sr br bq bi ne li sp q : Nat) (lb : Int32) (e0 e1 pl rw : Nat) (qa : Nat) (cB : ClassId) (fi h : Nat) (g : Nat → Int32) (tw on p0 lf rs : Nat) (hf : fi < 1000) (hh : h ≤ 1000) (hp : p0 < 32) (hon : on < 2 ^ 20) (hw : on + 1 + wdt p0 ≤ h) (hmr : ¬ bnum (qb g fi h) (on + 1) (wdt p0) < nI rs) : Met l y_X_takeBrokenRun (WSY y_X_takeBrokenRun b_X_takeBrokenRun 8 (some .int)) ({ frames := 4, cells := 0, slots := 0, locals := 90 }) (va_Pc [.ref x, .int (nI on), .int (nI p0), .int (nI lf), .int (nI rs)] (fun U => va_P D CLS [(x, .inr (4, [.int (nI bi), .int (nI ne), .int (nI li), .int (nI sp), .int (nI q), .ref sw, .ref sr, .ref br, .ref bq, .int lb])), (sr, .inr (3, [.ref e0, .ref e1, .int (nI pl), .int (nI rw)])), (bq, .inr (0, [.ref qa, .int (nI fi), .int (nI h)])), (qa, .inl (cB, 1000, .inl g))] U.heap ∧ va_K D CLS [(cB, .byte)] U ∧ va_D (fun _ => True) [(x, .inr (4, [.int (nI bi), .int (nI ne), .int (nI li), .int (nI sp), .int (nI q), .ref sw, .ref sr, .ref br, .ref bq, .int lb])), (sr, .inr (3, [.ref e0, .ref e1, .int (nI pl), .int (nI rw)])), (bq, .inr (0, [.ref qa, .int (nI fi), .int (nI h)])), (qa, .inl (cB, 1000, .inl g))] ∧ EV (ad [(x, .inr (4, [.int (nI bi), .int (nI ne), .int (nI li), .int (nI sp), .int (nI q), .ref sw, .ref sr, .ref br, .ref bq, .int lb])), (sr, .inr (3, [.ref e0, .ref e1, .int (nI pl), .int (nI rw)])), (bq, .inr (0, [.ref qa, .int (nI fi), .int (nI h)])), (qa, .inl (cB, 1000, .inl g))]) tw U)) (QM (some (.int (-2))) [(x, .inr (4, [.int (nI bi), .int (nI ne), .int (nI li), .int (nI sp), .int (nI q), .ref sw, .ref sr, .ref br, .ref bq, .int lb])), (sr, .inr (3, [.ref e0, .ref e1, .int (nI pl), .int (nI rw)])), (bq, .inr (0, [.ref qa, .int (nI fi), .int (nI h)])), (qa, .inl (cB, 1000, .inl g))] [(x, .inr (4, [.int (nI bi), .int (nI ne), .int (nI li), .int (nI sp), .int (nI q), .ref sw, .ref sr, .ref br, .ref bq, .int lb])), (sr, .inr (3, [.ref e0, .ref e1, .int (nI pl), .int (nI rw)])), (bq, .inr (0, [.ref qa, .int (nI (rpl fi (on + 1 + wdt p0))), .int (nI (h - (on + 1 + wdt p0)))])), (qa, .inl (cB, 1000, .inl g))] D) 0 0 (ad [(x, .inr (4, [.int (nI bi), .int (nI ne), .int (nI li), .int (nI sp), .int (nI q), .ref sw, .ref sr, .ref br, .ref bq, .int lb])), (sr, .inr (3, [.ref e0, .ref e1, .int (nI pl), .int (nI rw)])), (bq, .inr (0, [.ref qa, .int (nI fi), .int (nI h)])), (qa, .inl (cB, 1000, .inl g))]) := by
  refine Met.ofW (cc := b_X_takeBrokenRun) (maxL := 8) (ret := (some .int)) (by decide) rfl ?_
  intro p e s m args below meth c s₁ B hml hv
  obtain ⟨rfl, hP, hK, hD0, hE⟩ := hv
  have hx := B.exec
  have hb := B.bytes
  have hr := B.returns
  have hts := atoms_spec (ws := WSY y_X_takeBrokenRun b_X_takeBrokenRun 8 (some .int)) B.pre
  have hg : ∀ w ∈ GW, w.before _ s = true := fun w h => hts w (List.mem_cons_of_mem _ h)
  have hown : s.vm.findClass "LineGolomb" = some m.cls := findClass_of_methodNamed B.named
  have hlocks := B.notSynchronized
  obtain ⟨A, hAe⟩ : ∃ A, A = ad [(x, .inr (4, [.int (nI bi), .int (nI ne), .int (nI li), .int (nI sp), .int (nI q), .ref sw, .ref sr, .ref br, .ref bq, .int lb])), (sr, .inr (3, [.ref e0, .ref e1, .int (nI pl), .int (nI rw)])), (bq, .inr (0, [.ref qa, .int (nI fi), .int (nI h)])), (qa, .inl (cB, 1000, .inl g))] := ⟨_, rfl⟩
  have hD : va_D A [(x, .inr (4, [.int (nI bi), .int (nI ne), .int (nI li), .int (nI sp), .int (nI q), .ref sw, .ref sr, .ref br, .ref bq, .int lb])), (sr, .inr (3, [.ref e0, .ref e1, .int (nI pl), .int (nI rw)])), (bq, .inr (0, [.ref qa, .int (nI fi), .int (nI h)])), (qa, .inl (cB, 1000, .inl g))] := by rw [hAe]; exact va_D_ad hD0
  have hS : va_S A s.heap s.heap [] := va_S.rf
  rw [← hAe] at hE
  have hl := lv_entry ([.ref x, .int (nI on), .int (nI p0), .int (nI lf), .int (nI rs)]) (n := 8) (Nat.le_of_ble_eq_true rfl)
  rw [lg_entry_eq]
  generalize (lg_sl ([.ref x, .int (nI on), .int (nI p0), .int (nI lf), .int (nI rs)]) ++ List.replicate (8 - (lg_sl ([.ref x, .int (nI on), .int (nI p0), .int (nI lf), .int (nI rs)])).length) Slot.unset).toArray = ls at hl ⊢
  have hl : lv_has ls 8 [(0, .ref x), (1, .int (nI on)), (2, .int (nI p0)), (3, .int (nI lf)), (4, .int (nI rs))] := hl
  have hwd := wdt_le p0 hp
  refine lv_iload_n hx hb d_X_takeBrokenRun_0 rfl (lv_at hl 2 rfl) ?_
  have hPc := hP.sub (ws' := []) [] rfl
  have hKc := hK.sub (tys' := []) [] rfl
  refine pci (va_runS (As := [.int (nI p0)]) (rest := []) ⟨hx, hb, hml, hown, hg⟩ (c_X_widthOf l D tw p0 hp) (va_cwS 1 hg (gS gw_319 gw_320 gw_1 gw_321) rfl rfl rfl (by decide +kernel) ⟨Nat.le_of_ble_eq_true rfl, Nat.le_of_ble_eq_true rfl⟩) ⟨fun a U g mk q => by obtain ⟨q0, qP, qK, qX⟩ := q; exact ⟨q0, qP, va_K.moved (u := U) (U := U.calling g mk a) (Vm.Alike.refl U.vm) qK, qX.blind⟩, fun U hU hW => ⟨rfl, by rw [hU]; exact hPc, va_K.moved hW.alike hKc, hE.call hS noF hU hW⟩⟩ rfl rfl hl.1 rfl (lv_room (Nat.le_of_ble_eq_true rfl)) d_X_takeBrokenRun_1 (⟨Nat.le_of_ble_eq_true rfl, Nat.le_of_ble_eq_true rfl⟩)) ?_
  refine lv_istore (lv' := [(5, .int (nI (wdt p0))), (0, .ref x), (1, .int (nI on)), (2, .int (nI p0)), (3, .int (nI lf)), (4, .int (nI rs))]) hx hb d_X_takeBrokenRun_4 hl (by decide) rfl (fun ls hl => ?_)
  refine lv_iload_n hx hb d_X_takeBrokenRun_6 rfl (lv_at hl 2 rfl) ?_
  refine lv_iconst (v := 1) hx hb d_X_takeBrokenRun_7 (by decide) ?_
  refine lv_iadd hx hb d_X_takeBrokenRun_8 ?_
  refine tpi (y := nI (on + 1)) (nI_1 on) ?_
  refine lv_iload hx hb d_X_takeBrokenRun_9 (lv_at hl 0 rfl) ?_
  refine lv_iadd hx hb d_X_takeBrokenRun_11 ?_
  refine tpi (y := nI (on + 1 + wdt p0)) (nI_add _ _) ?_
  refine lv_istore (lv' := [(6, .int (nI (on + 1 + wdt p0))), (5, .int (nI (wdt p0))), (0, .ref x), (1, .int (nI on)), (2, .int (nI p0)), (3, .int (nI lf)), (4, .int (nI rs))]) hx hb d_X_takeBrokenRun_12 hl (by decide) rfl (fun ls hl => ?_)
  refine lv_iload hx hb d_X_takeBrokenRun_14 (lv_at hl 0 rfl) ?_
  refine lv_aload_n hx hb d_X_takeBrokenRun_16 rfl (lv_at hl 2 rfl) ?_
  refine va_get (D := D) (ci := 4) (v := .ref bq) (C := R_X) (T := T_X) (N := 10) hx hb hg in_X hown hK hP 0 rfl rfl 8 (by decide) (hg _ gw_124) (fun _ h9 => h9) rfl d_X_takeBrokenRun_17 ?_
  refine va_getN (D := D) (ci := 0) (v := .int (nI h)) (C := R_Q) (T := T_Q) (N := 3) hx hb hg in_Q hown hK hP 2 rfl rfl 2 (by decide) (va_Nw.use rfl (hE.nw nw_46)) (fun _ h9 => h9) rfl d_X_takeBrokenRun_20 ?_
  refine lv_icmp_le (tgt := 28) hx hb d_X_takeBrokenRun_23 (by decide) (fun c_1 => ?_) (fun c_1 => ?_)
  · skip
    refine lv_aload_n hx hb d_X_takeBrokenRun_28 rfl (lv_at hl 2 rfl) ?_
    refine va_get (D := D) (ci := 4) (v := .ref bq) (C := R_X) (T := T_X) (N := 10) hx hb hg in_X hown hK hP 0 rfl rfl 8 (by decide) (hg _ gw_124) (fun _ h9 => h9) rfl d_X_takeBrokenRun_29 ?_
    refine lv_iload_n hx hb d_X_takeBrokenRun_32 rfl (lv_at hl 3 rfl) ?_
    refine lv_iconst (v := 1) hx hb d_X_takeBrokenRun_33 (by decide) ?_
    refine lv_iadd hx hb d_X_takeBrokenRun_34 ?_
    refine tpi (y := nI (on + 1)) (nI_1 on) ?_
    refine lv_iload hx hb d_X_takeBrokenRun_35 (lv_at hl 1 rfl) ?_
    have hPc := hP.sub (ws' := [(bq, .inr (0, [.ref qa, .int (nI fi), .int (nI h)])), (qa, .inl (cB, 1000, .inl g))]) [2, 3] rfl
    have hKc := hK.sub (tys' := [(cB, .byte)]) [0] rfl
    refine pci (va_runV (As := [.int (nI (on + 1)), .int (nI (wdt p0))]) (rest := []) ⟨hx, hb, hml, hown, hg⟩ (c_Q_lookNumber l D bq qa cB fi h g (on + 1) (wdt p0) hf hh (by omega) (by omega)) (cwV 2 hg (gV gw_449 gw_450 gw_451 gw_3 gw_452) rfl rfl rfl (by decide +kernel) ⟨Nat.le_of_ble_eq_true rfl, Nat.le_of_ble_eq_true rfl⟩) ⟨fun a U g mk q => by obtain ⟨q0, qP, qK⟩ := q; exact ⟨q0, qP, va_K.moved (u := U) (U := U.calling g mk a) (Vm.Alike.refl U.vm) qK⟩, va_recv hKc hPc (ci := 0) (q0 := 0) rfl rfl, fun U hU hW => ⟨rfl, by rw [hU]; exact hPc, va_K.moved hW.alike hKc⟩⟩ rfl rfl hl.1 rfl (lv_room (Nat.le_of_ble_eq_true rfl)) d_X_takeBrokenRun_37 (⟨Nat.le_of_ble_eq_true rfl, Nat.le_of_ble_eq_true rfl⟩)) ?_
    refine lv_istore (lv' := [(7, .int (bnum (qb g fi h) (on + 1) (wdt p0))), (6, .int (nI (on + 1 + wdt p0))), (5, .int (nI (wdt p0))), (0, .ref x), (1, .int (nI on)), (2, .int (nI p0)), (3, .int (nI lf)), (4, .int (nI rs))]) hx hb d_X_takeBrokenRun_40 hl (by decide) rfl (fun ls hl => ?_)
    refine lv_aload_n hx hb d_X_takeBrokenRun_42 rfl (lv_at hl 3 rfl) ?_
    refine va_get (D := D) (ci := 4) (v := .ref bq) (C := R_X) (T := T_X) (N := 10) hx hb hg in_X hown hK hP 0 rfl rfl 8 (by decide) (hg _ gw_124) (fun _ h9 => h9) rfl d_X_takeBrokenRun_43 ?_
    refine lv_iload hx hb d_X_takeBrokenRun_46 (lv_at hl 1 rfl) ?_
    have hPc := hP.sub (ws' := [(bq, .inr (0, [.ref qa, .int (nI fi), .int (nI h)])), (qa, .inl (cB, 1000, .inl g))]) [2, 3] rfl
    have hDc := hD.sub (ws' := [(bq, .inr (0, [.ref qa, .int (nI fi), .int (nI h)])), (qa, .inl (cB, 1000, .inl g))]) [2, 3] (by decide) rfl
    have hKc := hK.sub (tys' := [(cB, .byte)]) [0] rfl
    refine mcv (va_runV (As := [.int (nI (on + 1 + wdt p0))]) (rest := []) ⟨hx, hb, hml, hown, hg⟩ (c_Q_drop l D bq qa cB fi h g (on + 1 + wdt p0) hf hh (by omega)) (cwV 1 hg (gV gw_175 gw_176 gw_177 gw_3 gw_178) rfl rfl rfl (by decide +kernel) ⟨Nat.le_of_ble_eq_true rfl, Nat.le_of_ble_eq_true rfl⟩) ⟨fun a U g mk q => by obtain ⟨q0, qP, qK, qD⟩ := q; exact ⟨q0, qP, va_K.moved (u := U) (U := U.calling g mk a) (Vm.Alike.refl U.vm) qK, qD⟩, va_recv hKc hPc (ci := 0) (q0 := 0) rfl rfl, fun U hU hW => ⟨rfl, by rw [hU]; exact hPc, va_K.moved hW.alike hKc, hDc.weaken (fun _ _ _ _ => trivial)⟩⟩ rfl rfl hl.1 rfl (lv_room (Nat.le_of_ble_eq_true rfl)) d_X_takeBrokenRun_48 (⟨Nat.le_of_ble_eq_true rfl, Nat.le_of_ble_eq_true rfl⟩)) hS hP hD [2, 3] rfl rfl rfl (fun H locs hP hD hS => ?_)
    have hP : va_P D CLS [(x, .inr (4, [.int (nI bi), .int (nI ne), .int (nI li), .int (nI sp), .int (nI q), .ref sw, .ref sr, .ref br, .ref bq, .int lb])), (sr, .inr (3, [.ref e0, .ref e1, .int (nI pl), .int (nI rw)])), (bq, .inr (0, [.ref qa, .int (nI (rpl fi (on + 1 + wdt p0))), .int (nI (h - (on + 1 + wdt p0)))])), (qa, .inl (cB, 1000, .inl g))] H := hP
    have hD : va_D A [(x, .inr (4, [.int (nI bi), .int (nI ne), .int (nI li), .int (nI sp), .int (nI q), .ref sw, .ref sr, .ref br, .ref bq, .int lb])), (sr, .inr (3, [.ref e0, .ref e1, .int (nI pl), .int (nI rw)])), (bq, .inr (0, [.ref qa, .int (nI (rpl fi (on + 1 + wdt p0))), .int (nI (h - (on + 1 + wdt p0)))])), (qa, .inl (cB, 1000, .inl g))] := hD
    refine lv_iload hx hb d_X_takeBrokenRun_51 (lv_at hl 0 rfl) ?_
    refine lv_iload hx hb d_X_takeBrokenRun_53 (lv_at hl 7 rfl) ?_
    refine lv_icmp_lt (tgt := 61) hx hb d_X_takeBrokenRun_55 (by decide) (fun c_2 => ?_) (fun c_2 => ?_)
    · skip
      exact absurd c_2 hmr
    · skip
      refine lv_bipush (v := (-2)) hx hb d_X_takeBrokenRun_58 (by decide) ?_
      exact W.iret (v := (-2)) hx hb hr (fun t ht hW => ⟨rfl, by rw [ht]; exact hP, (hAe ▸ hS).F ht⟩) (hAe ▸ hS).2.2 d_X_takeBrokenRun_60
  · skip
    exact absurd ((nI_leI (by omega) (by omega)).mpr (by omega)) c_1
set_option maxHeartbeats 4000000 in
set_option maxRecDepth 100000 in
theorem c_X_takeBrokenRunG (l : Launch) (D : va_G) (x sw sr br bq bi ne li sp q : Nat) (lb : Int32) (e0 e1 pl rw : Nat) (qa : Nat) (cB : ClassId) (fi h : Nat) (g : Nat → Int32) (tw on p0 lf rs : Nat) (hf : fi < 1000) (hh : h ≤ 1000) (hp : p0 < 32) (hon : on < 2 ^ 20) (hw : on + 1 + wdt p0 ≤ h) (hmr : bnum (qb g fi h) (on + 1) (wdt p0) < nI rs) : Met l y_X_takeBrokenRun (WSY y_X_takeBrokenRun b_X_takeBrokenRun 8 (some .int)) ({ frames := 4, cells := 0, slots := 0, locals := 90 }) (va_Pc [.ref x, .int (nI on), .int (nI p0), .int (nI lf), .int (nI rs)] (fun U => va_P D CLS [(x, .inr (4, [.int (nI bi), .int (nI ne), .int (nI li), .int (nI sp), .int (nI q), .ref sw, .ref sr, .ref br, .ref bq, .int lb])), (sr, .inr (3, [.ref e0, .ref e1, .int (nI pl), .int (nI rw)])), (bq, .inr (0, [.ref qa, .int (nI fi), .int (nI h)])), (qa, .inl (cB, 1000, .inl g))] U.heap ∧ va_K D CLS [(cB, .byte)] U ∧ va_D (fun _ => True) [(x, .inr (4, [.int (nI bi), .int (nI ne), .int (nI li), .int (nI sp), .int (nI q), .ref sw, .ref sr, .ref br, .ref bq, .int lb])), (sr, .inr (3, [.ref e0, .ref e1, .int (nI pl), .int (nI rw)])), (bq, .inr (0, [.ref qa, .int (nI fi), .int (nI h)])), (qa, .inl (cB, 1000, .inl g))] ∧ EV (ad [(x, .inr (4, [.int (nI bi), .int (nI ne), .int (nI li), .int (nI sp), .int (nI q), .ref sw, .ref sr, .ref br, .ref bq, .int lb])), (sr, .inr (3, [.ref e0, .ref e1, .int (nI pl), .int (nI rw)])), (bq, .inr (0, [.ref qa, .int (nI fi), .int (nI h)])), (qa, .inl (cB, 1000, .inl g))]) tw U)) (QM (some (.int (nI lf - nI rs + bnum (qb g fi h) (on + 1) (wdt p0)))) [(x, .inr (4, [.int (nI bi), .int (nI ne), .int (nI li), .int (nI sp), .int (nI q), .ref sw, .ref sr, .ref br, .ref bq, .int lb])), (sr, .inr (3, [.ref e0, .ref e1, .int (nI pl), .int (nI rw)])), (bq, .inr (0, [.ref qa, .int (nI fi), .int (nI h)])), (qa, .inl (cB, 1000, .inl g))] [(x, .inr (4, [.int (nI bi), .int (nI ne), .int (nI li), .int (nI sp), .int (nI q), .ref sw, .ref sr, .ref br, .ref bq, .int 1])), (sr, .inr (3, [.ref e0, .ref e1, .int (nI (p0 - 1)), .int (nI (wdt p0))])), (bq, .inr (0, [.ref qa, .int (nI (rpl fi (on + 1 + wdt p0))), .int (nI (h - (on + 1 + wdt p0)))])), (qa, .inl (cB, 1000, .inl g))] D) 0 0 (ad [(x, .inr (4, [.int (nI bi), .int (nI ne), .int (nI li), .int (nI sp), .int (nI q), .ref sw, .ref sr, .ref br, .ref bq, .int lb])), (sr, .inr (3, [.ref e0, .ref e1, .int (nI pl), .int (nI rw)])), (bq, .inr (0, [.ref qa, .int (nI fi), .int (nI h)])), (qa, .inl (cB, 1000, .inl g))]) := by
  refine Met.ofW (cc := b_X_takeBrokenRun) (maxL := 8) (ret := (some .int)) (by decide) rfl ?_
  intro p e s m args below meth c s₁ B hml hv
  obtain ⟨rfl, hP, hK, hD0, hE⟩ := hv
  have hx := B.exec
  have hb := B.bytes
  have hr := B.returns
  have hts := atoms_spec (ws := WSY y_X_takeBrokenRun b_X_takeBrokenRun 8 (some .int)) B.pre
  have hg : ∀ w ∈ GW, w.before _ s = true := fun w h => hts w (List.mem_cons_of_mem _ h)
  have hown : s.vm.findClass "LineGolomb" = some m.cls := findClass_of_methodNamed B.named
  have hlocks := B.notSynchronized
  obtain ⟨A, hAe⟩ : ∃ A, A = ad [(x, .inr (4, [.int (nI bi), .int (nI ne), .int (nI li), .int (nI sp), .int (nI q), .ref sw, .ref sr, .ref br, .ref bq, .int lb])), (sr, .inr (3, [.ref e0, .ref e1, .int (nI pl), .int (nI rw)])), (bq, .inr (0, [.ref qa, .int (nI fi), .int (nI h)])), (qa, .inl (cB, 1000, .inl g))] := ⟨_, rfl⟩
  have hD : va_D A [(x, .inr (4, [.int (nI bi), .int (nI ne), .int (nI li), .int (nI sp), .int (nI q), .ref sw, .ref sr, .ref br, .ref bq, .int lb])), (sr, .inr (3, [.ref e0, .ref e1, .int (nI pl), .int (nI rw)])), (bq, .inr (0, [.ref qa, .int (nI fi), .int (nI h)])), (qa, .inl (cB, 1000, .inl g))] := by rw [hAe]; exact va_D_ad hD0
  have hS : va_S A s.heap s.heap [] := va_S.rf
  rw [← hAe] at hE
  have hl := lv_entry ([.ref x, .int (nI on), .int (nI p0), .int (nI lf), .int (nI rs)]) (n := 8) (Nat.le_of_ble_eq_true rfl)
  rw [lg_entry_eq]
  generalize (lg_sl ([.ref x, .int (nI on), .int (nI p0), .int (nI lf), .int (nI rs)]) ++ List.replicate (8 - (lg_sl ([.ref x, .int (nI on), .int (nI p0), .int (nI lf), .int (nI rs)])).length) Slot.unset).toArray = ls at hl ⊢
  have hl : lv_has ls 8 [(0, .ref x), (1, .int (nI on)), (2, .int (nI p0)), (3, .int (nI lf)), (4, .int (nI rs))] := hl
  have hwd := wdt_le p0 hp
  refine lv_iload_n hx hb d_X_takeBrokenRun_0 rfl (lv_at hl 2 rfl) ?_
  have hPc := hP.sub (ws' := []) [] rfl
  have hKc := hK.sub (tys' := []) [] rfl
  refine pci (va_runS (As := [.int (nI p0)]) (rest := []) ⟨hx, hb, hml, hown, hg⟩ (c_X_widthOf l D tw p0 hp) (va_cwS 1 hg (gS gw_319 gw_320 gw_1 gw_321) rfl rfl rfl (by decide +kernel) ⟨Nat.le_of_ble_eq_true rfl, Nat.le_of_ble_eq_true rfl⟩) ⟨fun a U g mk q => by obtain ⟨q0, qP, qK, qX⟩ := q; exact ⟨q0, qP, va_K.moved (u := U) (U := U.calling g mk a) (Vm.Alike.refl U.vm) qK, qX.blind⟩, fun U hU hW => ⟨rfl, by rw [hU]; exact hPc, va_K.moved hW.alike hKc, hE.call hS noF hU hW⟩⟩ rfl rfl hl.1 rfl (lv_room (Nat.le_of_ble_eq_true rfl)) d_X_takeBrokenRun_1 (⟨Nat.le_of_ble_eq_true rfl, Nat.le_of_ble_eq_true rfl⟩)) ?_
  refine lv_istore (lv' := [(5, .int (nI (wdt p0))), (0, .ref x), (1, .int (nI on)), (2, .int (nI p0)), (3, .int (nI lf)), (4, .int (nI rs))]) hx hb d_X_takeBrokenRun_4 hl (by decide) rfl (fun ls hl => ?_)
  refine lv_iload_n hx hb d_X_takeBrokenRun_6 rfl (lv_at hl 2 rfl) ?_
  refine lv_iconst (v := 1) hx hb d_X_takeBrokenRun_7 (by decide) ?_
  refine lv_iadd hx hb d_X_takeBrokenRun_8 ?_
  refine tpi (y := nI (on + 1)) (nI_1 on) ?_
  refine lv_iload hx hb d_X_takeBrokenRun_9 (lv_at hl 0 rfl) ?_
  refine lv_iadd hx hb d_X_takeBrokenRun_11 ?_
  refine tpi (y := nI (on + 1 + wdt p0)) (nI_add _ _) ?_
  refine lv_istore (lv' := [(6, .int (nI (on + 1 + wdt p0))), (5, .int (nI (wdt p0))), (0, .ref x), (1, .int (nI on)), (2, .int (nI p0)), (3, .int (nI lf)), (4, .int (nI rs))]) hx hb d_X_takeBrokenRun_12 hl (by decide) rfl (fun ls hl => ?_)
  refine lv_iload hx hb d_X_takeBrokenRun_14 (lv_at hl 0 rfl) ?_
  refine lv_aload_n hx hb d_X_takeBrokenRun_16 rfl (lv_at hl 2 rfl) ?_
  refine va_get (D := D) (ci := 4) (v := .ref bq) (C := R_X) (T := T_X) (N := 10) hx hb hg in_X hown hK hP 0 rfl rfl 8 (by decide) (hg _ gw_124) (fun _ h9 => h9) rfl d_X_takeBrokenRun_17 ?_
  refine va_getN (D := D) (ci := 0) (v := .int (nI h)) (C := R_Q) (T := T_Q) (N := 3) hx hb hg in_Q hown hK hP 2 rfl rfl 2 (by decide) (va_Nw.use rfl (hE.nw nw_46)) (fun _ h9 => h9) rfl d_X_takeBrokenRun_20 ?_
  refine lv_icmp_le (tgt := 28) hx hb d_X_takeBrokenRun_23 (by decide) (fun c_1 => ?_) (fun c_1 => ?_)
  · skip
    refine lv_aload_n hx hb d_X_takeBrokenRun_28 rfl (lv_at hl 2 rfl) ?_
    refine va_get (D := D) (ci := 4) (v := .ref bq) (C := R_X) (T := T_X) (N := 10) hx hb hg in_X hown hK hP 0 rfl rfl 8 (by decide) (hg _ gw_124) (fun _ h9 => h9) rfl d_X_takeBrokenRun_29 ?_
    refine lv_iload_n hx hb d_X_takeBrokenRun_32 rfl (lv_at hl 3 rfl) ?_
    refine lv_iconst (v := 1) hx hb d_X_takeBrokenRun_33 (by decide) ?_
    refine lv_iadd hx hb d_X_takeBrokenRun_34 ?_
    refine tpi (y := nI (on + 1)) (nI_1 on) ?_
    refine lv_iload hx hb d_X_takeBrokenRun_35 (lv_at hl 1 rfl) ?_
    have hPc := hP.sub (ws' := [(bq, .inr (0, [.ref qa, .int (nI fi), .int (nI h)])), (qa, .inl (cB, 1000, .inl g))]) [2, 3] rfl
    have hKc := hK.sub (tys' := [(cB, .byte)]) [0] rfl
    refine pci (va_runV (As := [.int (nI (on + 1)), .int (nI (wdt p0))]) (rest := []) ⟨hx, hb, hml, hown, hg⟩ (c_Q_lookNumber l D bq qa cB fi h g (on + 1) (wdt p0) hf hh (by omega) (by omega)) (cwV 2 hg (gV gw_449 gw_450 gw_451 gw_3 gw_452) rfl rfl rfl (by decide +kernel) ⟨Nat.le_of_ble_eq_true rfl, Nat.le_of_ble_eq_true rfl⟩) ⟨fun a U g mk q => by obtain ⟨q0, qP, qK⟩ := q; exact ⟨q0, qP, va_K.moved (u := U) (U := U.calling g mk a) (Vm.Alike.refl U.vm) qK⟩, va_recv hKc hPc (ci := 0) (q0 := 0) rfl rfl, fun U hU hW => ⟨rfl, by rw [hU]; exact hPc, va_K.moved hW.alike hKc⟩⟩ rfl rfl hl.1 rfl (lv_room (Nat.le_of_ble_eq_true rfl)) d_X_takeBrokenRun_37 (⟨Nat.le_of_ble_eq_true rfl, Nat.le_of_ble_eq_true rfl⟩)) ?_
    refine lv_istore (lv' := [(7, .int (bnum (qb g fi h) (on + 1) (wdt p0))), (6, .int (nI (on + 1 + wdt p0))), (5, .int (nI (wdt p0))), (0, .ref x), (1, .int (nI on)), (2, .int (nI p0)), (3, .int (nI lf)), (4, .int (nI rs))]) hx hb d_X_takeBrokenRun_40 hl (by decide) rfl (fun ls hl => ?_)
    refine lv_aload_n hx hb d_X_takeBrokenRun_42 rfl (lv_at hl 3 rfl) ?_
    refine va_get (D := D) (ci := 4) (v := .ref bq) (C := R_X) (T := T_X) (N := 10) hx hb hg in_X hown hK hP 0 rfl rfl 8 (by decide) (hg _ gw_124) (fun _ h9 => h9) rfl d_X_takeBrokenRun_43 ?_
    refine lv_iload hx hb d_X_takeBrokenRun_46 (lv_at hl 1 rfl) ?_
    have hPc := hP.sub (ws' := [(bq, .inr (0, [.ref qa, .int (nI fi), .int (nI h)])), (qa, .inl (cB, 1000, .inl g))]) [2, 3] rfl
    have hDc := hD.sub (ws' := [(bq, .inr (0, [.ref qa, .int (nI fi), .int (nI h)])), (qa, .inl (cB, 1000, .inl g))]) [2, 3] (by decide) rfl
    have hKc := hK.sub (tys' := [(cB, .byte)]) [0] rfl
    refine mcv (va_runV (As := [.int (nI (on + 1 + wdt p0))]) (rest := []) ⟨hx, hb, hml, hown, hg⟩ (c_Q_drop l D bq qa cB fi h g (on + 1 + wdt p0) hf hh (by omega)) (cwV 1 hg (gV gw_175 gw_176 gw_177 gw_3 gw_178) rfl rfl rfl (by decide +kernel) ⟨Nat.le_of_ble_eq_true rfl, Nat.le_of_ble_eq_true rfl⟩) ⟨fun a U g mk q => by obtain ⟨q0, qP, qK, qD⟩ := q; exact ⟨q0, qP, va_K.moved (u := U) (U := U.calling g mk a) (Vm.Alike.refl U.vm) qK, qD⟩, va_recv hKc hPc (ci := 0) (q0 := 0) rfl rfl, fun U hU hW => ⟨rfl, by rw [hU]; exact hPc, va_K.moved hW.alike hKc, hDc.weaken (fun _ _ _ _ => trivial)⟩⟩ rfl rfl hl.1 rfl (lv_room (Nat.le_of_ble_eq_true rfl)) d_X_takeBrokenRun_48 (⟨Nat.le_of_ble_eq_true rfl, Nat.le_of_ble_eq_true rfl⟩)) hS hP hD [2, 3] rfl rfl rfl (fun H locs hP hD hS => ?_)
    have hP : va_P D CLS [(x, .inr (4, [.int (nI bi), .int (nI ne), .int (nI li), .int (nI sp), .int (nI q), .ref sw, .ref sr, .ref br, .ref bq, .int lb])), (sr, .inr (3, [.ref e0, .ref e1, .int (nI pl), .int (nI rw)])), (bq, .inr (0, [.ref qa, .int (nI (rpl fi (on + 1 + wdt p0))), .int (nI (h - (on + 1 + wdt p0)))])), (qa, .inl (cB, 1000, .inl g))] H := hP
    have hD : va_D A [(x, .inr (4, [.int (nI bi), .int (nI ne), .int (nI li), .int (nI sp), .int (nI q), .ref sw, .ref sr, .ref br, .ref bq, .int lb])), (sr, .inr (3, [.ref e0, .ref e1, .int (nI pl), .int (nI rw)])), (bq, .inr (0, [.ref qa, .int (nI (rpl fi (on + 1 + wdt p0))), .int (nI (h - (on + 1 + wdt p0)))])), (qa, .inl (cB, 1000, .inl g))] := hD
    refine lv_iload hx hb d_X_takeBrokenRun_51 (lv_at hl 0 rfl) ?_
    refine lv_iload hx hb d_X_takeBrokenRun_53 (lv_at hl 7 rfl) ?_
    refine lv_icmp_lt (tgt := 61) hx hb d_X_takeBrokenRun_55 (by decide) (fun c_2 => ?_) (fun c_2 => ?_)
    · skip
      refine lv_aload_n hx hb d_X_takeBrokenRun_61 rfl (lv_at hl 3 rfl) ?_
      refine lv_iload_n hx hb d_X_takeBrokenRun_62 rfl (lv_at hl 5 rfl) ?_
      refine lv_iconst (v := 1) hx hb d_X_takeBrokenRun_63 (by decide) ?_
      have hPc := hP.sub (ws' := [(x, .inr (4, [.int (nI bi), .int (nI ne), .int (nI li), .int (nI sp), .int (nI q), .ref sw, .ref sr, .ref br, .ref bq, .int lb])), (sr, .inr (3, [.ref e0, .ref e1, .int (nI pl), .int (nI rw)]))]) [0, 1] rfl
      have hDc := hD.sub (ws' := [(x, .inr (4, [.int (nI bi), .int (nI ne), .int (nI li), .int (nI sp), .int (nI q), .ref sw, .ref sr, .ref br, .ref bq, .int lb])), (sr, .inr (3, [.ref e0, .ref e1, .int (nI pl), .int (nI rw)]))]) [0, 1] (by decide) rfl
      have hKc := hK.sub (tys' := []) [] rfl
      refine mcv (va_runV (As := [.int (nI p0), .int 1]) (rest := []) ⟨hx, hb, hml, hown, hg⟩ (c_X_endReadRun1 l D x sw sr br bq bi ne li sp q lb e0 e1 pl rw tw p0 hp) (cwV 2 hg (gV gw_466 gw_468 gs_11 gw_1 gw_469) rfl rfl rfl (by decide +kernel) ⟨Nat.le_of_ble_eq_true rfl, Nat.le_of_ble_eq_true rfl⟩) ⟨fun a U g mk q => by obtain ⟨q0, qP, qK, qD, qX⟩ := q; exact ⟨q0, qP, va_K.moved (u := U) (U := U.calling g mk a) (Vm.Alike.refl U.vm) qK, qD, qX.blind⟩, va_recv hKc hPc (ci := 4) (q0 := 0) rfl rfl, fun U hU hW => ⟨rfl, by rw [hU]; exact hPc, va_K.moved hW.alike hKc, hDc.weaken (fun _ _ _ _ => trivial), hE.call hS (ad_sub hD [0, 1] rfl) hU hW⟩⟩ rfl rfl hl.1 rfl (lv_room (Nat.le_of_ble_eq_true rfl)) d_X_takeBrokenRun_64 (⟨Nat.le_of_ble_eq_true rfl, Nat.le_of_ble_eq_true rfl⟩)) hS hP hD [0, 1] rfl rfl rfl (fun H locs hP hD hS => ?_)
      have hP : va_P D CLS [(x, .inr (4, [.int (nI bi), .int (nI ne), .int (nI li), .int (nI sp), .int (nI q), .ref sw, .ref sr, .ref br, .ref bq, .int 1])), (sr, .inr (3, [.ref e0, .ref e1, .int (nI (p0 - 1)), .int (nI (wdt p0))])), (bq, .inr (0, [.ref qa, .int (nI (rpl fi (on + 1 + wdt p0))), .int (nI (h - (on + 1 + wdt p0)))])), (qa, .inl (cB, 1000, .inl g))] H := hP
      have hD : va_D A [(x, .inr (4, [.int (nI bi), .int (nI ne), .int (nI li), .int (nI sp), .int (nI q), .ref sw, .ref sr, .ref br, .ref bq, .int 1])), (sr, .inr (3, [.ref e0, .ref e1, .int (nI (p0 - 1)), .int (nI (wdt p0))])), (bq, .inr (0, [.ref qa, .int (nI (rpl fi (on + 1 + wdt p0))), .int (nI (h - (on + 1 + wdt p0)))])), (qa, .inl (cB, 1000, .inl g))] := hD
      refine lv_iload_n hx hb d_X_takeBrokenRun_67 rfl (lv_at hl 6 rfl) ?_
      refine lv_iload hx hb d_X_takeBrokenRun_68 (lv_at hl 7 rfl) ?_
      refine lv_isub hx hb d_X_takeBrokenRun_70 ?_
      refine lv_iload hx hb d_X_takeBrokenRun_71 (lv_at hl 0 rfl) ?_
      refine lv_iadd hx hb d_X_takeBrokenRun_73 ?_
      exact W.iret (v := ((nI lf) - (nI rs)) + (bnum (qb g fi h) (on + 1) (wdt p0))) hx hb hr (fun t ht hW => ⟨rfl, by rw [ht]; exact hP, (hAe ▸ hS).F ht⟩) (hAe ▸ hS).2.2 d_X_takeBrokenRun_74
    · skip
      exact absurd hmr c_2
  · skip
    exact absurd ((nI_leI (by omega) (by omega)).mpr (by omega)) c_1
