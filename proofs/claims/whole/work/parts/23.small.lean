/-! Ends.numberOf, errorOf; Side; the small methods of LineGolomb -/
set_option maxHeartbeats 4000000 in
set_option maxRecDepth 100000 in
theorem c_E_numberOf0P (l : Launch) (D : va_G) (h0 : Nat) (fs sm ct ng : Nat) (n K : Nat) (hc0 : ct ≤ 64) (hn0 : ng ≤ 64) (hKb : K ≤ 29) (hn : n < 2 ^ 29) : Met l y_E_numberOf (WSY y_E_numberOf b_E_numberOf 4 (some .int)) ({ frames := 1, cells := 0, slots := 0, locals := 21 }) (va_Pc [.ref h0, .int (nI n), .int (nI K)] (fun U => va_P D CLS [(h0, .inr (2, [.int 0, .int (nI fs), .int (nI sm), .int (nI ct), .int (nI ng)]))] U.heap ∧ va_K D CLS [] U)) (QR (some (.int (nI (2 * n - 0 - (if ¬ n = 0 ∧ (K = 0 ∧ 2 * ng < ct) then 1 else 0)))))) 0 0 (fun _ => False) := by
  refine Met.ofW (cc := b_E_numberOf) (maxL := 4) (ret := (some .int)) (by decide) rfl ?_
  intro p e s m args below meth c s₁ B hml hv
  obtain ⟨rfl, hP, hK⟩ := hv
  have hx := B.exec
  have hb := B.bytes
  have hr := B.returns
  have hts := atoms_spec (ws := WSY y_E_numberOf b_E_numberOf 4 (some .int)) B.pre
  have hg : ∀ w ∈ GW, w.before _ s = true := fun w h => hts w (List.mem_cons_of_mem _ h)
  have hown : s.vm.findClass "LineGolomb$Ends" = some m.cls := findClass_of_methodNamed B.named
  have hlocks := B.notSynchronized
  have hS : va_S (fun _ => False) s.heap s.heap [] := va_S.rf
  have hl := lv_entry ([.ref h0, .int (nI n), .int (nI K)]) (n := 4) (Nat.le_of_ble_eq_true rfl)
  rw [lg_entry_eq]
  generalize (lg_sl ([.ref h0, .int (nI n), .int (nI K)]) ++ List.replicate (4 - (lg_sl ([.ref h0, .int (nI n), .int (nI K)])).length) Slot.unset).toArray = ls at hl ⊢
  have hl : lv_has ls 4 [(0, .ref h0), (1, .int (nI n)), (2, .int (nI K))] := hl
  refine lv_iload_n hx hb d_E_numberOf_0 rfl (lv_at hl 1 rfl) ?_
  refine lv_if_eq (tgt := 25) hx hb d_E_numberOf_1 (by decide) (fun c_1 => ?_) (fun c_1 => ?_)
  · skip
    have hz : n = 0 := (nI_eq (b := 0) (by omega) (by omega)).mp c_1
    refine lv_iconst (v := 0) hx hb d_E_numberOf_25 (by decide) ?_
    refine lv_istore_n (lv' := [(3, .int 0), (0, .ref h0), (1, .int (nI n)), (2, .int (nI K))]) hx hb d_E_numberOf_26 rfl hl (by decide) rfl (fun ls hl => ?_)
    refine lv_iconst (v := 2) hx hb d_E_numberOf_27 (by decide) ?_
    refine lv_iload_n hx hb d_E_numberOf_28 rfl (lv_at hl 2 rfl) ?_
    refine va_mabs hx hb (hml.trans hl.1.symm) hown (hg _ gw_383) (hg _ gw_384) (hg _ gw_4) (hg _ gw_385) (Nat.le_of_ble_eq_true rfl) (Nat.le_of_ble_eq_true rfl) (Nat.le_of_ble_eq_true rfl) (Nat.le_of_ble_eq_true rfl) d_E_numberOf_29 ?_
    refine tpi (y := nI n) (absP (by omega)) ?_
    refine lv_imul hx hb d_E_numberOf_32 ?_
    refine tpi (y := nI (2 * n)) (mul2 n) ?_
    refine lv_aload_n hx hb d_E_numberOf_33 rfl (lv_at hl 1 rfl) ?_
    refine va_get (D := D) (ci := 2) (v := .int 0) (C := R_E) (T := T_E) (N := 5) hx hb hg in_E hown hK hP 0 rfl rfl 0 (by decide) (hg _ gw_82) (fun _ h9 => h9) rfl d_E_numberOf_34 ?_
    refine lv_isub hx hb d_E_numberOf_37 ?_
    refine tpi (y := nI (2 * n - 0)) (pk_sub (b := 0) (by omega)) ?_
    refine lv_iload_n hx hb d_E_numberOf_38 rfl (lv_at hl 0 rfl) ?_
    refine lv_if_eq (tgt := 46) hx hb d_E_numberOf_39 (by decide) (fun c_2 => ?_) (fun c_2 => ?_)
    · skip
      refine lv_iconst (v := 0) hx hb d_E_numberOf_46 (by decide) ?_
      refine lv_isub hx hb d_E_numberOf_47 ?_
      refine tpi (y := nI (2 * n - 0 - (if ¬ n = 0 ∧ (K = 0 ∧ 2 * ng < ct) then 1 else 0))) (by rw [if_neg (fun z => z.1 hz)]; exact pk_sub (b := 0) (by omega)) ?_
      exact W.iret (v := nI (2 * n - 0 - (if ¬ n = 0 ∧ (K = 0 ∧ 2 * ng < ct) then 1 else 0))) hx hb hr (fun t ht hW => ⟨rfl, ht⟩) (fun q h => by cases h) d_E_numberOf_48
    · skip
      exact absurd rfl c_2
  · skip
    have hn1 : 0 < n := Nat.pos_of_ne_zero (fun z => c_1 (by rw [z]; rfl))
    refine lv_iload_n hx hb d_E_numberOf_4 rfl (lv_at hl 1 rfl) ?_
    refine lv_if_le (tgt := 12) hx hb d_E_numberOf_5 (by decide) (fun c_3 => ?_) (fun c_3 => ?_)
    · skip
      exact absurd c_3 (nI_nle hn1 (by omega))
    · skip
      refine lv_iconst (v := 1) hx hb d_E_numberOf_8 (by decide) ?_
      refine lv_goto (tgt := 13) hx hb d_E_numberOf_9 (by decide) ?_
      refine lv_aload_n hx hb d_E_numberOf_13 rfl (lv_at hl 0 rfl) ?_
      refine lv_iload_n hx hb d_E_numberOf_14 rfl (lv_at hl 2 rfl) ?_
      have hPc := hP.sub (ws' := [(h0, .inr (2, [.int 0, .int (nI fs), .int (nI sm), .int (nI ct), .int (nI ng)]))]) [0] rfl
      have hKc := hK.sub (tys' := []) [] rfl
      refine pci (va_runV (As := [.int (nI K)]) (rest := [.int 1]) ⟨hx, hb, hml, hown, hg⟩ (c_E_flags0 l D h0 fs sm ct ng K hc0 hn0 hKb) (cwV 1 hg (gV gw_379 gw_381 gs_7 gw_6 gw_382) rfl rfl rfl (by decide +kernel) ⟨Nat.le_of_ble_eq_true rfl, Nat.le_of_ble_eq_true rfl⟩) ⟨fun a U g mk q => by obtain ⟨q0, qP, qK⟩ := q; exact ⟨q0, qP, va_K.moved (u := U) (U := U.calling g mk a) (Vm.Alike.refl U.vm) qK⟩, va_recv hKc hPc (ci := 2) (q0 := 0) rfl rfl, fun U hU hW => ⟨rfl, by rw [hU]; exact hPc, va_K.moved hW.alike hKc⟩⟩ rfl rfl hl.1 rfl (lv_room (Nat.le_of_ble_eq_true rfl)) d_E_numberOf_15 (⟨Nat.le_of_ble_eq_true rfl, Nat.le_of_ble_eq_true rfl⟩)) ?_
      refine lv_icmp_ne (tgt := 25) hx hb d_E_numberOf_18 (by decide) (fun c_4 => ?_) (fun c_4 => ?_)
      · skip
        have hu : ¬ (K = 0 ∧ 2 * ng < ct) := fun z => c_4 (by rw [if_pos z])
        refine lv_iconst (v := 0) hx hb d_E_numberOf_25 (by decide) ?_
        refine lv_istore_n (lv' := [(3, .int 0), (0, .ref h0), (1, .int (nI n)), (2, .int (nI K))]) hx hb d_E_numberOf_26 rfl hl (by decide) rfl (fun ls hl => ?_)
        refine lv_iconst (v := 2) hx hb d_E_numberOf_27 (by decide) ?_
        refine lv_iload_n hx hb d_E_numberOf_28 rfl (lv_at hl 2 rfl) ?_
        refine va_mabs hx hb (hml.trans hl.1.symm) hown (hg _ gw_383) (hg _ gw_384) (hg _ gw_4) (hg _ gw_385) (Nat.le_of_ble_eq_true rfl) (Nat.le_of_ble_eq_true rfl) (Nat.le_of_ble_eq_true rfl) (Nat.le_of_ble_eq_true rfl) d_E_numberOf_29 ?_
        refine tpi (y := nI n) (absP (by omega)) ?_
        refine lv_imul hx hb d_E_numberOf_32 ?_
        refine tpi (y := nI (2 * n)) (mul2 n) ?_
        refine lv_aload_n hx hb d_E_numberOf_33 rfl (lv_at hl 1 rfl) ?_
        refine va_get (D := D) (ci := 2) (v := .int 0) (C := R_E) (T := T_E) (N := 5) hx hb hg in_E hown hK hP 0 rfl rfl 0 (by decide) (hg _ gw_82) (fun _ h9 => h9) rfl d_E_numberOf_34 ?_
        refine lv_isub hx hb d_E_numberOf_37 ?_
        refine tpi (y := nI (2 * n - 0)) (pk_sub (b := 0) (by omega)) ?_
        refine lv_iload_n hx hb d_E_numberOf_38 rfl (lv_at hl 0 rfl) ?_
        refine lv_if_eq (tgt := 46) hx hb d_E_numberOf_39 (by decide) (fun c_5 => ?_) (fun c_5 => ?_)
        · skip
          refine lv_iconst (v := 0) hx hb d_E_numberOf_46 (by decide) ?_
          refine lv_isub hx hb d_E_numberOf_47 ?_
          refine tpi (y := nI (2 * n - 0 - (if ¬ n = 0 ∧ (K = 0 ∧ 2 * ng < ct) then 1 else 0))) (by rw [if_neg (fun z => hu z.2)]; exact pk_sub (b := 0) (by omega)) ?_
          exact W.iret (v := nI (2 * n - 0 - (if ¬ n = 0 ∧ (K = 0 ∧ 2 * ng < ct) then 1 else 0))) hx hb hr (fun t ht hW => ⟨rfl, ht⟩) (fun q h => by cases h) d_E_numberOf_48
        · skip
          exact absurd rfl c_5
      · skip
        have hu : (K = 0 ∧ 2 * ng < ct) := Classical.byContradiction fun z => by rw [if_neg z] at c_4; exact absurd c_4 (by decide)
        refine lv_iconst (v := 1) hx hb d_E_numberOf_21 (by decide) ?_
        refine lv_goto (tgt := 26) hx hb d_E_numberOf_22 (by decide) ?_
        refine lv_istore_n (lv' := [(3, .int 1), (0, .ref h0), (1, .int (nI n)), (2, .int (nI K))]) hx hb d_E_numberOf_26 rfl hl (by decide) rfl (fun ls hl => ?_)
        refine lv_iconst (v := 2) hx hb d_E_numberOf_27 (by decide) ?_
        refine lv_iload_n hx hb d_E_numberOf_28 rfl (lv_at hl 2 rfl) ?_
        refine va_mabs hx hb (hml.trans hl.1.symm) hown (hg _ gw_383) (hg _ gw_384) (hg _ gw_4) (hg _ gw_385) (Nat.le_of_ble_eq_true rfl) (Nat.le_of_ble_eq_true rfl) (Nat.le_of_ble_eq_true rfl) (Nat.le_of_ble_eq_true rfl) d_E_numberOf_29 ?_
        refine tpi (y := nI n) (absP (by omega)) ?_
        refine lv_imul hx hb d_E_numberOf_32 ?_
        refine tpi (y := nI (2 * n)) (mul2 n) ?_
        refine lv_aload_n hx hb d_E_numberOf_33 rfl (lv_at hl 1 rfl) ?_
        refine va_get (D := D) (ci := 2) (v := .int 0) (C := R_E) (T := T_E) (N := 5) hx hb hg in_E hown hK hP 0 rfl rfl 0 (by decide) (hg _ gw_82) (fun _ h9 => h9) rfl d_E_numberOf_34 ?_
        refine lv_isub hx hb d_E_numberOf_37 ?_
        refine tpi (y := nI (2 * n - 0)) (pk_sub (b := 0) (by omega)) ?_
        refine lv_iload_n hx hb d_E_numberOf_38 rfl (lv_at hl 0 rfl) ?_
        refine lv_if_eq (tgt := 46) hx hb d_E_numberOf_39 (by decide) (fun c_6 => ?_) (fun c_6 => ?_)
        · skip
          exact absurd c_6 (by decide)
        · skip
          refine lv_iconst (v := 1) hx hb d_E_numberOf_42 (by decide) ?_
          refine lv_goto (tgt := 47) hx hb d_E_numberOf_43 (by decide) ?_
          refine lv_isub hx hb d_E_numberOf_47 ?_
          refine tpi (y := nI (2 * n - 0 - (if ¬ n = 0 ∧ (K = 0 ∧ 2 * ng < ct) then 1 else 0))) (by rw [if_pos ⟨by omega, hu⟩]; exact pk_sub (b := 1) (by omega)) ?_
          exact W.iret (v := nI (2 * n - 0 - (if ¬ n = 0 ∧ (K = 0 ∧ 2 * ng < ct) then 1 else 0))) hx hb hr (fun t ht hW => ⟨rfl, ht⟩) (fun q h => by cases h) d_E_numberOf_48
set_option maxHeartbeats 4000000 in
set_option maxRecDepth 100000 in
theorem c_E_numberOf0N (l : Launch) (D : va_G) (h0 : Nat) (fs sm ct ng : Nat) (n K : Nat) (hc0 : ct ≤ 64) (hn0 : ng ≤ 64) (hKb : K ≤ 29) (hn : n < 2 ^ 29) (hn1 : 0 < n) : Met l y_E_numberOf (WSY y_E_numberOf b_E_numberOf 4 (some .int)) ({ frames := 1, cells := 0, slots := 0, locals := 21 }) (va_Pc [.ref h0, .int (-nI n), .int (nI K)] (fun U => va_P D CLS [(h0, .inr (2, [.int 0, .int (nI fs), .int (nI sm), .int (nI ct), .int (nI ng)]))] U.heap ∧ va_K D CLS [] U)) (QR (some (.int (nI (2 * n - 0 - (if (K = 0 ∧ 2 * ng < ct) then 0 else 1)))))) 0 0 (fun _ => False) := by
  refine Met.ofW (cc := b_E_numberOf) (maxL := 4) (ret := (some .int)) (by decide) rfl ?_
  intro p e s m args below meth c s₁ B hml hv
  obtain ⟨rfl, hP, hK⟩ := hv
  have hx := B.exec
  have hb := B.bytes
  have hr := B.returns
  have hts := atoms_spec (ws := WSY y_E_numberOf b_E_numberOf 4 (some .int)) B.pre
  have hg : ∀ w ∈ GW, w.before _ s = true := fun w h => hts w (List.mem_cons_of_mem _ h)
  have hown : s.vm.findClass "LineGolomb$Ends" = some m.cls := findClass_of_methodNamed B.named
  have hlocks := B.notSynchronized
  have hS : va_S (fun _ => False) s.heap s.heap [] := va_S.rf
  have hl := lv_entry ([.ref h0, .int (-nI n), .int (nI K)]) (n := 4) (Nat.le_of_ble_eq_true rfl)
  rw [lg_entry_eq]
  generalize (lg_sl ([.ref h0, .int (-nI n), .int (nI K)]) ++ List.replicate (4 - (lg_sl ([.ref h0, .int (-nI n), .int (nI K)])).length) Slot.unset).toArray = ls at hl ⊢
  have hl : lv_has ls 4 [(0, .ref h0), (1, .int (-nI n)), (2, .int (nI K))] := hl
  refine lv_iload_n hx hb d_E_numberOf_0 rfl (lv_at hl 1 rfl) ?_
  refine lv_if_eq (tgt := 25) hx hb d_E_numberOf_1 (by decide) (fun c_1 => ?_) (fun c_1 => ?_)
  · skip
    exact absurd c_1 (by rw [eqT, ngT (by omega), zT]; omega)
  · skip
    refine lv_iload_n hx hb d_E_numberOf_4 rfl (lv_at hl 1 rfl) ?_
    refine lv_if_le (tgt := 12) hx hb d_E_numberOf_5 (by decide) (fun c_2 => ?_) (fun c_2 => ?_)
    · skip
      refine lv_iconst (v := 0) hx hb d_E_numberOf_12 (by decide) ?_
      refine lv_aload_n hx hb d_E_numberOf_13 rfl (lv_at hl 0 rfl) ?_
      refine lv_iload_n hx hb d_E_numberOf_14 rfl (lv_at hl 2 rfl) ?_
      have hPc := hP.sub (ws' := [(h0, .inr (2, [.int 0, .int (nI fs), .int (nI sm), .int (nI ct), .int (nI ng)]))]) [0] rfl
      have hKc := hK.sub (tys' := []) [] rfl
      refine pci (va_runV (As := [.int (nI K)]) (rest := [.int 0]) ⟨hx, hb, hml, hown, hg⟩ (c_E_flags0 l D h0 fs sm ct ng K hc0 hn0 hKb) (cwV 1 hg (gV gw_379 gw_381 gs_7 gw_6 gw_382) rfl rfl rfl (by decide +kernel) ⟨Nat.le_of_ble_eq_true rfl, Nat.le_of_ble_eq_true rfl⟩) ⟨fun a U g mk q => by obtain ⟨q0, qP, qK⟩ := q; exact ⟨q0, qP, va_K.moved (u := U) (U := U.calling g mk a) (Vm.Alike.refl U.vm) qK⟩, va_recv hKc hPc (ci := 2) (q0 := 0) rfl rfl, fun U hU hW => ⟨rfl, by rw [hU]; exact hPc, va_K.moved hW.alike hKc⟩⟩ rfl rfl hl.1 rfl (lv_room (Nat.le_of_ble_eq_true rfl)) d_E_numberOf_15 (⟨Nat.le_of_ble_eq_true rfl, Nat.le_of_ble_eq_true rfl⟩)) ?_
      refine lv_icmp_ne (tgt := 25) hx hb d_E_numberOf_18 (by decide) (fun c_3 => ?_) (fun c_3 => ?_)
      · skip
        have hu : (K = 0 ∧ 2 * ng < ct) := Classical.byContradiction fun z => c_3 (by rw [if_neg z])
        refine lv_iconst (v := 0) hx hb d_E_numberOf_25 (by decide) ?_
        refine lv_istore_n (lv' := [(3, .int 0), (0, .ref h0), (1, .int (-nI n)), (2, .int (nI K))]) hx hb d_E_numberOf_26 rfl hl (by decide) rfl (fun ls hl => ?_)
        refine lv_iconst (v := 2) hx hb d_E_numberOf_27 (by decide) ?_
        refine lv_iload_n hx hb d_E_numberOf_28 rfl (lv_at hl 2 rfl) ?_
        refine va_mabs hx hb (hml.trans hl.1.symm) hown (hg _ gw_383) (hg _ gw_384) (hg _ gw_4) (hg _ gw_385) (Nat.le_of_ble_eq_true rfl) (Nat.le_of_ble_eq_true rfl) (Nat.le_of_ble_eq_true rfl) (Nat.le_of_ble_eq_true rfl) d_E_numberOf_29 ?_
        refine tpi (y := nI n) (absN hn1 (by omega)) ?_
        refine lv_imul hx hb d_E_numberOf_32 ?_
        refine tpi (y := nI (2 * n)) (mul2 n) ?_
        refine lv_aload_n hx hb d_E_numberOf_33 rfl (lv_at hl 1 rfl) ?_
        refine va_get (D := D) (ci := 2) (v := .int 0) (C := R_E) (T := T_E) (N := 5) hx hb hg in_E hown hK hP 0 rfl rfl 0 (by decide) (hg _ gw_82) (fun _ h9 => h9) rfl d_E_numberOf_34 ?_
        refine lv_isub hx hb d_E_numberOf_37 ?_
        refine tpi (y := nI (2 * n - 0)) (pk_sub (b := 0) (by omega)) ?_
        refine lv_iload_n hx hb d_E_numberOf_38 rfl (lv_at hl 0 rfl) ?_
        refine lv_if_eq (tgt := 46) hx hb d_E_numberOf_39 (by decide) (fun c_4 => ?_) (fun c_4 => ?_)
        · skip
          refine lv_iconst (v := 0) hx hb d_E_numberOf_46 (by decide) ?_
          refine lv_isub hx hb d_E_numberOf_47 ?_
          refine tpi (y := nI (2 * n - 0 - (if (K = 0 ∧ 2 * ng < ct) then 0 else 1))) (by rw [if_pos hu]; exact pk_sub (b := 0) (by omega)) ?_
          exact W.iret (v := nI (2 * n - 0 - (if (K = 0 ∧ 2 * ng < ct) then 0 else 1))) hx hb hr (fun t ht hW => ⟨rfl, ht⟩) (fun q h => by cases h) d_E_numberOf_48
        · skip
          exact absurd rfl c_4
      · skip
        have hu : ¬ (K = 0 ∧ 2 * ng < ct) := fun z => by rw [if_pos z] at c_3; exact absurd c_3 (by decide)
        refine lv_iconst (v := 1) hx hb d_E_numberOf_21 (by decide) ?_
        refine lv_goto (tgt := 26) hx hb d_E_numberOf_22 (by decide) ?_
        refine lv_istore_n (lv' := [(3, .int 1), (0, .ref h0), (1, .int (-nI n)), (2, .int (nI K))]) hx hb d_E_numberOf_26 rfl hl (by decide) rfl (fun ls hl => ?_)
        refine lv_iconst (v := 2) hx hb d_E_numberOf_27 (by decide) ?_
        refine lv_iload_n hx hb d_E_numberOf_28 rfl (lv_at hl 2 rfl) ?_
        refine va_mabs hx hb (hml.trans hl.1.symm) hown (hg _ gw_383) (hg _ gw_384) (hg _ gw_4) (hg _ gw_385) (Nat.le_of_ble_eq_true rfl) (Nat.le_of_ble_eq_true rfl) (Nat.le_of_ble_eq_true rfl) (Nat.le_of_ble_eq_true rfl) d_E_numberOf_29 ?_
        refine tpi (y := nI n) (absN hn1 (by omega)) ?_
        refine lv_imul hx hb d_E_numberOf_32 ?_
        refine tpi (y := nI (2 * n)) (mul2 n) ?_
        refine lv_aload_n hx hb d_E_numberOf_33 rfl (lv_at hl 1 rfl) ?_
        refine va_get (D := D) (ci := 2) (v := .int 0) (C := R_E) (T := T_E) (N := 5) hx hb hg in_E hown hK hP 0 rfl rfl 0 (by decide) (hg _ gw_82) (fun _ h9 => h9) rfl d_E_numberOf_34 ?_
        refine lv_isub hx hb d_E_numberOf_37 ?_
        refine tpi (y := nI (2 * n - 0)) (pk_sub (b := 0) (by omega)) ?_
        refine lv_iload_n hx hb d_E_numberOf_38 rfl (lv_at hl 0 rfl) ?_
        refine lv_if_eq (tgt := 46) hx hb d_E_numberOf_39 (by decide) (fun c_5 => ?_) (fun c_5 => ?_)
        · skip
          exact absurd c_5 (by decide)
        · skip
          refine lv_iconst (v := 1) hx hb d_E_numberOf_42 (by decide) ?_
          refine lv_goto (tgt := 47) hx hb d_E_numberOf_43 (by decide) ?_
          refine lv_isub hx hb d_E_numberOf_47 ?_
          refine tpi (y := nI (2 * n - 0 - (if (K = 0 ∧ 2 * ng < ct) then 0 else 1))) (by rw [if_neg hu]; exact pk_sub (b := 1) (by omega)) ?_
          exact W.iret (v := nI (2 * n - 0 - (if (K = 0 ∧ 2 * ng < ct) then 0 else 1))) hx hb hr (fun t ht hW => ⟨rfl, ht⟩) (fun q h => by cases h) d_E_numberOf_48
    · skip
      exact absurd (by rw [leT, ngT (by omega), zT]; omega) c_2
set_option maxHeartbeats 4000000 in
set_option maxRecDepth 100000 in
theorem c_E_numberOf1P (l : Launch) (D : va_G) (h0 : Nat) (fs sm ct ng : Nat) (n K : Nat) (hc0 : ct ≤ 64) (hn0 : ng ≤ 64) (hKb : K ≤ 29) (hn : n < 2 ^ 29) (hn1 : 0 < n) : Met l y_E_numberOf (WSY y_E_numberOf b_E_numberOf 4 (some .int)) ({ frames := 1, cells := 0, slots := 0, locals := 21 }) (va_Pc [.ref h0, .int (nI n), .int (nI K)] (fun U => va_P D CLS [(h0, .inr (2, [.int 1, .int (nI fs), .int (nI sm), .int (nI ct), .int (nI ng)]))] U.heap ∧ va_K D CLS [] U)) (QR (some (.int (nI (2 * n - 1 - (if ¬ n = 0 ∧ (K = 0 ∧ 2 * ng < ct) then 1 else 0)))))) 0 0 (fun _ => False) := by
  refine Met.ofW (cc := b_E_numberOf) (maxL := 4) (ret := (some .int)) (by decide) rfl ?_
  intro p e s m args below meth c s₁ B hml hv
  obtain ⟨rfl, hP, hK⟩ := hv
  have hx := B.exec
  have hb := B.bytes
  have hr := B.returns
  have hts := atoms_spec (ws := WSY y_E_numberOf b_E_numberOf 4 (some .int)) B.pre
  have hg : ∀ w ∈ GW, w.before _ s = true := fun w h => hts w (List.mem_cons_of_mem _ h)
  have hown : s.vm.findClass "LineGolomb$Ends" = some m.cls := findClass_of_methodNamed B.named
  have hlocks := B.notSynchronized
  have hS : va_S (fun _ => False) s.heap s.heap [] := va_S.rf
  have hl := lv_entry ([.ref h0, .int (nI n), .int (nI K)]) (n := 4) (Nat.le_of_ble_eq_true rfl)
  rw [lg_entry_eq]
  generalize (lg_sl ([.ref h0, .int (nI n), .int (nI K)]) ++ List.replicate (4 - (lg_sl ([.ref h0, .int (nI n), .int (nI K)])).length) Slot.unset).toArray = ls at hl ⊢
  have hl : lv_has ls 4 [(0, .ref h0), (1, .int (nI n)), (2, .int (nI K))] := hl
  refine lv_iload_n hx hb d_E_numberOf_0 rfl (lv_at hl 1 rfl) ?_
  refine lv_if_eq (tgt := 25) hx hb d_E_numberOf_1 (by decide) (fun c_1 => ?_) (fun c_1 => ?_)
  · skip
    exact absurd c_1 (nI_ne0 hn1 (by omega))
  · skip
    refine lv_iload_n hx hb d_E_numberOf_4 rfl (lv_at hl 1 rfl) ?_
    refine lv_if_le (tgt := 12) hx hb d_E_numberOf_5 (by decide) (fun c_2 => ?_) (fun c_2 => ?_)
    · skip
      exact absurd c_2 (nI_nle hn1 (by omega))
    · skip
      refine lv_iconst (v := 1) hx hb d_E_numberOf_8 (by decide) ?_
      refine lv_goto (tgt := 13) hx hb d_E_numberOf_9 (by decide) ?_
      refine lv_aload_n hx hb d_E_numberOf_13 rfl (lv_at hl 0 rfl) ?_
      refine lv_iload_n hx hb d_E_numberOf_14 rfl (lv_at hl 2 rfl) ?_
      have hPc := hP.sub (ws' := [(h0, .inr (2, [.int 1, .int (nI fs), .int (nI sm), .int (nI ct), .int (nI ng)]))]) [0] rfl
      have hKc := hK.sub (tys' := []) [] rfl
      refine pci (va_runV (As := [.int (nI K)]) (rest := [.int 1]) ⟨hx, hb, hml, hown, hg⟩ (c_E_flags1 l D h0 fs sm ct ng K hc0 hn0 hKb) (cwV 1 hg (gV gw_379 gw_381 gs_7 gw_6 gw_382) rfl rfl rfl (by decide +kernel) ⟨Nat.le_of_ble_eq_true rfl, Nat.le_of_ble_eq_true rfl⟩) ⟨fun a U g mk q => by obtain ⟨q0, qP, qK⟩ := q; exact ⟨q0, qP, va_K.moved (u := U) (U := U.calling g mk a) (Vm.Alike.refl U.vm) qK⟩, va_recv hKc hPc (ci := 2) (q0 := 0) rfl rfl, fun U hU hW => ⟨rfl, by rw [hU]; exact hPc, va_K.moved hW.alike hKc⟩⟩ rfl rfl hl.1 rfl (lv_room (Nat.le_of_ble_eq_true rfl)) d_E_numberOf_15 (⟨Nat.le_of_ble_eq_true rfl, Nat.le_of_ble_eq_true rfl⟩)) ?_
      refine lv_icmp_ne (tgt := 25) hx hb d_E_numberOf_18 (by decide) (fun c_3 => ?_) (fun c_3 => ?_)
      · skip
        have hu : ¬ (K = 0 ∧ 2 * ng < ct) := fun z => c_3 (by rw [if_pos z])
        refine lv_iconst (v := 0) hx hb d_E_numberOf_25 (by decide) ?_
        refine lv_istore_n (lv' := [(3, .int 0), (0, .ref h0), (1, .int (nI n)), (2, .int (nI K))]) hx hb d_E_numberOf_26 rfl hl (by decide) rfl (fun ls hl => ?_)
        refine lv_iconst (v := 2) hx hb d_E_numberOf_27 (by decide) ?_
        refine lv_iload_n hx hb d_E_numberOf_28 rfl (lv_at hl 2 rfl) ?_
        refine va_mabs hx hb (hml.trans hl.1.symm) hown (hg _ gw_383) (hg _ gw_384) (hg _ gw_4) (hg _ gw_385) (Nat.le_of_ble_eq_true rfl) (Nat.le_of_ble_eq_true rfl) (Nat.le_of_ble_eq_true rfl) (Nat.le_of_ble_eq_true rfl) d_E_numberOf_29 ?_
        refine tpi (y := nI n) (absP (by omega)) ?_
        refine lv_imul hx hb d_E_numberOf_32 ?_
        refine tpi (y := nI (2 * n)) (mul2 n) ?_
        refine lv_aload_n hx hb d_E_numberOf_33 rfl (lv_at hl 1 rfl) ?_
        refine va_get (D := D) (ci := 2) (v := .int 1) (C := R_E) (T := T_E) (N := 5) hx hb hg in_E hown hK hP 0 rfl rfl 0 (by decide) (hg _ gw_82) (fun _ h9 => h9) rfl d_E_numberOf_34 ?_
        refine lv_isub hx hb d_E_numberOf_37 ?_
        refine tpi (y := nI (2 * n - 1)) (pk_sub (b := 1) (by omega)) ?_
        refine lv_iload_n hx hb d_E_numberOf_38 rfl (lv_at hl 0 rfl) ?_
        refine lv_if_eq (tgt := 46) hx hb d_E_numberOf_39 (by decide) (fun c_4 => ?_) (fun c_4 => ?_)
        · skip
          refine lv_iconst (v := 0) hx hb d_E_numberOf_46 (by decide) ?_
          refine lv_isub hx hb d_E_numberOf_47 ?_
          refine tpi (y := nI (2 * n - 1 - (if ¬ n = 0 ∧ (K = 0 ∧ 2 * ng < ct) then 1 else 0))) (by rw [if_neg (fun z => hu z.2)]; exact pk_sub (b := 0) (by omega)) ?_
          exact W.iret (v := nI (2 * n - 1 - (if ¬ n = 0 ∧ (K = 0 ∧ 2 * ng < ct) then 1 else 0))) hx hb hr (fun t ht hW => ⟨rfl, ht⟩) (fun q h => by cases h) d_E_numberOf_48
        · skip
          exact absurd rfl c_4
      · skip
        have hu : (K = 0 ∧ 2 * ng < ct) := Classical.byContradiction fun z => by rw [if_neg z] at c_3; exact absurd c_3 (by decide)
        refine lv_iconst (v := 1) hx hb d_E_numberOf_21 (by decide) ?_
        refine lv_goto (tgt := 26) hx hb d_E_numberOf_22 (by decide) ?_
        refine lv_istore_n (lv' := [(3, .int 1), (0, .ref h0), (1, .int (nI n)), (2, .int (nI K))]) hx hb d_E_numberOf_26 rfl hl (by decide) rfl (fun ls hl => ?_)
        refine lv_iconst (v := 2) hx hb d_E_numberOf_27 (by decide) ?_
        refine lv_iload_n hx hb d_E_numberOf_28 rfl (lv_at hl 2 rfl) ?_
        refine va_mabs hx hb (hml.trans hl.1.symm) hown (hg _ gw_383) (hg _ gw_384) (hg _ gw_4) (hg _ gw_385) (Nat.le_of_ble_eq_true rfl) (Nat.le_of_ble_eq_true rfl) (Nat.le_of_ble_eq_true rfl) (Nat.le_of_ble_eq_true rfl) d_E_numberOf_29 ?_
        refine tpi (y := nI n) (absP (by omega)) ?_
        refine lv_imul hx hb d_E_numberOf_32 ?_
        refine tpi (y := nI (2 * n)) (mul2 n) ?_
        refine lv_aload_n hx hb d_E_numberOf_33 rfl (lv_at hl 1 rfl) ?_
        refine va_get (D := D) (ci := 2) (v := .int 1) (C := R_E) (T := T_E) (N := 5) hx hb hg in_E hown hK hP 0 rfl rfl 0 (by decide) (hg _ gw_82) (fun _ h9 => h9) rfl d_E_numberOf_34 ?_
        refine lv_isub hx hb d_E_numberOf_37 ?_
        refine tpi (y := nI (2 * n - 1)) (pk_sub (b := 1) (by omega)) ?_
        refine lv_iload_n hx hb d_E_numberOf_38 rfl (lv_at hl 0 rfl) ?_
        refine lv_if_eq (tgt := 46) hx hb d_E_numberOf_39 (by decide) (fun c_5 => ?_) (fun c_5 => ?_)
        · skip
          exact absurd c_5 (by decide)
        · skip
          refine lv_iconst (v := 1) hx hb d_E_numberOf_42 (by decide) ?_
          refine lv_goto (tgt := 47) hx hb d_E_numberOf_43 (by decide) ?_
          refine lv_isub hx hb d_E_numberOf_47 ?_
          refine tpi (y := nI (2 * n - 1 - (if ¬ n = 0 ∧ (K = 0 ∧ 2 * ng < ct) then 1 else 0))) (by rw [if_pos ⟨by omega, hu⟩]; exact pk_sub (b := 1) (by omega)) ?_
          exact W.iret (v := nI (2 * n - 1 - (if ¬ n = 0 ∧ (K = 0 ∧ 2 * ng < ct) then 1 else 0))) hx hb hr (fun t ht hW => ⟨rfl, ht⟩) (fun q h => by cases h) d_E_numberOf_48
set_option maxHeartbeats 4000000 in
set_option maxRecDepth 100000 in
theorem c_E_numberOf1N (l : Launch) (D : va_G) (h0 : Nat) (fs sm ct ng : Nat) (n K : Nat) (hc0 : ct ≤ 64) (hn0 : ng ≤ 64) (hKb : K ≤ 29) (hn : n < 2 ^ 29) (hn1 : 0 < n) : Met l y_E_numberOf (WSY y_E_numberOf b_E_numberOf 4 (some .int)) ({ frames := 1, cells := 0, slots := 0, locals := 21 }) (va_Pc [.ref h0, .int (-nI n), .int (nI K)] (fun U => va_P D CLS [(h0, .inr (2, [.int 1, .int (nI fs), .int (nI sm), .int (nI ct), .int (nI ng)]))] U.heap ∧ va_K D CLS [] U)) (QR (some (.int (nI (2 * n - 1 - (if (K = 0 ∧ 2 * ng < ct) then 0 else 1)))))) 0 0 (fun _ => False) := by
  refine Met.ofW (cc := b_E_numberOf) (maxL := 4) (ret := (some .int)) (by decide) rfl ?_
  intro p e s m args below meth c s₁ B hml hv
  obtain ⟨rfl, hP, hK⟩ := hv
  have hx := B.exec
  have hb := B.bytes
  have hr := B.returns
  have hts := atoms_spec (ws := WSY y_E_numberOf b_E_numberOf 4 (some .int)) B.pre
  have hg : ∀ w ∈ GW, w.before _ s = true := fun w h => hts w (List.mem_cons_of_mem _ h)
  have hown : s.vm.findClass "LineGolomb$Ends" = some m.cls := findClass_of_methodNamed B.named
  have hlocks := B.notSynchronized
  have hS : va_S (fun _ => False) s.heap s.heap [] := va_S.rf
  have hl := lv_entry ([.ref h0, .int (-nI n), .int (nI K)]) (n := 4) (Nat.le_of_ble_eq_true rfl)
  rw [lg_entry_eq]
  generalize (lg_sl ([.ref h0, .int (-nI n), .int (nI K)]) ++ List.replicate (4 - (lg_sl ([.ref h0, .int (-nI n), .int (nI K)])).length) Slot.unset).toArray = ls at hl ⊢
  have hl : lv_has ls 4 [(0, .ref h0), (1, .int (-nI n)), (2, .int (nI K))] := hl
  refine lv_iload_n hx hb d_E_numberOf_0 rfl (lv_at hl 1 rfl) ?_
  refine lv_if_eq (tgt := 25) hx hb d_E_numberOf_1 (by decide) (fun c_1 => ?_) (fun c_1 => ?_)
  · skip
    exact absurd c_1 (by rw [eqT, ngT (by omega), zT]; omega)
  · skip
    refine lv_iload_n hx hb d_E_numberOf_4 rfl (lv_at hl 1 rfl) ?_
    refine lv_if_le (tgt := 12) hx hb d_E_numberOf_5 (by decide) (fun c_2 => ?_) (fun c_2 => ?_)
    · skip
      refine lv_iconst (v := 0) hx hb d_E_numberOf_12 (by decide) ?_
      refine lv_aload_n hx hb d_E_numberOf_13 rfl (lv_at hl 0 rfl) ?_
      refine lv_iload_n hx hb d_E_numberOf_14 rfl (lv_at hl 2 rfl) ?_
      have hPc := hP.sub (ws' := [(h0, .inr (2, [.int 1, .int (nI fs), .int (nI sm), .int (nI ct), .int (nI ng)]))]) [0] rfl
      have hKc := hK.sub (tys' := []) [] rfl
      refine pci (va_runV (As := [.int (nI K)]) (rest := [.int 0]) ⟨hx, hb, hml, hown, hg⟩ (c_E_flags1 l D h0 fs sm ct ng K hc0 hn0 hKb) (cwV 1 hg (gV gw_379 gw_381 gs_7 gw_6 gw_382) rfl rfl rfl (by decide +kernel) ⟨Nat.le_of_ble_eq_true rfl, Nat.le_of_ble_eq_true rfl⟩) ⟨fun a U g mk q => by obtain ⟨q0, qP, qK⟩ := q; exact ⟨q0, qP, va_K.moved (u := U) (U := U.calling g mk a) (Vm.Alike.refl U.vm) qK⟩, va_recv hKc hPc (ci := 2) (q0 := 0) rfl rfl, fun U hU hW => ⟨rfl, by rw [hU]; exact hPc, va_K.moved hW.alike hKc⟩⟩ rfl rfl hl.1 rfl (lv_room (Nat.le_of_ble_eq_true rfl)) d_E_numberOf_15 (⟨Nat.le_of_ble_eq_true rfl, Nat.le_of_ble_eq_true rfl⟩)) ?_
      refine lv_icmp_ne (tgt := 25) hx hb d_E_numberOf_18 (by decide) (fun c_3 => ?_) (fun c_3 => ?_)
      · skip
        have hu : (K = 0 ∧ 2 * ng < ct) := Classical.byContradiction fun z => c_3 (by rw [if_neg z])
        refine lv_iconst (v := 0) hx hb d_E_numberOf_25 (by decide) ?_
        refine lv_istore_n (lv' := [(3, .int 0), (0, .ref h0), (1, .int (-nI n)), (2, .int (nI K))]) hx hb d_E_numberOf_26 rfl hl (by decide) rfl (fun ls hl => ?_)
        refine lv_iconst (v := 2) hx hb d_E_numberOf_27 (by decide) ?_
        refine lv_iload_n hx hb d_E_numberOf_28 rfl (lv_at hl 2 rfl) ?_
        refine va_mabs hx hb (hml.trans hl.1.symm) hown (hg _ gw_383) (hg _ gw_384) (hg _ gw_4) (hg _ gw_385) (Nat.le_of_ble_eq_true rfl) (Nat.le_of_ble_eq_true rfl) (Nat.le_of_ble_eq_true rfl) (Nat.le_of_ble_eq_true rfl) d_E_numberOf_29 ?_
        refine tpi (y := nI n) (absN hn1 (by omega)) ?_
        refine lv_imul hx hb d_E_numberOf_32 ?_
        refine tpi (y := nI (2 * n)) (mul2 n) ?_
        refine lv_aload_n hx hb d_E_numberOf_33 rfl (lv_at hl 1 rfl) ?_
        refine va_get (D := D) (ci := 2) (v := .int 1) (C := R_E) (T := T_E) (N := 5) hx hb hg in_E hown hK hP 0 rfl rfl 0 (by decide) (hg _ gw_82) (fun _ h9 => h9) rfl d_E_numberOf_34 ?_
        refine lv_isub hx hb d_E_numberOf_37 ?_
        refine tpi (y := nI (2 * n - 1)) (pk_sub (b := 1) (by omega)) ?_
        refine lv_iload_n hx hb d_E_numberOf_38 rfl (lv_at hl 0 rfl) ?_
        refine lv_if_eq (tgt := 46) hx hb d_E_numberOf_39 (by decide) (fun c_4 => ?_) (fun c_4 => ?_)
        · skip
          refine lv_iconst (v := 0) hx hb d_E_numberOf_46 (by decide) ?_
          refine lv_isub hx hb d_E_numberOf_47 ?_
          refine tpi (y := nI (2 * n - 1 - (if (K = 0 ∧ 2 * ng < ct) then 0 else 1))) (by rw [if_pos hu]; exact pk_sub (b := 0) (by omega)) ?_
          exact W.iret (v := nI (2 * n - 1 - (if (K = 0 ∧ 2 * ng < ct) then 0 else 1))) hx hb hr (fun t ht hW => ⟨rfl, ht⟩) (fun q h => by cases h) d_E_numberOf_48
        · skip
          exact absurd rfl c_4
      · skip
        have hu : ¬ (K = 0 ∧ 2 * ng < ct) := fun z => by rw [if_pos z] at c_3; exact absurd c_3 (by decide)
        refine lv_iconst (v := 1) hx hb d_E_numberOf_21 (by decide) ?_
        refine lv_goto (tgt := 26) hx hb d_E_numberOf_22 (by decide) ?_
        refine lv_istore_n (lv' := [(3, .int 1), (0, .ref h0), (1, .int (-nI n)), (2, .int (nI K))]) hx hb d_E_numberOf_26 rfl hl (by decide) rfl (fun ls hl => ?_)
        refine lv_iconst (v := 2) hx hb d_E_numberOf_27 (by decide) ?_
        refine lv_iload_n hx hb d_E_numberOf_28 rfl (lv_at hl 2 rfl) ?_
        refine va_mabs hx hb (hml.trans hl.1.symm) hown (hg _ gw_383) (hg _ gw_384) (hg _ gw_4) (hg _ gw_385) (Nat.le_of_ble_eq_true rfl) (Nat.le_of_ble_eq_true rfl) (Nat.le_of_ble_eq_true rfl) (Nat.le_of_ble_eq_true rfl) d_E_numberOf_29 ?_
        refine tpi (y := nI n) (absN hn1 (by omega)) ?_
        refine lv_imul hx hb d_E_numberOf_32 ?_
        refine tpi (y := nI (2 * n)) (mul2 n) ?_
        refine lv_aload_n hx hb d_E_numberOf_33 rfl (lv_at hl 1 rfl) ?_
        refine va_get (D := D) (ci := 2) (v := .int 1) (C := R_E) (T := T_E) (N := 5) hx hb hg in_E hown hK hP 0 rfl rfl 0 (by decide) (hg _ gw_82) (fun _ h9 => h9) rfl d_E_numberOf_34 ?_
        refine lv_isub hx hb d_E_numberOf_37 ?_
        refine tpi (y := nI (2 * n - 1)) (pk_sub (b := 1) (by omega)) ?_
        refine lv_iload_n hx hb d_E_numberOf_38 rfl (lv_at hl 0 rfl) ?_
        refine lv_if_eq (tgt := 46) hx hb d_E_numberOf_39 (by decide) (fun c_5 => ?_) (fun c_5 => ?_)
        · skip
          exact absurd c_5 (by decide)
        · skip
          refine lv_iconst (v := 1) hx hb d_E_numberOf_42 (by decide) ?_
          refine lv_goto (tgt := 47) hx hb d_E_numberOf_43 (by decide) ?_
          refine lv_isub hx hb d_E_numberOf_47 ?_
          refine tpi (y := nI (2 * n - 1 - (if (K = 0 ∧ 2 * ng < ct) then 0 else 1))) (by rw [if_neg hu]; exact pk_sub (b := 1) (by omega)) ?_
          exact W.iret (v := nI (2 * n - 1 - (if (K = 0 ∧ 2 * ng < ct) then 0 else 1))) hx hb hr (fun t ht hW => ⟨rfl, ht⟩) (fun q h => by cases h) d_E_numberOf_48
    · skip
      exact absurd (by rw [leT, ngT (by omega), zT]; omega) c_2
set_option maxHeartbeats 4000000 in
set_option maxRecDepth 100000 in
theorem c_E_errorOf0 (l : Launch) (D : va_G) (h0 : Nat) (fs sm ct ng : Nat) (N K : Nat) (hc0 : ct ≤ 64) (hn0 : ng ≤ 64) (hKb : K ≤ 29) (hN : N < 2 ^ 30) : Met l y_E_errorOf (WSY y_E_errorOf b_E_errorOf 6 (some .int)) ({ frames := 1, cells := 0, slots := 0, locals := 21 }) (va_Pc [.ref h0, .int (nI N), .int (nI K)] (fun U => va_P D CLS [(h0, .inr (2, [.int 0, .int (nI fs), .int (nI sm), .int (nI ct), .int (nI ng)]))] U.heap ∧ va_K D CLS [] U)) (QR (some (.int (if ((N + 0) % 2 = 1 ↔ (K = 0 ∧ 2 * ng < ct)) then nI ((N + 0 + 1) / 2) else -nI ((N + 0 + 1) / 2))))) 0 0 (fun _ => False) := by
  refine Met.ofW (cc := b_E_errorOf) (maxL := 6) (ret := (some .int)) (by decide) rfl ?_
  intro p e s m args below meth c s₁ B hml hv
  obtain ⟨rfl, hP, hK⟩ := hv
  have hx := B.exec
  have hb := B.bytes
  have hr := B.returns
  have hts := atoms_spec (ws := WSY y_E_errorOf b_E_errorOf 6 (some .int)) B.pre
  have hg : ∀ w ∈ GW, w.before _ s = true := fun w h => hts w (List.mem_cons_of_mem _ h)
  have hown : s.vm.findClass "LineGolomb$Ends" = some m.cls := findClass_of_methodNamed B.named
  have hlocks := B.notSynchronized
  have hS : va_S (fun _ => False) s.heap s.heap [] := va_S.rf
  have hl := lv_entry ([.ref h0, .int (nI N), .int (nI K)]) (n := 6) (Nat.le_of_ble_eq_true rfl)
  rw [lg_entry_eq]
  generalize (lg_sl ([.ref h0, .int (nI N), .int (nI K)]) ++ List.replicate (6 - (lg_sl ([.ref h0, .int (nI N), .int (nI K)])).length) Slot.unset).toArray = ls at hl ⊢
  have hl : lv_has ls 6 [(0, .ref h0), (1, .int (nI N)), (2, .int (nI K))] := hl
  refine lv_iload_n hx hb d_E_errorOf_0 rfl (lv_at hl 1 rfl) ?_
  refine lv_aload_n hx hb d_E_errorOf_1 rfl (lv_at hl 0 rfl) ?_
  refine va_get (D := D) (ci := 2) (v := .int 0) (C := R_E) (T := T_E) (N := 5) hx hb hg in_E hown hK hP 0 rfl rfl 0 (by decide) (hg _ gw_82) (fun _ h9 => h9) rfl d_E_errorOf_2 ?_
  refine lv_iadd hx hb d_E_errorOf_5 ?_
  refine tpi (y := nI (N + 0)) (nI_add N 0) ?_
  refine lv_istore_n (lv' := [(3, .int (nI (N + 0))), (0, .ref h0), (1, .int (nI N)), (2, .int (nI K))]) hx hb d_E_errorOf_6 rfl hl (by decide) rfl (fun ls hl => ?_)
  refine lv_iload_n hx hb d_E_errorOf_7 rfl (lv_at hl 0 rfl) ?_
  refine lv_iconst (v := 2) hx hb d_E_errorOf_8 (by decide) ?_
  refine lv_irem hx hb d_E_errorOf_9 (by decide) ?_
  refine tpi (y := nI ((N + 0) % 2)) (rem2 (by omega)) ?_
  refine lv_if_eq (tgt := 17) hx hb d_E_errorOf_10 (by decide) (fun c_1 => ?_) (fun c_1 => ?_)
  · skip
    have ho : ¬ (N + 0) % 2 = 1 := by have := (nI_eq (b := 0) (by omega) (by omega)).mp c_1; omega
    refine lv_iconst (v := 0) hx hb d_E_errorOf_17 (by decide) ?_
    refine lv_istore (lv' := [(4, .int 0), (3, .int (nI (N + 0))), (0, .ref h0), (1, .int (nI N)), (2, .int (nI K))]) hx hb d_E_errorOf_18 hl (by decide) rfl (fun ls hl => ?_)
    refine lv_iload_n hx hb d_E_errorOf_20 rfl (lv_at hl 1 rfl) ?_
    refine lv_iconst (v := 1) hx hb d_E_errorOf_21 (by decide) ?_
    refine lv_iadd hx hb d_E_errorOf_22 ?_
    refine tpi (y := nI (N + 0 + 1)) (nI_1 _) ?_
    refine lv_iconst (v := 2) hx hb d_E_errorOf_23 (by decide) ?_
    refine lv_idiv hx hb d_E_errorOf_24 (by decide) ?_
    refine tpi (y := nI ((N + 0 + 1) / 2)) (div2 (by omega)) ?_
    refine lv_istore (lv' := [(5, .int (nI ((N + 0 + 1) / 2))), (4, .int 0), (3, .int (nI (N + 0))), (0, .ref h0), (1, .int (nI N)), (2, .int (nI K))]) hx hb d_E_errorOf_25 hl (by decide) rfl (fun ls hl => ?_)
    refine lv_iload hx hb d_E_errorOf_27 (lv_at hl 1 rfl) ?_
    refine lv_aload_n hx hb d_E_errorOf_29 rfl (lv_at hl 3 rfl) ?_
    refine lv_iload_n hx hb d_E_errorOf_30 rfl (lv_at hl 5 rfl) ?_
    have hPc := hP.sub (ws' := [(h0, .inr (2, [.int 0, .int (nI fs), .int (nI sm), .int (nI ct), .int (nI ng)]))]) [0] rfl
    have hKc := hK.sub (tys' := []) [] rfl
    refine pci (va_runV (As := [.int (nI K)]) (rest := [.int 0]) ⟨hx, hb, hml, hown, hg⟩ (c_E_flags0 l D h0 fs sm ct ng K hc0 hn0 hKb) (cwV 1 hg (gV gw_379 gw_381 gs_7 gw_6 gw_382) rfl rfl rfl (by decide +kernel) ⟨Nat.le_of_ble_eq_true rfl, Nat.le_of_ble_eq_true rfl⟩) ⟨fun a U g mk q => by obtain ⟨q0, qP, qK⟩ := q; exact ⟨q0, qP, va_K.moved (u := U) (U := U.calling g mk a) (Vm.Alike.refl U.vm) qK⟩, va_recv hKc hPc (ci := 2) (q0 := 0) rfl rfl, fun U hU hW => ⟨rfl, by rw [hU]; exact hPc, va_K.moved hW.alike hKc⟩⟩ rfl rfl hl.1 rfl (lv_room (Nat.le_of_ble_eq_true rfl)) d_E_errorOf_31 (⟨Nat.le_of_ble_eq_true rfl, Nat.le_of_ble_eq_true rfl⟩)) ?_
    refine lv_icmp_ne (tgt := 42) hx hb d_E_errorOf_34 (by decide) (fun c_2 => ?_) (fun c_2 => ?_)
    · skip
      have hu : (K = 0 ∧ 2 * ng < ct) := Classical.byContradiction fun z => c_2 (by rw [if_neg z])
      refine lv_iload hx hb d_E_errorOf_42 (lv_at hl 0 rfl) ?_
      refine lv_ineg hx hb d_E_errorOf_44 ?_
      refine tpi (y := if ((N + 0) % 2 = 1 ↔ (K = 0 ∧ 2 * ng < ct)) then nI ((N + 0 + 1) / 2) else -nI ((N + 0 + 1) / 2)) ((if_neg (fun z => ho (z.mpr hu))).symm) ?_
      exact W.iret (v := if ((N + 0) % 2 = 1 ↔ (K = 0 ∧ 2 * ng < ct)) then nI ((N + 0 + 1) / 2) else -nI ((N + 0 + 1) / 2)) hx hb hr (fun t ht hW => ⟨rfl, ht⟩) (fun q h => by cases h) d_E_errorOf_45
    · skip
      have hu : ¬ (K = 0 ∧ 2 * ng < ct) := fun z => by rw [if_pos z] at c_2; exact absurd c_2 (by decide)
      refine lv_iload hx hb d_E_errorOf_37 (lv_at hl 0 rfl) ?_
      refine lv_goto (tgt := 45) hx hb d_E_errorOf_39 (by decide) ?_
      refine tpi (y := if ((N + 0) % 2 = 1 ↔ (K = 0 ∧ 2 * ng < ct)) then nI ((N + 0 + 1) / 2) else -nI ((N + 0 + 1) / 2)) ((if_pos ⟨fun z => absurd z ho, fun z => absurd z hu⟩).symm) ?_
      exact W.iret (v := if ((N + 0) % 2 = 1 ↔ (K = 0 ∧ 2 * ng < ct)) then nI ((N + 0 + 1) / 2) else -nI ((N + 0 + 1) / 2)) hx hb hr (fun t ht hW => ⟨rfl, ht⟩) (fun q h => by cases h) d_E_errorOf_45
  · skip
    have ho : (N + 0) % 2 = 1 := by have : ¬ (N + 0) % 2 = 0 := fun z => c_1 (by rw [z]; rfl); omega
    refine lv_iconst (v := 1) hx hb d_E_errorOf_13 (by decide) ?_
    refine lv_goto (tgt := 18) hx hb d_E_errorOf_14 (by decide) ?_
    refine lv_istore (lv' := [(4, .int 1), (3, .int (nI (N + 0))), (0, .ref h0), (1, .int (nI N)), (2, .int (nI K))]) hx hb d_E_errorOf_18 hl (by decide) rfl (fun ls hl => ?_)
    refine lv_iload_n hx hb d_E_errorOf_20 rfl (lv_at hl 1 rfl) ?_
    refine lv_iconst (v := 1) hx hb d_E_errorOf_21 (by decide) ?_
    refine lv_iadd hx hb d_E_errorOf_22 ?_
    refine tpi (y := nI (N + 0 + 1)) (nI_1 _) ?_
    refine lv_iconst (v := 2) hx hb d_E_errorOf_23 (by decide) ?_
    refine lv_idiv hx hb d_E_errorOf_24 (by decide) ?_
    refine tpi (y := nI ((N + 0 + 1) / 2)) (div2 (by omega)) ?_
    refine lv_istore (lv' := [(5, .int (nI ((N + 0 + 1) / 2))), (4, .int 1), (3, .int (nI (N + 0))), (0, .ref h0), (1, .int (nI N)), (2, .int (nI K))]) hx hb d_E_errorOf_25 hl (by decide) rfl (fun ls hl => ?_)
    refine lv_iload hx hb d_E_errorOf_27 (lv_at hl 1 rfl) ?_
    refine lv_aload_n hx hb d_E_errorOf_29 rfl (lv_at hl 3 rfl) ?_
    refine lv_iload_n hx hb d_E_errorOf_30 rfl (lv_at hl 5 rfl) ?_
    have hPc := hP.sub (ws' := [(h0, .inr (2, [.int 0, .int (nI fs), .int (nI sm), .int (nI ct), .int (nI ng)]))]) [0] rfl
    have hKc := hK.sub (tys' := []) [] rfl
    refine pci (va_runV (As := [.int (nI K)]) (rest := [.int 1]) ⟨hx, hb, hml, hown, hg⟩ (c_E_flags0 l D h0 fs sm ct ng K hc0 hn0 hKb) (cwV 1 hg (gV gw_379 gw_381 gs_7 gw_6 gw_382) rfl rfl rfl (by decide +kernel) ⟨Nat.le_of_ble_eq_true rfl, Nat.le_of_ble_eq_true rfl⟩) ⟨fun a U g mk q => by obtain ⟨q0, qP, qK⟩ := q; exact ⟨q0, qP, va_K.moved (u := U) (U := U.calling g mk a) (Vm.Alike.refl U.vm) qK⟩, va_recv hKc hPc (ci := 2) (q0 := 0) rfl rfl, fun U hU hW => ⟨rfl, by rw [hU]; exact hPc, va_K.moved hW.alike hKc⟩⟩ rfl rfl hl.1 rfl (lv_room (Nat.le_of_ble_eq_true rfl)) d_E_errorOf_31 (⟨Nat.le_of_ble_eq_true rfl, Nat.le_of_ble_eq_true rfl⟩)) ?_
    refine lv_icmp_ne (tgt := 42) hx hb d_E_errorOf_34 (by decide) (fun c_3 => ?_) (fun c_3 => ?_)
    · skip
      have hu : ¬ (K = 0 ∧ 2 * ng < ct) := fun z => c_3 (by rw [if_pos z])
      refine lv_iload hx hb d_E_errorOf_42 (lv_at hl 0 rfl) ?_
      refine lv_ineg hx hb d_E_errorOf_44 ?_
      refine tpi (y := if ((N + 0) % 2 = 1 ↔ (K = 0 ∧ 2 * ng < ct)) then nI ((N + 0 + 1) / 2) else -nI ((N + 0 + 1) / 2)) ((if_neg (fun z => hu (z.mp ho))).symm) ?_
      exact W.iret (v := if ((N + 0) % 2 = 1 ↔ (K = 0 ∧ 2 * ng < ct)) then nI ((N + 0 + 1) / 2) else -nI ((N + 0 + 1) / 2)) hx hb hr (fun t ht hW => ⟨rfl, ht⟩) (fun q h => by cases h) d_E_errorOf_45
    · skip
      have hu : (K = 0 ∧ 2 * ng < ct) := Classical.byContradiction fun z => by rw [if_neg z] at c_3; exact absurd c_3 (by decide)
      refine lv_iload hx hb d_E_errorOf_37 (lv_at hl 0 rfl) ?_
      refine lv_goto (tgt := 45) hx hb d_E_errorOf_39 (by decide) ?_
      refine tpi (y := if ((N + 0) % 2 = 1 ↔ (K = 0 ∧ 2 * ng < ct)) then nI ((N + 0 + 1) / 2) else -nI ((N + 0 + 1) / 2)) ((if_pos ⟨fun _ => hu, fun _ => ho⟩).symm) ?_
      exact W.iret (v := if ((N + 0) % 2 = 1 ↔ (K = 0 ∧ 2 * ng < ct)) then nI ((N + 0 + 1) / 2) else -nI ((N + 0 + 1) / 2)) hx hb hr (fun t ht hW => ⟨rfl, ht⟩) (fun q h => by cases h) d_E_errorOf_45
set_option maxHeartbeats 4000000 in
set_option maxRecDepth 100000 in
theorem c_E_errorOf1 (l : Launch) (D : va_G) (h0 : Nat) (fs sm ct ng : Nat) (N K : Nat) (hc0 : ct ≤ 64) (hn0 : ng ≤ 64) (hKb : K ≤ 29) (hN : N < 2 ^ 30) : Met l y_E_errorOf (WSY y_E_errorOf b_E_errorOf 6 (some .int)) ({ frames := 1, cells := 0, slots := 0, locals := 21 }) (va_Pc [.ref h0, .int (nI N), .int (nI K)] (fun U => va_P D CLS [(h0, .inr (2, [.int 1, .int (nI fs), .int (nI sm), .int (nI ct), .int (nI ng)]))] U.heap ∧ va_K D CLS [] U)) (QR (some (.int (if ((N + 1) % 2 = 1 ↔ (K = 0 ∧ 2 * ng < ct)) then nI ((N + 1 + 1) / 2) else -nI ((N + 1 + 1) / 2))))) 0 0 (fun _ => False) := by
  refine Met.ofW (cc := b_E_errorOf) (maxL := 6) (ret := (some .int)) (by decide) rfl ?_
  intro p e s m args below meth c s₁ B hml hv
  obtain ⟨rfl, hP, hK⟩ := hv
  have hx := B.exec
  have hb := B.bytes
  have hr := B.returns
  have hts := atoms_spec (ws := WSY y_E_errorOf b_E_errorOf 6 (some .int)) B.pre
  have hg : ∀ w ∈ GW, w.before _ s = true := fun w h => hts w (List.mem_cons_of_mem _ h)
  have hown : s.vm.findClass "LineGolomb$Ends" = some m.cls := findClass_of_methodNamed B.named
  have hlocks := B.notSynchronized
  have hS : va_S (fun _ => False) s.heap s.heap [] := va_S.rf
  have hl := lv_entry ([.ref h0, .int (nI N), .int (nI K)]) (n := 6) (Nat.le_of_ble_eq_true rfl)
  rw [lg_entry_eq]
  generalize (lg_sl ([.ref h0, .int (nI N), .int (nI K)]) ++ List.replicate (6 - (lg_sl ([.ref h0, .int (nI N), .int (nI K)])).length) Slot.unset).toArray = ls at hl ⊢
  have hl : lv_has ls 6 [(0, .ref h0), (1, .int (nI N)), (2, .int (nI K))] := hl
  refine lv_iload_n hx hb d_E_errorOf_0 rfl (lv_at hl 1 rfl) ?_
  refine lv_aload_n hx hb d_E_errorOf_1 rfl (lv_at hl 0 rfl) ?_
  refine va_get (D := D) (ci := 2) (v := .int 1) (C := R_E) (T := T_E) (N := 5) hx hb hg in_E hown hK hP 0 rfl rfl 0 (by decide) (hg _ gw_82) (fun _ h9 => h9) rfl d_E_errorOf_2 ?_
  refine lv_iadd hx hb d_E_errorOf_5 ?_
  refine tpi (y := nI (N + 1)) (nI_add N 1) ?_
  refine lv_istore_n (lv' := [(3, .int (nI (N + 1))), (0, .ref h0), (1, .int (nI N)), (2, .int (nI K))]) hx hb d_E_errorOf_6 rfl hl (by decide) rfl (fun ls hl => ?_)
  refine lv_iload_n hx hb d_E_errorOf_7 rfl (lv_at hl 0 rfl) ?_
  refine lv_iconst (v := 2) hx hb d_E_errorOf_8 (by decide) ?_
  refine lv_irem hx hb d_E_errorOf_9 (by decide) ?_
  refine tpi (y := nI ((N + 1) % 2)) (rem2 (by omega)) ?_
  refine lv_if_eq (tgt := 17) hx hb d_E_errorOf_10 (by decide) (fun c_1 => ?_) (fun c_1 => ?_)
  · skip
    have ho : ¬ (N + 1) % 2 = 1 := by have := (nI_eq (b := 0) (by omega) (by omega)).mp c_1; omega
    refine lv_iconst (v := 0) hx hb d_E_errorOf_17 (by decide) ?_
    refine lv_istore (lv' := [(4, .int 0), (3, .int (nI (N + 1))), (0, .ref h0), (1, .int (nI N)), (2, .int (nI K))]) hx hb d_E_errorOf_18 hl (by decide) rfl (fun ls hl => ?_)
    refine lv_iload_n hx hb d_E_errorOf_20 rfl (lv_at hl 1 rfl) ?_
    refine lv_iconst (v := 1) hx hb d_E_errorOf_21 (by decide) ?_
    refine lv_iadd hx hb d_E_errorOf_22 ?_
    refine tpi (y := nI (N + 1 + 1)) (nI_1 _) ?_
    refine lv_iconst (v := 2) hx hb d_E_errorOf_23 (by decide) ?_
    refine lv_idiv hx hb d_E_errorOf_24 (by decide) ?_
    refine tpi (y := nI ((N + 1 + 1) / 2)) (div2 (by omega)) ?_
    refine lv_istore (lv' := [(5, .int (nI ((N + 1 + 1) / 2))), (4, .int 0), (3, .int (nI (N + 1))), (0, .ref h0), (1, .int (nI N)), (2, .int (nI K))]) hx hb d_E_errorOf_25 hl (by decide) rfl (fun ls hl => ?_)
    refine lv_iload hx hb d_E_errorOf_27 (lv_at hl 1 rfl) ?_
    refine lv_aload_n hx hb d_E_errorOf_29 rfl (lv_at hl 3 rfl) ?_
    refine lv_iload_n hx hb d_E_errorOf_30 rfl (lv_at hl 5 rfl) ?_
    have hPc := hP.sub (ws' := [(h0, .inr (2, [.int 1, .int (nI fs), .int (nI sm), .int (nI ct), .int (nI ng)]))]) [0] rfl
    have hKc := hK.sub (tys' := []) [] rfl
    refine pci (va_runV (As := [.int (nI K)]) (rest := [.int 0]) ⟨hx, hb, hml, hown, hg⟩ (c_E_flags1 l D h0 fs sm ct ng K hc0 hn0 hKb) (cwV 1 hg (gV gw_379 gw_381 gs_7 gw_6 gw_382) rfl rfl rfl (by decide +kernel) ⟨Nat.le_of_ble_eq_true rfl, Nat.le_of_ble_eq_true rfl⟩) ⟨fun a U g mk q => by obtain ⟨q0, qP, qK⟩ := q; exact ⟨q0, qP, va_K.moved (u := U) (U := U.calling g mk a) (Vm.Alike.refl U.vm) qK⟩, va_recv hKc hPc (ci := 2) (q0 := 0) rfl rfl, fun U hU hW => ⟨rfl, by rw [hU]; exact hPc, va_K.moved hW.alike hKc⟩⟩ rfl rfl hl.1 rfl (lv_room (Nat.le_of_ble_eq_true rfl)) d_E_errorOf_31 (⟨Nat.le_of_ble_eq_true rfl, Nat.le_of_ble_eq_true rfl⟩)) ?_
    refine lv_icmp_ne (tgt := 42) hx hb d_E_errorOf_34 (by decide) (fun c_2 => ?_) (fun c_2 => ?_)
    · skip
      have hu : (K = 0 ∧ 2 * ng < ct) := Classical.byContradiction fun z => c_2 (by rw [if_neg z])
      refine lv_iload hx hb d_E_errorOf_42 (lv_at hl 0 rfl) ?_
      refine lv_ineg hx hb d_E_errorOf_44 ?_
      refine tpi (y := if ((N + 1) % 2 = 1 ↔ (K = 0 ∧ 2 * ng < ct)) then nI ((N + 1 + 1) / 2) else -nI ((N + 1 + 1) / 2)) ((if_neg (fun z => ho (z.mpr hu))).symm) ?_
      exact W.iret (v := if ((N + 1) % 2 = 1 ↔ (K = 0 ∧ 2 * ng < ct)) then nI ((N + 1 + 1) / 2) else -nI ((N + 1 + 1) / 2)) hx hb hr (fun t ht hW => ⟨rfl, ht⟩) (fun q h => by cases h) d_E_errorOf_45
    · skip
      have hu : ¬ (K = 0 ∧ 2 * ng < ct) := fun z => by rw [if_pos z] at c_2; exact absurd c_2 (by decide)
      refine lv_iload hx hb d_E_errorOf_37 (lv_at hl 0 rfl) ?_
      refine lv_goto (tgt := 45) hx hb d_E_errorOf_39 (by decide) ?_
      refine tpi (y := if ((N + 1) % 2 = 1 ↔ (K = 0 ∧ 2 * ng < ct)) then nI ((N + 1 + 1) / 2) else -nI ((N + 1 + 1) / 2)) ((if_pos ⟨fun z => absurd z ho, fun z => absurd z hu⟩).symm) ?_
      exact W.iret (v := if ((N + 1) % 2 = 1 ↔ (K = 0 ∧ 2 * ng < ct)) then nI ((N + 1 + 1) / 2) else -nI ((N + 1 + 1) / 2)) hx hb hr (fun t ht hW => ⟨rfl, ht⟩) (fun q h => by cases h) d_E_errorOf_45
  · skip
    have ho : (N + 1) % 2 = 1 := by have : ¬ (N + 1) % 2 = 0 := fun z => c_1 (by rw [z]; rfl); omega
    refine lv_iconst (v := 1) hx hb d_E_errorOf_13 (by decide) ?_
    refine lv_goto (tgt := 18) hx hb d_E_errorOf_14 (by decide) ?_
    refine lv_istore (lv' := [(4, .int 1), (3, .int (nI (N + 1))), (0, .ref h0), (1, .int (nI N)), (2, .int (nI K))]) hx hb d_E_errorOf_18 hl (by decide) rfl (fun ls hl => ?_)
    refine lv_iload_n hx hb d_E_errorOf_20 rfl (lv_at hl 1 rfl) ?_
    refine lv_iconst (v := 1) hx hb d_E_errorOf_21 (by decide) ?_
    refine lv_iadd hx hb d_E_errorOf_22 ?_
    refine tpi (y := nI (N + 1 + 1)) (nI_1 _) ?_
    refine lv_iconst (v := 2) hx hb d_E_errorOf_23 (by decide) ?_
    refine lv_idiv hx hb d_E_errorOf_24 (by decide) ?_
    refine tpi (y := nI ((N + 1 + 1) / 2)) (div2 (by omega)) ?_
    refine lv_istore (lv' := [(5, .int (nI ((N + 1 + 1) / 2))), (4, .int 1), (3, .int (nI (N + 1))), (0, .ref h0), (1, .int (nI N)), (2, .int (nI K))]) hx hb d_E_errorOf_25 hl (by decide) rfl (fun ls hl => ?_)
    refine lv_iload hx hb d_E_errorOf_27 (lv_at hl 1 rfl) ?_
    refine lv_aload_n hx hb d_E_errorOf_29 rfl (lv_at hl 3 rfl) ?_
    refine lv_iload_n hx hb d_E_errorOf_30 rfl (lv_at hl 5 rfl) ?_
    have hPc := hP.sub (ws' := [(h0, .inr (2, [.int 1, .int (nI fs), .int (nI sm), .int (nI ct), .int (nI ng)]))]) [0] rfl
    have hKc := hK.sub (tys' := []) [] rfl
    refine pci (va_runV (As := [.int (nI K)]) (rest := [.int 1]) ⟨hx, hb, hml, hown, hg⟩ (c_E_flags1 l D h0 fs sm ct ng K hc0 hn0 hKb) (cwV 1 hg (gV gw_379 gw_381 gs_7 gw_6 gw_382) rfl rfl rfl (by decide +kernel) ⟨Nat.le_of_ble_eq_true rfl, Nat.le_of_ble_eq_true rfl⟩) ⟨fun a U g mk q => by obtain ⟨q0, qP, qK⟩ := q; exact ⟨q0, qP, va_K.moved (u := U) (U := U.calling g mk a) (Vm.Alike.refl U.vm) qK⟩, va_recv hKc hPc (ci := 2) (q0 := 0) rfl rfl, fun U hU hW => ⟨rfl, by rw [hU]; exact hPc, va_K.moved hW.alike hKc⟩⟩ rfl rfl hl.1 rfl (lv_room (Nat.le_of_ble_eq_true rfl)) d_E_errorOf_31 (⟨Nat.le_of_ble_eq_true rfl, Nat.le_of_ble_eq_true rfl⟩)) ?_
    refine lv_icmp_ne (tgt := 42) hx hb d_E_errorOf_34 (by decide) (fun c_3 => ?_) (fun c_3 => ?_)
    · skip
      have hu : ¬ (K = 0 ∧ 2 * ng < ct) := fun z => c_3 (by rw [if_pos z])
      refine lv_iload hx hb d_E_errorOf_42 (lv_at hl 0 rfl) ?_
      refine lv_ineg hx hb d_E_errorOf_44 ?_
      refine tpi (y := if ((N + 1) % 2 = 1 ↔ (K = 0 ∧ 2 * ng < ct)) then nI ((N + 1 + 1) / 2) else -nI ((N + 1 + 1) / 2)) ((if_neg (fun z => hu (z.mp ho))).symm) ?_
      exact W.iret (v := if ((N + 1) % 2 = 1 ↔ (K = 0 ∧ 2 * ng < ct)) then nI ((N + 1 + 1) / 2) else -nI ((N + 1 + 1) / 2)) hx hb hr (fun t ht hW => ⟨rfl, ht⟩) (fun q h => by cases h) d_E_errorOf_45
    · skip
      have hu : (K = 0 ∧ 2 * ng < ct) := Classical.byContradiction fun z => by rw [if_neg z] at c_3; exact absurd c_3 (by decide)
      refine lv_iload hx hb d_E_errorOf_37 (lv_at hl 0 rfl) ?_
      refine lv_goto (tgt := 45) hx hb d_E_errorOf_39 (by decide) ?_
      refine tpi (y := if ((N + 1) % 2 = 1 ↔ (K = 0 ∧ 2 * ng < ct)) then nI ((N + 1 + 1) / 2) else -nI ((N + 1 + 1) / 2)) ((if_pos ⟨fun _ => hu, fun _ => ho⟩).symm) ?_
      exact W.iret (v := if ((N + 1) % 2 = 1 ↔ (K = 0 ∧ 2 * ng < ct)) then nI ((N + 1 + 1) / 2) else -nI ((N + 1 + 1) / 2)) hx hb hr (fun t ht hW => ⟨rfl, ht⟩) (fun q h => by cases h) d_E_errorOf_45
set_option maxHeartbeats 4000000 in
set_option maxRecDepth 100000 in
theorem c_X_nearest (l : Launch) (D : va_G) (v lo hi : Int32) : Met l y_X_nearest (WSY y_X_nearest b_X_nearest 3 (some .int)) ({ frames := 1, cells := 0, slots := 0, locals := 20 }) (va_Pc [.int v, .int lo, .int hi] (fun U => va_P D CLS [] U.heap ∧ va_K D CLS [] U)) (QR (some (.int (if lo < (if v < hi then v else hi) then (if v < hi then v else hi) else lo)))) 0 0 (fun _ => False) := by
  refine Met.ofW (cc := b_X_nearest) (maxL := 3) (ret := (some .int)) (by decide) rfl ?_
  intro p e s m args below meth c s₁ B hml hv
  obtain ⟨rfl, hP, hK⟩ := hv
  have hx := B.exec
  have hb := B.bytes
  have hr := B.returns
  have hts := atoms_spec (ws := WSY y_X_nearest b_X_nearest 3 (some .int)) B.pre
  have hg : ∀ w ∈ GW, w.before _ s = true := fun w h => hts w (List.mem_cons_of_mem _ h)
  have hown : s.vm.findClass "LineGolomb" = some m.cls := findClass_of_methodNamed B.named
  have hlocks := B.notSynchronized
  have hS : va_S (fun _ => False) s.heap s.heap [] := va_S.rf
  have hl := lv_entry ([.int v, .int lo, .int hi]) (n := 3) (Nat.le_of_ble_eq_true rfl)
  rw [lg_entry_eq]
  generalize (lg_sl ([.int v, .int lo, .int hi]) ++ List.replicate (3 - (lg_sl ([.int v, .int lo, .int hi])).length) Slot.unset).toArray = ls at hl ⊢
  have hl : lv_has ls 3 [(0, .int v), (1, .int lo), (2, .int hi)] := hl
  refine lv_iload_n hx hb d_X_nearest_0 rfl (lv_at hl 1 rfl) ?_
  refine lv_iload_n hx hb d_X_nearest_1 rfl (lv_at hl 2 rfl) ?_
  refine lv_iload_n hx hb d_X_nearest_2 rfl (lv_at hl 0 rfl) ?_
  refine va_mmin hx hb (hml.trans hl.1.symm) hown (hg _ gw_57) (hg _ gw_58) (hg _ gw_4) (hg _ gw_59) (Nat.le_of_ble_eq_true rfl) (Nat.le_of_ble_eq_true rfl) (Nat.le_of_ble_eq_true rfl) (Nat.le_of_ble_eq_true rfl) d_X_nearest_3 ?_
  refine va_mmax hx hb (hml.trans hl.1.symm) hown (hg _ gw_60) (hg _ gw_61) (hg _ gw_4) (hg _ gw_62) (Nat.le_of_ble_eq_true rfl) (Nat.le_of_ble_eq_true rfl) (Nat.le_of_ble_eq_true rfl) (Nat.le_of_ble_eq_true rfl) d_X_nearest_6 ?_
  exact W.iret (v := if lo < (if v < hi then v else hi) then (if v < hi then v else hi) else lo) hx hb hr (fun t ht hW => ⟨rfl, ht⟩) (fun q h => by cases h) d_X_nearest_9
set_option maxHeartbeats 4000000 in
set_option maxRecDepth 100000 in
theorem c_X_bitsFor (l : Launch) (D : va_G) (sp q : Nat) (hsp : sp ≤ 2 ^ 29) (hq : q ≤ 29) (hq1 : sp ≤ 2 ^ q) (hq2 : ∀ j, j < q → 2 ^ j < sp) : Met l y_X_bitsFor (WSY y_X_bitsFor b_X_bitsFor 2 (some .int)) ({ frames := 0, cells := 0, slots := 0, locals := 0 }) (va_Pc [.int (nI sp)] (fun U => va_P D CLS [] U.heap ∧ va_K D CLS [] U)) (QR (some (.int (nI q)))) 0 0 (fun _ => False) := by
  refine Met.ofW (cc := b_X_bitsFor) (maxL := 2) (ret := (some .int)) (by decide) rfl ?_
  intro p e s m args below meth c s₁ B hml hv
  obtain ⟨rfl, hP, hK⟩ := hv
  have hx := B.exec
  have hb := B.bytes
  have hr := B.returns
  have hts := atoms_spec (ws := WSY y_X_bitsFor b_X_bitsFor 2 (some .int)) B.pre
  have hg : ∀ w ∈ GW, w.before _ s = true := fun w h => hts w (List.mem_cons_of_mem _ h)
  have hown : s.vm.findClass "LineGolomb" = some m.cls := findClass_of_methodNamed B.named
  have hlocks := B.notSynchronized
  have hS : va_S (fun _ => False) s.heap s.heap [] := va_S.rf
  have hl := lv_entry ([.int (nI sp)]) (n := 2) (Nat.le_of_ble_eq_true rfl)
  rw [lg_entry_eq]
  generalize (lg_sl ([.int (nI sp)]) ++ List.replicate (2 - (lg_sl ([.int (nI sp)])).length) Slot.unset).toArray = ls at hl ⊢
  have hl : lv_has ls 2 [(0, .int (nI sp))] := hl
  refine lv_iconst (v := 0) hx hb d_X_bitsFor_0 (by decide) ?_
  refine lv_istore_n (lv' := [(1, .int 0), (0, .int (nI sp))]) hx hb d_X_bitsFor_1 rfl hl (by decide) rfl (fun ls hl => ?_)
  have loop : ∀ (d k : Nat), k + d = q → ∀ (ls : Array Slot), lv_has ls 2 [(1, .int (nI k)), (0, .int (nI sp))] → W p l e (headSpec (WSY y_X_bitsFor b_X_bitsFor 2 (some .int)) ({ frames := 0, cells := 0, slots := 0, locals := 0 })).room s m ([.int (nI sp)] : List Value).toArray below meth c s.heap [] 0 0 (MQ below (QR (some (.int (nI q)))) ([.int (nI sp)] : List Value).toArray s 0 0 (fun _ => False)) (F0 m 2 ls []) := by
    intro d
    induction d with
    | zero =>
      intro k hk ls hl
      obtain rfl : k = q := by omega
      have hp := pw30 (show k ≤ 30 by omega)
      refine lv_iload_n hx hb d_X_bitsFor_2 rfl (lv_at hl 0 rfl) ?_
      refine lv_bipush (v := 30) hx hb d_X_bitsFor_3 (by decide) ?_
      refine lv_icmp_ge (tgt := 21) hx hb d_X_bitsFor_5 (by decide) (fun c_1 => ?_) (fun c_1 => ?_)
      · skip
        exact absurd ((nI_leI (a := 30) (by omega) (by omega)).mp c_1) (by omega)
      · skip
        refine lv_iconst (v := 1) hx hb d_X_bitsFor_8 (by decide) ?_
        refine lv_iload_n hx hb d_X_bitsFor_9 rfl (lv_at hl 0 rfl) ?_
        refine lv_ishl hx hb d_X_bitsFor_10 ?_
        refine tpi (y := nI (2 ^ k)) (sh1 (by omega)) ?_
        refine lv_iload_n hx hb d_X_bitsFor_11 rfl (lv_at hl 1 rfl) ?_
        refine lv_icmp_ge (tgt := 21) hx hb d_X_bitsFor_12 (by decide) (fun c_2 => ?_) (fun c_2 => ?_)
        · skip
          refine lv_iload_n hx hb d_X_bitsFor_21 rfl (lv_at hl 0 rfl) ?_
          exact W.iret (v := nI k) hx hb hr (fun t ht hW => ⟨rfl, ht⟩) (fun q h => by cases h) d_X_bitsFor_22
        · skip
          exact absurd ((nI_leI (by omega) (by omega)).mpr hq1) c_2
    | succ d ih =>
      intro k hk ls hl
      have hp := pw30 (show k ≤ 30 by omega)
      refine lv_iload_n hx hb d_X_bitsFor_2 rfl (lv_at hl 0 rfl) ?_
      refine lv_bipush (v := 30) hx hb d_X_bitsFor_3 (by decide) ?_
      refine lv_icmp_ge (tgt := 21) hx hb d_X_bitsFor_5 (by decide) (fun c_3 => ?_) (fun c_3 => ?_)
      · skip
        exact absurd ((nI_leI (a := 30) (by omega) (by omega)).mp c_3) (by omega)
      · skip
        refine lv_iconst (v := 1) hx hb d_X_bitsFor_8 (by decide) ?_
        refine lv_iload_n hx hb d_X_bitsFor_9 rfl (lv_at hl 0 rfl) ?_
        refine lv_ishl hx hb d_X_bitsFor_10 ?_
        refine tpi (y := nI (2 ^ k)) (sh1 (by omega)) ?_
        refine lv_iload_n hx hb d_X_bitsFor_11 rfl (lv_at hl 1 rfl) ?_
        refine lv_icmp_ge (tgt := 21) hx hb d_X_bitsFor_12 (by decide) (fun c_4 => ?_) (fun c_4 => ?_)
        · skip
          exact absurd ((nI_leI (by omega) (by omega)).mp c_4) (by have := hq2 k (by omega); omega)
        · skip
          refine lv_iinc (v := nI (k + 1)) (lv' := [(1, .int (nI (k + 1))), (0, .int (nI sp))]) hx hb d_X_bitsFor_15 hl (k := 0) rfl (nI_1 k) (by decide) rfl (fun ls hl => ?_)
          refine lv_goto (tgt := 2) hx hb d_X_bitsFor_18 (by decide) ?_
          exact ih (k + 1) (by omega) ls (lv_sub hl [0, 1] rfl)
  exact loop q 0 (by omega) ls hl
set_option maxHeartbeats 4000000 in
set_option maxRecDepth 100000 in
theorem c_X_widthOf (l : Launch) (D : va_G) (tw p0 : Nat) (hp : p0 < 32) : Met l y_X_widthOf (WSY y_X_widthOf b_X_widthOf 1 (some .int)) ({ frames := 0, cells := 0, slots := 0, locals := 0 }) (va_Pc [.int (nI p0)] (fun U => va_P D CLS [] U.heap ∧ va_K D CLS [] U ∧ EV (fun _ => False) tw U)) (QR (some (.int (nI (wdt p0))))) 0 0 (fun _ => False) := by
  refine Met.ofW (cc := b_X_widthOf) (maxL := 1) (ret := (some .int)) (by decide) rfl ?_
  intro p e s m args below meth c s₁ B hml hv
  obtain ⟨rfl, hP, hK, hE⟩ := hv
  have hx := B.exec
  have hb := B.bytes
  have hr := B.returns
  have hts := atoms_spec (ws := WSY y_X_widthOf b_X_widthOf 1 (some .int)) B.pre
  have hg : ∀ w ∈ GW, w.before _ s = true := fun w h => hts w (List.mem_cons_of_mem _ h)
  have hown : s.vm.findClass "LineGolomb" = some m.cls := findClass_of_methodNamed B.named
  have hlocks := B.notSynchronized
  have hS : va_S (fun _ => False) s.heap s.heap [] := va_S.rf
  have hl := lv_entry ([.int (nI p0)]) (n := 1) (Nat.le_of_ble_eq_true rfl)
  rw [lg_entry_eq]
  generalize (lg_sl ([.int (nI p0)]) ++ List.replicate (1 - (lg_sl ([.int (nI p0)])).length) Slot.unset).toArray = ls at hl ⊢
  have hl : lv_has ls 1 [(0, .int (nI p0))] := hl
  refine lv_iload_n hx hb d_X_widthOf_0 rfl (lv_at hl 0 rfl) ?_
  refine lv_if_lt (tgt := 12) hx hb d_X_widthOf_1 (by decide) (fun c_1 => ?_) (fun c_1 => ?_)
  · skip
    exact absurd c_1 (nI_pos (by omega))
  · skip
    refine lv_iload_n hx hb d_X_widthOf_4 rfl (lv_at hl 0 rfl) ?_
    refine va_gets hx hb hE.2.1 hS hown (hg _ gw_322) (fun _ h9 => h9) d_X_widthOf_5 ?_
    refine tlen hx hb hE.2.2 hS d_X_widthOf_8 ?_
    refine lv_icmp_lt (tgt := 16) hx hb d_X_widthOf_9 (by decide) (fun c_2 => ?_) (fun c_2 => ?_)
    · skip
      refine va_gets hx hb hE.2.1 hS hown (hg _ gw_322) (fun _ h9 => h9) d_X_widthOf_16 ?_
      refine lv_iload_n hx hb d_X_widthOf_19 rfl (lv_at hl 0 rfl) ?_
      refine va_ti (v := .int (nI (wdt p0))) hx hb hE.2.2 hS (vp_in_nI hp (by omega)) (by rw [nI_clamp (by omega)]) d_X_widthOf_20 ?_
      exact W.iret (v := nI (wdt p0)) hx hb hr (fun t ht hW => ⟨rfl, ht⟩) (fun q h => by cases h) d_X_widthOf_21
    · skip
      exact absurd (nI_lt hp (by omega)) c_2
set_option maxHeartbeats 4000000 in
set_option maxRecDepth 100000 in
theorem c_X_stepAbove (l : Launch) (D : va_G) (tw p0 : Nat) (hp : p0 < 32) : Met l y_X_stepAbove (WSY y_X_stepAbove b_X_stepAbove 1 (some .int)) ({ frames := 1, cells := 0, slots := 0, locals := 20 }) (va_Pc [.int (nI p0)] (fun U => va_P D CLS [] U.heap ∧ va_K D CLS [] U ∧ EV (fun _ => False) tw U)) (QR (some (.int (nI (if p0 < 31 then p0 + 1 else p0))))) 0 0 (fun _ => False) := by
  refine Met.ofW (cc := b_X_stepAbove) (maxL := 1) (ret := (some .int)) (by decide) rfl ?_
  intro p e s m args below meth c s₁ B hml hv
  obtain ⟨rfl, hP, hK, hE⟩ := hv
  have hx := B.exec
  have hb := B.bytes
  have hr := B.returns
  have hts := atoms_spec (ws := WSY y_X_stepAbove b_X_stepAbove 1 (some .int)) B.pre
  have hg : ∀ w ∈ GW, w.before _ s = true := fun w h => hts w (List.mem_cons_of_mem _ h)
  have hown : s.vm.findClass "LineGolomb" = some m.cls := findClass_of_methodNamed B.named
  have hlocks := B.notSynchronized
  have hS : va_S (fun _ => False) s.heap s.heap [] := va_S.rf
  have hl := lv_entry ([.int (nI p0)]) (n := 1) (Nat.le_of_ble_eq_true rfl)
  rw [lg_entry_eq]
  generalize (lg_sl ([.int (nI p0)]) ++ List.replicate (1 - (lg_sl ([.int (nI p0)])).length) Slot.unset).toArray = ls at hl ⊢
  have hl : lv_has ls 1 [(0, .int (nI p0))] := hl
  refine lv_iload_n hx hb d_X_stepAbove_0 rfl (lv_at hl 0 rfl) ?_
  refine lv_iconst (v := 1) hx hb d_X_stepAbove_1 (by decide) ?_
  refine lv_iadd hx hb d_X_stepAbove_2 ?_
  refine tpi (y := nI (p0 + 1)) (nI_1 p0) ?_
  refine va_gets hx hb hE.2.1 hS hown (hg _ gw_322) (fun _ h9 => h9) d_X_stepAbove_3 ?_
  refine tlen hx hb hE.2.2 hS d_X_stepAbove_6 ?_
  refine lv_iconst (v := 1) hx hb d_X_stepAbove_7 (by decide) ?_
  refine lv_isub hx hb d_X_stepAbove_8 ?_
  refine tpi (y := nI 31) (pk_sub (a := 32) (b := 1) (by omega)) ?_
  refine va_mmin hx hb (hml.trans hl.1.symm) hown (hg _ gw_57) (hg _ gw_58) (hg _ gw_4) (hg _ gw_59) (Nat.le_of_ble_eq_true rfl) (Nat.le_of_ble_eq_true rfl) (Nat.le_of_ble_eq_true rfl) (Nat.le_of_ble_eq_true rfl) d_X_stepAbove_9 ?_
  refine tpi (y := nI (if p0 < 31 then p0 + 1 else p0)) (mn31 hp) ?_
  exact W.iret (v := nI (if p0 < 31 then p0 + 1 else p0)) hx hb hr (fun t ht hW => ⟨rfl, ht⟩) (fun q h => by cases h) d_X_stepAbove_12
set_option maxHeartbeats 4000000 in
set_option maxRecDepth 100000 in
theorem c_X_stepBelow (l : Launch) (D : va_G) (p0 : Nat) (hp : p0 < 32) : Met l y_X_stepBelow (WSY y_X_stepBelow b_X_stepBelow 1 (some .int)) ({ frames := 1, cells := 0, slots := 0, locals := 20 }) (va_Pc [.int (nI p0)] (fun U => va_P D CLS [] U.heap ∧ va_K D CLS [] U)) (QR (some (.int (nI (p0 - 1))))) 0 0 (fun _ => False) := by
  refine Met.ofW (cc := b_X_stepBelow) (maxL := 1) (ret := (some .int)) (by decide) rfl ?_
  intro p e s m args below meth c s₁ B hml hv
  obtain ⟨rfl, hP, hK⟩ := hv
  have hx := B.exec
  have hb := B.bytes
  have hr := B.returns
  have hts := atoms_spec (ws := WSY y_X_stepBelow b_X_stepBelow 1 (some .int)) B.pre
  have hg : ∀ w ∈ GW, w.before _ s = true := fun w h => hts w (List.mem_cons_of_mem _ h)
  have hown : s.vm.findClass "LineGolomb" = some m.cls := findClass_of_methodNamed B.named
  have hlocks := B.notSynchronized
  have hS : va_S (fun _ => False) s.heap s.heap [] := va_S.rf
  have hl := lv_entry ([.int (nI p0)]) (n := 1) (Nat.le_of_ble_eq_true rfl)
  rw [lg_entry_eq]
  generalize (lg_sl ([.int (nI p0)]) ++ List.replicate (1 - (lg_sl ([.int (nI p0)])).length) Slot.unset).toArray = ls at hl ⊢
  have hl : lv_has ls 1 [(0, .int (nI p0))] := hl
  refine lv_iload_n hx hb d_X_stepBelow_0 rfl (lv_at hl 0 rfl) ?_
  refine lv_iconst (v := 1) hx hb d_X_stepBelow_1 (by decide) ?_
  refine lv_isub hx hb d_X_stepBelow_2 ?_
  refine lv_iconst (v := 0) hx hb d_X_stepBelow_3 (by decide) ?_
  refine va_mmax hx hb (hml.trans hl.1.symm) hown (hg _ gw_60) (hg _ gw_61) (hg _ gw_4) (hg _ gw_62) (Nat.le_of_ble_eq_true rfl) (Nat.le_of_ble_eq_true rfl) (Nat.le_of_ble_eq_true rfl) (Nat.le_of_ble_eq_true rfl) d_X_stepBelow_4 ?_
  refine tpi (y := nI (p0 - 1)) (by cases p0 with | zero => rfl | succ j => rw [nI_pred, if_neg (nI_pos (by omega))]; rfl) ?_
  exact W.iret (v := nI (p0 - 1)) hx hb hr (fun t ht hW => ⟨rfl, ht⟩) (fun q h => by cases h) d_X_stepBelow_7
set_option maxHeartbeats 4000000 in
set_option maxRecDepth 100000 in
theorem c_X_isKind (l : Launch) (D : va_G) (k : Int32) : Met l y_X_isKind (WSY y_X_isKind b_X_isKind 1 (some .boolean)) ({ frames := 0, cells := 0, slots := 0, locals := 0 }) (va_Pc [.int k] (fun U => va_P D CLS [] U.heap ∧ va_K D CLS [] U)) (QR (some (.int (if k = 0 ∨ k = 1 then 1 else 0)))) 0 0 (fun _ => False) := by
  refine Met.ofW (cc := b_X_isKind) (maxL := 1) (ret := (some .boolean)) (by decide) rfl ?_
  intro p e s m args below meth c s₁ B hml hv
  obtain ⟨rfl, hP, hK⟩ := hv
  have hx := B.exec
  have hb := B.bytes
  have hr := B.returns
  have hts := atoms_spec (ws := WSY y_X_isKind b_X_isKind 1 (some .boolean)) B.pre
  have hg : ∀ w ∈ GW, w.before _ s = true := fun w h => hts w (List.mem_cons_of_mem _ h)
  have hown : s.vm.findClass "LineGolomb" = some m.cls := findClass_of_methodNamed B.named
  have hlocks := B.notSynchronized
  have hS : va_S (fun _ => False) s.heap s.heap [] := va_S.rf
  have hl := lv_entry ([.int k]) (n := 1) (Nat.le_of_ble_eq_true rfl)
  rw [lg_entry_eq]
  generalize (lg_sl ([.int k]) ++ List.replicate (1 - (lg_sl ([.int k])).length) Slot.unset).toArray = ls at hl ⊢
  have hl : lv_has ls 1 [(0, .int k)] := hl
  refine lv_iload_n hx hb d_X_isKind_0 rfl (lv_at hl 0 rfl) ?_
  refine lv_if_eq (tgt := 9) hx hb d_X_isKind_1 (by decide) (fun c_1 => ?_) (fun c_1 => ?_)
  · skip
    refine lv_iconst (v := 1) hx hb d_X_isKind_9 (by decide) ?_
    refine lv_goto (tgt := 14) hx hb d_X_isKind_10 (by decide) ?_
    refine tpi (y := if k = 0 ∨ k = 1 then 1 else 0) ((if_pos (Or.inl c_1)).symm) ?_
    exact W.zret (v := if k = 0 ∨ k = 1 then 1 else 0) hx hb hr (by rw [if_pos (Or.inl c_1)]; rfl) (fun t ht hW => ⟨rfl, ht⟩) (fun q h => by cases h) d_X_isKind_14
  · skip
    refine lv_iload_n hx hb d_X_isKind_4 rfl (lv_at hl 0 rfl) ?_
    refine lv_iconst (v := 1) hx hb d_X_isKind_5 (by decide) ?_
    refine lv_icmp_ne (tgt := 13) hx hb d_X_isKind_6 (by decide) (fun c_2 => ?_) (fun c_2 => ?_)
    · skip
      refine lv_iconst (v := 0) hx hb d_X_isKind_13 (by decide) ?_
      refine tpi (y := if k = 0 ∨ k = 1 then 1 else 0) ((if_neg (fun z => z.elim c_1 c_2)).symm) ?_
      exact W.zret (v := if k = 0 ∨ k = 1 then 1 else 0) hx hb hr (by rw [if_neg (fun z => z.elim c_1 c_2)]; rfl) (fun t ht hW => ⟨rfl, ht⟩) (fun q h => by cases h) d_X_isKind_14
    · skip
      refine lv_iconst (v := 1) hx hb d_X_isKind_9 (by decide) ?_
      refine lv_goto (tgt := 14) hx hb d_X_isKind_10 (by decide) ?_
      refine tpi (y := if k = 0 ∨ k = 1 then 1 else 0) ((if_pos (Or.inr c_2)).symm) ?_
      exact W.zret (v := if k = 0 ∨ k = 1 then 1 else 0) hx hb hr (by rw [if_pos (Or.inr c_2)]; rfl) (fun t ht hW => ⟨rfl, ht⟩) (fun q h => by cases h) d_X_isKind_14
set_option maxHeartbeats 4000000 in
set_option maxRecDepth 100000 in
theorem c_X_isError (l : Launch) (D : va_G) (x sw sr br bq bi ne li sp q : Nat) (lb : Int32) (kd e0 : Int32) (hsp : sp < 2 ^ 30) : Met l y_X_isError (WSY y_X_isError b_X_isError 4 (some .boolean)) ({ frames := 0, cells := 0, slots := 0, locals := 0 }) (va_Pc [.ref x, .int kd, .int e0] (fun U => va_P D CLS [(x, .inr (4, [.int (nI bi), .int (nI ne), .int (nI li), .int (nI sp), .int (nI q), .ref sw, .ref sr, .ref br, .ref bq, .int lb]))] U.heap ∧ va_K D CLS [] U)) (QR (some (.int (if (-((sp / 2 : Nat) : Int) ≤ e0.toInt ∧ e0.toInt ≤ ((sp / 2 : Nat) : Int) ∧ (¬ e0 = 0 ∨ kd = 0)) then 1 else 0)))) 0 0 (fun _ => False) := by
  refine Met.ofW (cc := b_X_isError) (maxL := 4) (ret := (some .boolean)) (by decide) rfl ?_
  intro p e s m args below meth c s₁ B hml hv
  obtain ⟨rfl, hP, hK⟩ := hv
  have hx := B.exec
  have hb := B.bytes
  have hr := B.returns
  have hts := atoms_spec (ws := WSY y_X_isError b_X_isError 4 (some .boolean)) B.pre
  have hg : ∀ w ∈ GW, w.before _ s = true := fun w h => hts w (List.mem_cons_of_mem _ h)
  have hown : s.vm.findClass "LineGolomb" = some m.cls := findClass_of_methodNamed B.named
  have hlocks := B.notSynchronized
  have hS : va_S (fun _ => False) s.heap s.heap [] := va_S.rf
  have hl := lv_entry ([.ref x, .int kd, .int e0]) (n := 4) (Nat.le_of_ble_eq_true rfl)
  rw [lg_entry_eq]
  generalize (lg_sl ([.ref x, .int kd, .int e0]) ++ List.replicate (4 - (lg_sl ([.ref x, .int kd, .int e0])).length) Slot.unset).toArray = ls at hl ⊢
  have hl : lv_has ls 4 [(0, .ref x), (1, .int kd), (2, .int e0)] := hl
  refine lv_aload_n hx hb d_X_isError_0 rfl (lv_at hl 0 rfl) ?_
  refine va_get (D := D) (ci := 4) (v := .int (nI sp)) (C := R_X) (T := T_X) (N := 10) hx hb hg in_X hown hK hP 0 rfl rfl 3 (by decide) (hg _ gw_119) (fun _ h9 => h9) rfl d_X_isError_1 ?_
  refine lv_iconst (v := 2) hx hb d_X_isError_4 (by decide) ?_
  refine lv_idiv hx hb d_X_isError_5 (by decide) ?_
  refine tpi (y := nI (sp / 2)) (div2 (by omega)) ?_
  refine lv_istore_n (lv' := [(3, .int (nI (sp / 2))), (0, .ref x), (1, .int kd), (2, .int e0)]) hx hb d_X_isError_6 rfl hl (by decide) rfl (fun ls hl => ?_)
  refine lv_iload_n hx hb d_X_isError_7 rfl (lv_at hl 3 rfl) ?_
  refine lv_iload_n hx hb d_X_isError_8 rfl (lv_at hl 0 rfl) ?_
  refine lv_ineg hx hb d_X_isError_9 ?_
  refine lv_icmp_lt (tgt := 30) hx hb d_X_isError_10 (by decide) (fun c_1 => ?_) (fun c_1 => ?_)
  · skip
    have h1 : ¬ -((sp / 2 : Nat) : Int) ≤ e0.toInt := by have := ltT.mp c_1; rw [ngT (by omega)] at this; omega
    refine lv_iconst (v := 0) hx hb d_X_isError_30 (by decide) ?_
    refine tpi (y := if (-((sp / 2 : Nat) : Int) ≤ e0.toInt ∧ e0.toInt ≤ ((sp / 2 : Nat) : Int) ∧ (¬ e0 = 0 ∨ kd = 0)) then 1 else 0) ((if_neg (fun z => h1 z.1)).symm) ?_
    exact W.zret (v := if (-((sp / 2 : Nat) : Int) ≤ e0.toInt ∧ e0.toInt ≤ ((sp / 2 : Nat) : Int) ∧ (¬ e0 = 0 ∨ kd = 0)) then 1 else 0) hx hb hr (by rw [if_neg (fun z => h1 z.1)]; rfl) (fun t ht hW => ⟨rfl, ht⟩) (fun q h => by cases h) d_X_isError_31
  · skip
    have h1 : -((sp / 2 : Nat) : Int) ≤ e0.toInt := by have : ¬ e0.toInt < (-nI (sp / 2)).toInt := fun z => c_1 (ltT.mpr z); rw [ngT (by omega)] at this; omega
    refine lv_iload_n hx hb d_X_isError_13 rfl (lv_at hl 3 rfl) ?_
    refine lv_iload_n hx hb d_X_isError_14 rfl (lv_at hl 0 rfl) ?_
    refine lv_icmp_gt (tgt := 30) hx hb d_X_isError_15 (by decide) (fun c_2 => ?_) (fun c_2 => ?_)
    · skip
      have h2 : ¬ e0.toInt ≤ ((sp / 2 : Nat) : Int) := by have := ltT.mp c_2; rw [nI_toInt (by omega)] at this; omega
      refine lv_iconst (v := 0) hx hb d_X_isError_30 (by decide) ?_
      refine tpi (y := if (-((sp / 2 : Nat) : Int) ≤ e0.toInt ∧ e0.toInt ≤ ((sp / 2 : Nat) : Int) ∧ (¬ e0 = 0 ∨ kd = 0)) then 1 else 0) ((if_neg (fun z => h2 z.2.1)).symm) ?_
      exact W.zret (v := if (-((sp / 2 : Nat) : Int) ≤ e0.toInt ∧ e0.toInt ≤ ((sp / 2 : Nat) : Int) ∧ (¬ e0 = 0 ∨ kd = 0)) then 1 else 0) hx hb hr (by rw [if_neg (fun z => h2 z.2.1)]; rfl) (fun t ht hW => ⟨rfl, ht⟩) (fun q h => by cases h) d_X_isError_31
    · skip
      have h2 : e0.toInt ≤ ((sp / 2 : Nat) : Int) := by have : ¬ (nI (sp / 2)).toInt < e0.toInt := fun z => c_2 (ltT.mpr z); rw [nI_toInt (by omega)] at this; omega
      refine lv_iload_n hx hb d_X_isError_18 rfl (lv_at hl 3 rfl) ?_
      refine lv_if_ne (tgt := 26) hx hb d_X_isError_19 (by decide) (fun c_3 => ?_) (fun c_3 => ?_)
      · skip
        refine lv_iconst (v := 1) hx hb d_X_isError_26 (by decide) ?_
        refine lv_goto (tgt := 31) hx hb d_X_isError_27 (by decide) ?_
        refine tpi (y := if (-((sp / 2 : Nat) : Int) ≤ e0.toInt ∧ e0.toInt ≤ ((sp / 2 : Nat) : Int) ∧ (¬ e0 = 0 ∨ kd = 0)) then 1 else 0) ((if_pos (⟨h1, h2, Or.inl c_3⟩)).symm) ?_
        exact W.zret (v := if (-((sp / 2 : Nat) : Int) ≤ e0.toInt ∧ e0.toInt ≤ ((sp / 2 : Nat) : Int) ∧ (¬ e0 = 0 ∨ kd = 0)) then 1 else 0) hx hb hr (by rw [if_pos (⟨h1, h2, Or.inl c_3⟩)]; rfl) (fun t ht hW => ⟨rfl, ht⟩) (fun q h => by cases h) d_X_isError_31
      · skip
        refine lv_iload_n hx hb d_X_isError_22 rfl (lv_at hl 2 rfl) ?_
        refine lv_if_ne (tgt := 30) hx hb d_X_isError_23 (by decide) (fun c_4 => ?_) (fun c_4 => ?_)
        · skip
          refine lv_iconst (v := 0) hx hb d_X_isError_30 (by decide) ?_
          refine tpi (y := if (-((sp / 2 : Nat) : Int) ≤ e0.toInt ∧ e0.toInt ≤ ((sp / 2 : Nat) : Int) ∧ (¬ e0 = 0 ∨ kd = 0)) then 1 else 0) ((if_neg (fun z => z.2.2.elim (fun q => q c_3) c_4)).symm) ?_
          exact W.zret (v := if (-((sp / 2 : Nat) : Int) ≤ e0.toInt ∧ e0.toInt ≤ ((sp / 2 : Nat) : Int) ∧ (¬ e0 = 0 ∨ kd = 0)) then 1 else 0) hx hb hr (by rw [if_neg (fun z => z.2.2.elim (fun q => q c_3) c_4)]; rfl) (fun t ht hW => ⟨rfl, ht⟩) (fun q h => by cases h) d_X_isError_31
        · skip
          refine lv_iconst (v := 1) hx hb d_X_isError_26 (by decide) ?_
          refine lv_goto (tgt := 31) hx hb d_X_isError_27 (by decide) ?_
          refine tpi (y := if (-((sp / 2 : Nat) : Int) ≤ e0.toInt ∧ e0.toInt ≤ ((sp / 2 : Nat) : Int) ∧ (¬ e0 = 0 ∨ kd = 0)) then 1 else 0) ((if_pos (⟨h1, h2, Or.inr c_4⟩)).symm) ?_
          exact W.zret (v := if (-((sp / 2 : Nat) : Int) ≤ e0.toInt ∧ e0.toInt ≤ ((sp / 2 : Nat) : Int) ∧ (¬ e0 = 0 ∨ kd = 0)) then 1 else 0) hx hb hr (by rw [if_pos (⟨h1, h2, Or.inr c_4⟩)]; rfl) (fun t ht hW => ⟨rfl, ht⟩) (fun q h => by cases h) d_X_isError_31
set_option maxHeartbeats 4000000 in
set_option maxRecDepth 100000 in
theorem c_X_sideOf0 (l : Launch) (D : va_G) (x sw sr br bq bi ne li sp q : Nat) (lb : Int32) : Met l y_X_sideOf (WSY y_X_sideOf b_X_sideOf 2 (some (.object "LineGolomb$Side"))) ({ frames := 0, cells := 0, slots := 0, locals := 0 }) (va_Pc [.ref x, .int 0] (fun U => va_P D CLS [(x, .inr (4, [.int (nI bi), .int (nI ne), .int (nI li), .int (nI sp), .int (nI q), .ref sw, .ref sr, .ref br, .ref bq, .int lb]))] U.heap ∧ va_K D CLS [] U)) (QR (some (.ref sw))) 0 0 (fun _ => False) := by
  refine Met.ofW (cc := b_X_sideOf) (maxL := 2) (ret := (some (.object "LineGolomb$Side"))) (by decide) rfl ?_
  intro p e s m args below meth c s₁ B hml hv
  obtain ⟨rfl, hP, hK⟩ := hv
  have hx := B.exec
  have hb := B.bytes
  have hr := B.returns
  have hts := atoms_spec (ws := WSY y_X_sideOf b_X_sideOf 2 (some (.object "LineGolomb$Side"))) B.pre
  have hg : ∀ w ∈ GW, w.before _ s = true := fun w h => hts w (List.mem_cons_of_mem _ h)
  have hown : s.vm.findClass "LineGolomb" = some m.cls := findClass_of_methodNamed B.named
  have hlocks := B.notSynchronized
  have hS : va_S (fun _ => False) s.heap s.heap [] := va_S.rf
  have hl := lv_entry ([.ref x, .int 0]) (n := 2) (Nat.le_of_ble_eq_true rfl)
  rw [lg_entry_eq]
  generalize (lg_sl ([.ref x, .int 0]) ++ List.replicate (2 - (lg_sl ([.ref x, .int 0])).length) Slot.unset).toArray = ls at hl ⊢
  have hl : lv_has ls 2 [(0, .ref x), (1, .int 0)] := hl
  refine lv_iload_n hx hb d_X_sideOf_0 rfl (lv_at hl 1 rfl) ?_
  refine lv_if_eq (tgt := 11) hx hb d_X_sideOf_1 (by decide) (fun c_1 => ?_) (fun c_1 => ?_)
  · skip
    refine lv_aload_n hx hb d_X_sideOf_11 rfl (lv_at hl 0 rfl) ?_
    refine va_get (D := D) (ci := 4) (v := .ref sw) (C := R_X) (T := T_X) (N := 10) hx hb hg in_X hown hK hP 0 rfl rfl 5 (by decide) (hg _ gw_121) (fun _ h9 => h9) rfl d_X_sideOf_12 ?_
    exact W.aret hx hb hr (Or.inl ⟨_, rfl⟩) (Or.inr ⟨_, rfl⟩) (fun t ht hW => ⟨rfl, ht⟩) (fun q h => by cases h) d_X_sideOf_15
  · skip
    exact absurd rfl c_1
set_option maxHeartbeats 4000000 in
set_option maxRecDepth 100000 in
theorem c_X_sideOf1 (l : Launch) (D : va_G) (x sw sr br bq bi ne li sp q : Nat) (lb : Int32) : Met l y_X_sideOf (WSY y_X_sideOf b_X_sideOf 2 (some (.object "LineGolomb$Side"))) ({ frames := 0, cells := 0, slots := 0, locals := 0 }) (va_Pc [.ref x, .int 1] (fun U => va_P D CLS [(x, .inr (4, [.int (nI bi), .int (nI ne), .int (nI li), .int (nI sp), .int (nI q), .ref sw, .ref sr, .ref br, .ref bq, .int lb]))] U.heap ∧ va_K D CLS [] U)) (QR (some (.ref sr))) 0 0 (fun _ => False) := by
  refine Met.ofW (cc := b_X_sideOf) (maxL := 2) (ret := (some (.object "LineGolomb$Side"))) (by decide) rfl ?_
  intro p e s m args below meth c s₁ B hml hv
  obtain ⟨rfl, hP, hK⟩ := hv
  have hx := B.exec
  have hb := B.bytes
  have hr := B.returns
  have hts := atoms_spec (ws := WSY y_X_sideOf b_X_sideOf 2 (some (.object "LineGolomb$Side"))) B.pre
  have hg : ∀ w ∈ GW, w.before _ s = true := fun w h => hts w (List.mem_cons_of_mem _ h)
  have hown : s.vm.findClass "LineGolomb" = some m.cls := findClass_of_methodNamed B.named
  have hlocks := B.notSynchronized
  have hS : va_S (fun _ => False) s.heap s.heap [] := va_S.rf
  have hl := lv_entry ([.ref x, .int 1]) (n := 2) (Nat.le_of_ble_eq_true rfl)
  rw [lg_entry_eq]
  generalize (lg_sl ([.ref x, .int 1]) ++ List.replicate (2 - (lg_sl ([.ref x, .int 1])).length) Slot.unset).toArray = ls at hl ⊢
  have hl : lv_has ls 2 [(0, .ref x), (1, .int 1)] := hl
  refine lv_iload_n hx hb d_X_sideOf_0 rfl (lv_at hl 1 rfl) ?_
  refine lv_if_eq (tgt := 11) hx hb d_X_sideOf_1 (by decide) (fun c_1 => ?_) (fun c_1 => ?_)
  · skip
    exact absurd c_1 (by decide)
  · skip
    refine lv_aload_n hx hb d_X_sideOf_4 rfl (lv_at hl 0 rfl) ?_
    refine va_get (D := D) (ci := 4) (v := .ref sr) (C := R_X) (T := T_X) (N := 10) hx hb hg in_X hown hK hP 0 rfl rfl 6 (by decide) (hg _ gw_122) (fun _ h9 => h9) rfl d_X_sideOf_5 ?_
    refine lv_goto (tgt := 15) hx hb d_X_sideOf_8 (by decide) ?_
    exact W.aret hx hb hr (Or.inl ⟨_, rfl⟩) (Or.inr ⟨_, rfl⟩) (fun t ht hW => ⟨rfl, ht⟩) (fun q h => by cases h) d_X_sideOf_15
set_option maxHeartbeats 4000000 in
set_option maxRecDepth 100000 in
theorem c_S_endsOf0 (l : Launch) (D : va_G) (sd e0 e1 pl rw : Nat) : Met l y_S_endsOf (WSY y_S_endsOf b_S_endsOf 2 (some (.object "LineGolomb$Ends"))) ({ frames := 0, cells := 0, slots := 0, locals := 0 }) (va_Pc [.ref sd, .int 0] (fun U => va_P D CLS [(sd, .inr (3, [.ref e0, .ref e1, .int (nI pl), .int (nI rw)]))] U.heap ∧ va_K D CLS [] U)) (QR (some (.ref e0))) 0 0 (fun _ => False) := by
  refine Met.ofW (cc := b_S_endsOf) (maxL := 2) (ret := (some (.object "LineGolomb$Ends"))) (by decide) rfl ?_
  intro p e s m args below meth c s₁ B hml hv
  obtain ⟨rfl, hP, hK⟩ := hv
  have hx := B.exec
  have hb := B.bytes
  have hr := B.returns
  have hts := atoms_spec (ws := WSY y_S_endsOf b_S_endsOf 2 (some (.object "LineGolomb$Ends"))) B.pre
  have hg : ∀ w ∈ GW, w.before _ s = true := fun w h => hts w (List.mem_cons_of_mem _ h)
  have hown : s.vm.findClass "LineGolomb$Side" = some m.cls := findClass_of_methodNamed B.named
  have hlocks := B.notSynchronized
  have hS : va_S (fun _ => False) s.heap s.heap [] := va_S.rf
  have hl := lv_entry ([.ref sd, .int 0]) (n := 2) (Nat.le_of_ble_eq_true rfl)
  rw [lg_entry_eq]
  generalize (lg_sl ([.ref sd, .int 0]) ++ List.replicate (2 - (lg_sl ([.ref sd, .int 0])).length) Slot.unset).toArray = ls at hl ⊢
  have hl : lv_has ls 2 [(0, .ref sd), (1, .int 0)] := hl
  refine lv_iload_n hx hb d_S_endsOf_0 rfl (lv_at hl 1 rfl) ?_
  refine lv_if_ne (tgt := 11) hx hb d_S_endsOf_1 (by decide) (fun c_1 => ?_) (fun c_1 => ?_)
  · skip
    exact absurd rfl c_1
  · skip
    refine lv_aload_n hx hb d_S_endsOf_4 rfl (lv_at hl 0 rfl) ?_
    refine va_get (D := D) (ci := 3) (v := .ref e0) (C := R_S) (T := T_S) (N := 4) hx hb hg in_S hown hK hP 0 rfl rfl 0 (by decide) (hg _ gw_101) (fun _ h9 => h9) rfl d_S_endsOf_5 ?_
    refine lv_goto (tgt := 15) hx hb d_S_endsOf_8 (by decide) ?_
    exact W.aret hx hb hr (Or.inl ⟨_, rfl⟩) (Or.inr ⟨_, rfl⟩) (fun t ht hW => ⟨rfl, ht⟩) (fun q h => by cases h) d_S_endsOf_15
set_option maxHeartbeats 4000000 in
set_option maxRecDepth 100000 in
theorem c_S_endsOf1 (l : Launch) (D : va_G) (sd e0 e1 pl rw : Nat) : Met l y_S_endsOf (WSY y_S_endsOf b_S_endsOf 2 (some (.object "LineGolomb$Ends"))) ({ frames := 0, cells := 0, slots := 0, locals := 0 }) (va_Pc [.ref sd, .int 1] (fun U => va_P D CLS [(sd, .inr (3, [.ref e0, .ref e1, .int (nI pl), .int (nI rw)]))] U.heap ∧ va_K D CLS [] U)) (QR (some (.ref e1))) 0 0 (fun _ => False) := by
  refine Met.ofW (cc := b_S_endsOf) (maxL := 2) (ret := (some (.object "LineGolomb$Ends"))) (by decide) rfl ?_
  intro p e s m args below meth c s₁ B hml hv
  obtain ⟨rfl, hP, hK⟩ := hv
  have hx := B.exec
  have hb := B.bytes
  have hr := B.returns
  have hts := atoms_spec (ws := WSY y_S_endsOf b_S_endsOf 2 (some (.object "LineGolomb$Ends"))) B.pre
  have hg : ∀ w ∈ GW, w.before _ s = true := fun w h => hts w (List.mem_cons_of_mem _ h)
  have hown : s.vm.findClass "LineGolomb$Side" = some m.cls := findClass_of_methodNamed B.named
  have hlocks := B.notSynchronized
  have hS : va_S (fun _ => False) s.heap s.heap [] := va_S.rf
  have hl := lv_entry ([.ref sd, .int 1]) (n := 2) (Nat.le_of_ble_eq_true rfl)
  rw [lg_entry_eq]
  generalize (lg_sl ([.ref sd, .int 1]) ++ List.replicate (2 - (lg_sl ([.ref sd, .int 1])).length) Slot.unset).toArray = ls at hl ⊢
  have hl : lv_has ls 2 [(0, .ref sd), (1, .int 1)] := hl
  refine lv_iload_n hx hb d_S_endsOf_0 rfl (lv_at hl 1 rfl) ?_
  refine lv_if_ne (tgt := 11) hx hb d_S_endsOf_1 (by decide) (fun c_1 => ?_) (fun c_1 => ?_)
  · skip
    refine lv_aload_n hx hb d_S_endsOf_11 rfl (lv_at hl 0 rfl) ?_
    refine va_get (D := D) (ci := 3) (v := .ref e1) (C := R_S) (T := T_S) (N := 4) hx hb hg in_S hown hK hP 0 rfl rfl 1 (by decide) (hg _ gw_102) (fun _ h9 => h9) rfl d_S_endsOf_12 ?_
    exact W.aret hx hb hr (Or.inl ⟨_, rfl⟩) (Or.inr ⟨_, rfl⟩) (fun t ht hW => ⟨rfl, ht⟩) (fun q h => by cases h) d_S_endsOf_15
  · skip
    exact absurd c_1 (by decide)
set_option maxHeartbeats 4000000 in
set_option maxRecDepth 100000 in
theorem c_X_endLimit (l : Launch) (D : va_G) (x sw sr br bq bi ne li sp q : Nat) (lb : Int32) (sd e0 e1 pl rw tw : Nat) (hli : rw + 1 ≤ li) : Met l y_X_endLimit (WSY y_X_endLimit b_X_endLimit 2 (some .int)) ({ frames := 0, cells := 0, slots := 0, locals := 0 }) (va_Pc [.ref x, .ref sd] (fun U => va_P D CLS [(x, .inr (4, [.int (nI bi), .int (nI ne), .int (nI li), .int (nI sp), .int (nI q), .ref sw, .ref sr, .ref br, .ref bq, .int lb])), (sd, .inr (3, [.ref e0, .ref e1, .int (nI pl), .int (nI rw)]))] U.heap ∧ va_K D CLS [] U ∧ EV (fun _ => False) tw U)) (QR (some (.int (nI (li - 1 - rw))))) 0 0 (fun _ => False) := by
  refine Met.ofW (cc := b_X_endLimit) (maxL := 2) (ret := (some .int)) (by decide) rfl ?_
  intro p e s m args below meth c s₁ B hml hv
  obtain ⟨rfl, hP, hK, hE⟩ := hv
  have hx := B.exec
  have hb := B.bytes
  have hr := B.returns
  have hts := atoms_spec (ws := WSY y_X_endLimit b_X_endLimit 2 (some .int)) B.pre
  have hg : ∀ w ∈ GW, w.before _ s = true := fun w h => hts w (List.mem_cons_of_mem _ h)
  have hown : s.vm.findClass "LineGolomb" = some m.cls := findClass_of_methodNamed B.named
  have hlocks := B.notSynchronized
  have hS : va_S (fun _ => False) s.heap s.heap [] := va_S.rf
  have hl := lv_entry ([.ref x, .ref sd]) (n := 2) (Nat.le_of_ble_eq_true rfl)
  rw [lg_entry_eq]
  generalize (lg_sl ([.ref x, .ref sd]) ++ List.replicate (2 - (lg_sl ([.ref x, .ref sd])).length) Slot.unset).toArray = ls at hl ⊢
  have hl : lv_has ls 2 [(0, .ref x), (1, .ref sd)] := hl
  refine lv_aload_n hx hb d_X_endLimit_0 rfl (lv_at hl 0 rfl) ?_
  refine va_get (D := D) (ci := 4) (v := .int (nI li)) (C := R_X) (T := T_X) (N := 10) hx hb hg in_X hown hK hP 0 rfl rfl 2 (by decide) (hg _ gw_118) (fun _ h9 => h9) rfl d_X_endLimit_1 ?_
  refine lv_iconst (v := 1) hx hb d_X_endLimit_4 (by decide) ?_
  refine lv_isub hx hb d_X_endLimit_5 ?_
  refine tpi (y := nI (li - 1)) (pk_sub (b := 1) (by omega)) ?_
  refine lv_aload_n hx hb d_X_endLimit_6 rfl (lv_at hl 1 rfl) ?_
  refine va_getN (D := D) (ci := 3) (v := .int (nI rw)) (C := R_S) (T := T_S) (N := 4) hx hb hg in_S hown hK hP 1 rfl rfl 3 (by decide) (va_Nw.use rfl (hE.nw nw_106)) (fun _ h9 => h9) rfl d_X_endLimit_7 ?_
  refine lv_isub hx hb d_X_endLimit_10 ?_
  refine tpi (y := nI (li - 1 - rw)) (pk_sub (by omega)) ?_
  exact W.iret (v := nI (li - 1 - rw)) hx hb hr (fun t ht hW => ⟨rfl, ht⟩) (fun q h => by cases h) d_X_endLimit_11
set_option maxHeartbeats 4000000 in
set_option maxRecDepth 100000 in
theorem c_X_mostZeros (l : Launch) (D : va_G) (x sw sr br bq bi ne li sp q : Nat) (lb : Int32) (y : Nat) (hy : q + 1 ≤ y) : Met l y_X_mostZeros (WSY y_X_mostZeros b_X_mostZeros 2 (some .int)) ({ frames := 0, cells := 0, slots := 0, locals := 0 }) (va_Pc [.ref x, .int (nI y)] (fun U => va_P D CLS [(x, .inr (4, [.int (nI bi), .int (nI ne), .int (nI li), .int (nI sp), .int (nI q), .ref sw, .ref sr, .ref br, .ref bq, .int lb]))] U.heap ∧ va_K D CLS [] U)) (QR (some (.int (nI (y - q - 1))))) 0 0 (fun _ => False) := by
  refine Met.ofW (cc := b_X_mostZeros) (maxL := 2) (ret := (some .int)) (by decide) rfl ?_
  intro p e s m args below meth c s₁ B hml hv
  obtain ⟨rfl, hP, hK⟩ := hv
  have hx := B.exec
  have hb := B.bytes
  have hr := B.returns
  have hts := atoms_spec (ws := WSY y_X_mostZeros b_X_mostZeros 2 (some .int)) B.pre
  have hg : ∀ w ∈ GW, w.before _ s = true := fun w h => hts w (List.mem_cons_of_mem _ h)
  have hown : s.vm.findClass "LineGolomb" = some m.cls := findClass_of_methodNamed B.named
  have hlocks := B.notSynchronized
  have hS : va_S (fun _ => False) s.heap s.heap [] := va_S.rf
  have hl := lv_entry ([.ref x, .int (nI y)]) (n := 2) (Nat.le_of_ble_eq_true rfl)
  rw [lg_entry_eq]
  generalize (lg_sl ([.ref x, .int (nI y)]) ++ List.replicate (2 - (lg_sl ([.ref x, .int (nI y)])).length) Slot.unset).toArray = ls at hl ⊢
  have hl : lv_has ls 2 [(0, .ref x), (1, .int (nI y))] := hl
  refine lv_iload_n hx hb d_X_mostZeros_0 rfl (lv_at hl 1 rfl) ?_
  refine lv_aload_n hx hb d_X_mostZeros_1 rfl (lv_at hl 0 rfl) ?_
  refine va_get (D := D) (ci := 4) (v := .int (nI q)) (C := R_X) (T := T_X) (N := 10) hx hb hg in_X hown hK hP 0 rfl rfl 4 (by decide) (hg _ gw_120) (fun _ h9 => h9) rfl d_X_mostZeros_2 ?_
  refine lv_isub hx hb d_X_mostZeros_5 ?_
  refine tpi (y := nI (y - q)) (pk_sub (by omega)) ?_
  refine lv_iconst (v := 1) hx hb d_X_mostZeros_6 (by decide) ?_
  refine lv_isub hx hb d_X_mostZeros_7 ?_
  refine tpi (y := nI (y - q - 1)) (pk_sub (b := 1) (by omega)) ?_
  exact W.iret (v := nI (y - q - 1)) hx hb hr (fun t ht hW => ⟨rfl, ht⟩) (fun q h => by cases h) d_X_mostZeros_8
def nlen (q K N mo : Nat) : Nat := if N / 2 ^ K < mo then N / 2 ^ K + 1 + K else mo + 1 + q
set_option maxHeartbeats 4000000 in
set_option maxRecDepth 100000 in
theorem c_X_numberLength (l : Launch) (D : va_G) (x sw sr br bq bi ne li sp q : Nat) (lb : Int32) (K N mo : Nat) (hN : N < 2 ^ 30) (hKb : K < 32) (hmo : mo < 2 ^ 30) : Met l y_X_numberLength (WSY y_X_numberLength b_X_numberLength 5 (some .int)) ({ frames := 0, cells := 0, slots := 0, locals := 0 }) (va_Pc [.ref x, .int (nI K), .int (nI N), .int (nI mo)] (fun U => va_P D CLS [(x, .inr (4, [.int (nI bi), .int (nI ne), .int (nI li), .int (nI sp), .int (nI q), .ref sw, .ref sr, .ref br, .ref bq, .int lb]))] U.heap ∧ va_K D CLS [] U)) (QR (some (.int (nI (nlen q K N mo))))) 0 0 (fun _ => False) := by
  refine Met.ofW (cc := b_X_numberLength) (maxL := 5) (ret := (some .int)) (by decide) rfl ?_
  intro p e s m args below meth c s₁ B hml hv
  obtain ⟨rfl, hP, hK⟩ := hv
  have hx := B.exec
  have hb := B.bytes
  have hr := B.returns
  have hts := atoms_spec (ws := WSY y_X_numberLength b_X_numberLength 5 (some .int)) B.pre
  have hg : ∀ w ∈ GW, w.before _ s = true := fun w h => hts w (List.mem_cons_of_mem _ h)
  have hown : s.vm.findClass "LineGolomb" = some m.cls := findClass_of_methodNamed B.named
  have hlocks := B.notSynchronized
  have hS : va_S (fun _ => False) s.heap s.heap [] := va_S.rf
  have hl := lv_entry ([.ref x, .int (nI K), .int (nI N), .int (nI mo)]) (n := 5) (Nat.le_of_ble_eq_true rfl)
  rw [lg_entry_eq]
  generalize (lg_sl ([.ref x, .int (nI K), .int (nI N), .int (nI mo)]) ++ List.replicate (5 - (lg_sl ([.ref x, .int (nI K), .int (nI N), .int (nI mo)])).length) Slot.unset).toArray = ls at hl ⊢
  have hl : lv_has ls 5 [(0, .ref x), (1, .int (nI K)), (2, .int (nI N)), (3, .int (nI mo))] := hl
  have hz : N / 2 ^ K ≤ N := Nat.div_le_self _ _
  refine lv_iload_n hx hb d_X_numberLength_0 rfl (lv_at hl 2 rfl) ?_
  refine lv_iload_n hx hb d_X_numberLength_1 rfl (lv_at hl 1 rfl) ?_
  refine lv_ishr hx hb d_X_numberLength_2 ?_
  refine tpi (y := nI (N / 2 ^ K)) (shr (by omega) hKb) ?_
  refine lv_istore (lv' := [(4, .int (nI (N / 2 ^ K))), (0, .ref x), (1, .int (nI K)), (2, .int (nI N)), (3, .int (nI mo))]) hx hb d_X_numberLength_3 hl (by decide) rfl (fun ls hl => ?_)
  refine lv_iload hx hb d_X_numberLength_5 (lv_at hl 0 rfl) ?_
  refine lv_iload_n hx hb d_X_numberLength_7 rfl (lv_at hl 4 rfl) ?_
  refine lv_icmp_ge (tgt := 20) hx hb d_X_numberLength_8 (by decide) (fun c_1 => ?_) (fun c_1 => ?_)
  · skip
    have h1 := (nI_leI (by omega) (by omega)).mp c_1
    refine lv_iload_n hx hb d_X_numberLength_20 rfl (lv_at hl 4 rfl) ?_
    refine lv_iconst (v := 1) hx hb d_X_numberLength_21 (by decide) ?_
    refine lv_iadd hx hb d_X_numberLength_22 ?_
    refine tpi (y := nI (mo + 1)) (nI_1 _) ?_
    refine lv_aload_n hx hb d_X_numberLength_23 rfl (lv_at hl 1 rfl) ?_
    refine va_get (D := D) (ci := 4) (v := .int (nI q)) (C := R_X) (T := T_X) (N := 10) hx hb hg in_X hown hK hP 0 rfl rfl 4 (by decide) (hg _ gw_120) (fun _ h9 => h9) rfl d_X_numberLength_24 ?_
    refine lv_iadd hx hb d_X_numberLength_27 ?_
    refine tpi (y := nI (nlen q K N mo)) (by rw [show nlen q K N mo = mo + 1 + q from if_neg (by omega)]; exact nI_add _ _) ?_
    exact W.iret (v := nI (nlen q K N mo)) hx hb hr (fun t ht hW => ⟨rfl, ht⟩) (fun q h => by cases h) d_X_numberLength_28
  · skip
    have h1 : ¬ mo ≤ N / 2 ^ K := fun z => c_1 ((nI_leI (by omega) (by omega)).mpr z)
    refine lv_iload hx hb d_X_numberLength_11 (lv_at hl 0 rfl) ?_
    refine lv_iconst (v := 1) hx hb d_X_numberLength_13 (by decide) ?_
    refine lv_iadd hx hb d_X_numberLength_14 ?_
    refine tpi (y := nI (N / 2 ^ K + 1)) (nI_1 _) ?_
    refine lv_iload_n hx hb d_X_numberLength_15 rfl (lv_at hl 2 rfl) ?_
    refine lv_iadd hx hb d_X_numberLength_16 ?_
    refine tpi (y := nI (nlen q K N mo)) (by rw [show nlen q K N mo = N / 2 ^ K + 1 + K from if_pos (by omega)]; exact nI_add _ _) ?_
    refine lv_goto (tgt := 28) hx hb d_X_numberLength_17 (by decide) ?_
    exact W.iret (v := nI (nlen q K N mo)) hx hb hr (fun t ht hW => ⟨rfl, ht⟩) (fun q h => by cases h) d_X_numberLength_28
set_option maxHeartbeats 4000000 in
set_option maxRecDepth 100000 in
theorem c_S_endRun0 (l : Launch) (D : va_G) (sd e0 e1 pl rw tw p0 : Nat) (hp : p0 < 32) : Met l y_S_endRun (WSY y_S_endRun b_S_endRun 3 none) ({ frames := 2, cells := 0, slots := 0, locals := 45 }) (va_Pc [.ref sd, .int (nI p0), .int 0] (fun U => va_P D CLS [(sd, .inr (3, [.ref e0, .ref e1, .int (nI pl), .int (nI rw)]))] U.heap ∧ va_K D CLS [] U ∧ va_D (fun _ => True) [(sd, .inr (3, [.ref e0, .ref e1, .int (nI pl), .int (nI rw)]))] ∧ EV (ad [(sd, .inr (3, [.ref e0, .ref e1, .int (nI pl), .int (nI rw)]))]) tw U)) (QM none [(sd, .inr (3, [.ref e0, .ref e1, .int (nI pl), .int (nI rw)]))] [(sd, .inr (3, [.ref e0, .ref e1, .int (nI p0), .int (nI (wdt p0))]))] D) 0 0 (ad [(sd, .inr (3, [.ref e0, .ref e1, .int (nI pl), .int (nI rw)]))]) := by
  refine Met.ofW (cc := b_S_endRun) (maxL := 3) (ret := none) (by decide) rfl ?_
  intro p e s m args below meth c s₁ B hml hv
  obtain ⟨rfl, hP, hK, hD0, hE⟩ := hv
  have hx := B.exec
  have hb := B.bytes
  have hr := B.returns
  have hts := atoms_spec (ws := WSY y_S_endRun b_S_endRun 3 none) B.pre
  have hg : ∀ w ∈ GW, w.before _ s = true := fun w h => hts w (List.mem_cons_of_mem _ h)
  have hown : s.vm.findClass "LineGolomb$Side" = some m.cls := findClass_of_methodNamed B.named
  have hlocks := B.notSynchronized
  obtain ⟨A, hAe⟩ : ∃ A, A = ad [(sd, .inr (3, [.ref e0, .ref e1, .int (nI pl), .int (nI rw)]))] := ⟨_, rfl⟩
  have hD : va_D A [(sd, .inr (3, [.ref e0, .ref e1, .int (nI pl), .int (nI rw)]))] := by rw [hAe]; exact va_D_ad hD0
  have hS : va_S A s.heap s.heap [] := va_S.rf
  rw [← hAe] at hE
  have hl := lv_entry ([.ref sd, .int (nI p0), .int 0]) (n := 3) (Nat.le_of_ble_eq_true rfl)
  rw [lg_entry_eq]
  generalize (lg_sl ([.ref sd, .int (nI p0), .int 0]) ++ List.replicate (3 - (lg_sl ([.ref sd, .int (nI p0), .int 0])).length) Slot.unset).toArray = ls at hl ⊢
  have hl : lv_has ls 3 [(0, .ref sd), (1, .int (nI p0)), (2, .int 0)] := hl
  refine lv_aload_n hx hb d_S_endRun_0 rfl (lv_at hl 0 rfl) ?_
  refine lv_iload_n hx hb d_S_endRun_1 rfl (lv_at hl 1 rfl) ?_
  have hPc := hP.sub (ws' := []) [] rfl
  have hKc := hK.sub (tys' := []) [] rfl
  refine pci (va_runSN (As := [.int (nI p0)]) (rest := [.ref sd]) ⟨hx, hb, hml, hown, hg⟩ (c_X_widthOf l D tw p0 hp) ⟨va_cnB 1 hg (gI gw_321) rfl rfl rfl (hE.nw nw_331) (hg _ gw_1) (by decide +kernel) ⟨Nat.le_of_ble_eq_true rfl, Nat.le_of_ble_eq_true rfl⟩, hg _ gw_320, trivial⟩ ⟨fun a U g mk q => by obtain ⟨q0, qP, qK, qX⟩ := q; exact ⟨q0, qP, va_K.moved (u := U) (U := U.calling g mk a) (Vm.Alike.refl U.vm) qK, qX.blind⟩, fun U hU hW => ⟨rfl, by rw [hU]; exact hPc, va_K.moved hW.alike hKc, hE.call hS noF hU hW⟩⟩ rfl rfl hl.1 rfl (lv_room (Nat.le_of_ble_eq_true rfl)) d_S_endRun_2 (⟨Nat.le_of_ble_eq_true rfl, Nat.le_of_ble_eq_true rfl⟩)) ?_
  refine va_put (D := D) (ci := 3) (v := .int (nI (wdt p0))) (ty := .int) (C := R_S) (T := T_S) (N := 4) hx hb hg in_S ty_S tok_S nm_S hown hK hP hD hS 0 rfl rfl 3 (by decide) (hg _ gw_105) (fun _ h9 => h9) rfl (by decide +kernel) (rfl) (rfl) (Nat.le_of_ble_eq_true rfl) d_S_endRun_5 (fun H locs hP hD hS => ?_)
  have hP : va_P D CLS [(sd, .inr (3, [.ref e0, .ref e1, .int (nI pl), .int (nI (wdt p0))]))] H := hP
  have hD : va_D A [(sd, .inr (3, [.ref e0, .ref e1, .int (nI pl), .int (nI (wdt p0))]))] := hD
  refine lv_aload_n hx hb d_S_endRun_8 rfl (lv_at hl 0 rfl) ?_
  refine lv_iload_n hx hb d_S_endRun_9 rfl (lv_at hl 2 rfl) ?_
  refine lv_if_eq (tgt := 20) hx hb d_S_endRun_10 (by decide) (fun c_1 => ?_) (fun c_1 => ?_)
  · skip
    refine lv_iload_n hx hb d_S_endRun_20 rfl (lv_at hl 1 rfl) ?_
    refine va_put (D := D) (ci := 3) (v := .int (nI p0)) (ty := .int) (C := R_S) (T := T_S) (N := 4) hx hb hg in_S ty_S tok_S nm_S hown hK hP hD hS 0 rfl rfl 2 (by decide) (hg _ gw_103) (fun _ h9 => h9) rfl (by decide +kernel) (rfl) (rfl) (Nat.le_of_ble_eq_true rfl) d_S_endRun_21 (fun H locs hP hD hS => ?_)
    have hP : va_P D CLS [(sd, .inr (3, [.ref e0, .ref e1, .int (nI p0), .int (nI (wdt p0))]))] H := hP
    have hD : va_D A [(sd, .inr (3, [.ref e0, .ref e1, .int (nI p0), .int (nI (wdt p0))]))] := hD
    exact W.vret hx hb hr (fun t ht hW => ⟨rfl, by rw [ht]; exact hP, (hAe ▸ hS).F ht⟩) (hAe ▸ hS).2.2 d_S_endRun_24
  · skip
    exact absurd rfl c_1
set_option maxHeartbeats 4000000 in
set_option maxRecDepth 100000 in
theorem c_S_endRun1 (l : Launch) (D : va_G) (sd e0 e1 pl rw tw p0 : Nat) (hp : p0 < 32) : Met l y_S_endRun (WSY y_S_endRun b_S_endRun 3 none) ({ frames := 2, cells := 0, slots := 0, locals := 45 }) (va_Pc [.ref sd, .int (nI p0), .int 1] (fun U => va_P D CLS [(sd, .inr (3, [.ref e0, .ref e1, .int (nI pl), .int (nI rw)]))] U.heap ∧ va_K D CLS [] U ∧ va_D (fun _ => True) [(sd, .inr (3, [.ref e0, .ref e1, .int (nI pl), .int (nI rw)]))] ∧ EV (ad [(sd, .inr (3, [.ref e0, .ref e1, .int (nI pl), .int (nI rw)]))]) tw U)) (QM none [(sd, .inr (3, [.ref e0, .ref e1, .int (nI pl), .int (nI rw)]))] [(sd, .inr (3, [.ref e0, .ref e1, .int (nI (p0 - 1)), .int (nI (wdt p0))]))] D) 0 0 (ad [(sd, .inr (3, [.ref e0, .ref e1, .int (nI pl), .int (nI rw)]))]) := by
  refine Met.ofW (cc := b_S_endRun) (maxL := 3) (ret := none) (by decide) rfl ?_
  intro p e s m args below meth c s₁ B hml hv
  obtain ⟨rfl, hP, hK, hD0, hE⟩ := hv
  have hx := B.exec
  have hb := B.bytes
  have hr := B.returns
  have hts := atoms_spec (ws := WSY y_S_endRun b_S_endRun 3 none) B.pre
  have hg : ∀ w ∈ GW, w.before _ s = true := fun w h => hts w (List.mem_cons_of_mem _ h)
  have hown : s.vm.findClass "LineGolomb$Side" = some m.cls := findClass_of_methodNamed B.named
  have hlocks := B.notSynchronized
  obtain ⟨A, hAe⟩ : ∃ A, A = ad [(sd, .inr (3, [.ref e0, .ref e1, .int (nI pl), .int (nI rw)]))] := ⟨_, rfl⟩
  have hD : va_D A [(sd, .inr (3, [.ref e0, .ref e1, .int (nI pl), .int (nI rw)]))] := by rw [hAe]; exact va_D_ad hD0
  have hS : va_S A s.heap s.heap [] := va_S.rf
  rw [← hAe] at hE
  have hl := lv_entry ([.ref sd, .int (nI p0), .int 1]) (n := 3) (Nat.le_of_ble_eq_true rfl)
  rw [lg_entry_eq]
  generalize (lg_sl ([.ref sd, .int (nI p0), .int 1]) ++ List.replicate (3 - (lg_sl ([.ref sd, .int (nI p0), .int 1])).length) Slot.unset).toArray = ls at hl ⊢
  have hl : lv_has ls 3 [(0, .ref sd), (1, .int (nI p0)), (2, .int 1)] := hl
  refine lv_aload_n hx hb d_S_endRun_0 rfl (lv_at hl 0 rfl) ?_
  refine lv_iload_n hx hb d_S_endRun_1 rfl (lv_at hl 1 rfl) ?_
  have hPc := hP.sub (ws' := []) [] rfl
  have hKc := hK.sub (tys' := []) [] rfl
  refine pci (va_runSN (As := [.int (nI p0)]) (rest := [.ref sd]) ⟨hx, hb, hml, hown, hg⟩ (c_X_widthOf l D tw p0 hp) ⟨va_cnB 1 hg (gI gw_321) rfl rfl rfl (hE.nw nw_331) (hg _ gw_1) (by decide +kernel) ⟨Nat.le_of_ble_eq_true rfl, Nat.le_of_ble_eq_true rfl⟩, hg _ gw_320, trivial⟩ ⟨fun a U g mk q => by obtain ⟨q0, qP, qK, qX⟩ := q; exact ⟨q0, qP, va_K.moved (u := U) (U := U.calling g mk a) (Vm.Alike.refl U.vm) qK, qX.blind⟩, fun U hU hW => ⟨rfl, by rw [hU]; exact hPc, va_K.moved hW.alike hKc, hE.call hS noF hU hW⟩⟩ rfl rfl hl.1 rfl (lv_room (Nat.le_of_ble_eq_true rfl)) d_S_endRun_2 (⟨Nat.le_of_ble_eq_true rfl, Nat.le_of_ble_eq_true rfl⟩)) ?_
  refine va_put (D := D) (ci := 3) (v := .int (nI (wdt p0))) (ty := .int) (C := R_S) (T := T_S) (N := 4) hx hb hg in_S ty_S tok_S nm_S hown hK hP hD hS 0 rfl rfl 3 (by decide) (hg _ gw_105) (fun _ h9 => h9) rfl (by decide +kernel) (rfl) (rfl) (Nat.le_of_ble_eq_true rfl) d_S_endRun_5 (fun H locs hP hD hS => ?_)
  have hP : va_P D CLS [(sd, .inr (3, [.ref e0, .ref e1, .int (nI pl), .int (nI (wdt p0))]))] H := hP
  have hD : va_D A [(sd, .inr (3, [.ref e0, .ref e1, .int (nI pl), .int (nI (wdt p0))]))] := hD
  refine lv_aload_n hx hb d_S_endRun_8 rfl (lv_at hl 0 rfl) ?_
  refine lv_iload_n hx hb d_S_endRun_9 rfl (lv_at hl 2 rfl) ?_
  refine lv_if_eq (tgt := 20) hx hb d_S_endRun_10 (by decide) (fun c_1 => ?_) (fun c_1 => ?_)
  · skip
    exact absurd c_1 (by decide)
  · skip
    refine lv_iload_n hx hb d_S_endRun_13 rfl (lv_at hl 1 rfl) ?_
    have hPc := hP.sub (ws' := []) [] rfl
    have hKc := hK.sub (tys' := []) [] rfl
    refine pci (va_runSN (As := [.int (nI p0)]) (rest := [.ref sd]) ⟨hx, hb, hml, hown, hg⟩ (c_X_stepBelow l D p0 hp) ⟨va_cnB 1 hg (gI gw_334) rfl rfl rfl (hE.nw nw_332) (hg _ gw_1) (by decide +kernel) ⟨Nat.le_of_ble_eq_true rfl, Nat.le_of_ble_eq_true rfl⟩, hg _ gw_333, trivial⟩ ⟨fun a U g mk q => by obtain ⟨q0, qP, qK⟩ := q; exact ⟨q0, qP, va_K.moved (u := U) (U := U.calling g mk a) (Vm.Alike.refl U.vm) qK⟩, fun U hU hW => ⟨rfl, by rw [hU]; exact hPc, va_K.moved hW.alike hKc⟩⟩ rfl rfl hl.1 rfl (lv_room (Nat.le_of_ble_eq_true rfl)) d_S_endRun_14 (⟨Nat.le_of_ble_eq_true rfl, Nat.le_of_ble_eq_true rfl⟩)) ?_
    refine lv_goto (tgt := 21) hx hb d_S_endRun_17 (by decide) ?_
    refine va_put (D := D) (ci := 3) (v := .int (nI (p0 - 1))) (ty := .int) (C := R_S) (T := T_S) (N := 4) hx hb hg in_S ty_S tok_S nm_S hown hK hP hD hS 0 rfl rfl 2 (by decide) (hg _ gw_103) (fun _ h9 => h9) rfl (by decide +kernel) (rfl) (rfl) (Nat.le_of_ble_eq_true rfl) d_S_endRun_21 (fun H locs hP hD hS => ?_)
    have hP : va_P D CLS [(sd, .inr (3, [.ref e0, .ref e1, .int (nI (p0 - 1)), .int (nI (wdt p0))]))] H := hP
    have hD : va_D A [(sd, .inr (3, [.ref e0, .ref e1, .int (nI (p0 - 1)), .int (nI (wdt p0))]))] := hD
    exact W.vret hx hb hr (fun t ht hW => ⟨rfl, by rw [ht]; exact hP, (hAe ▸ hS).F ht⟩) (hAe ▸ hS).2.2 d_S_endRun_24
set_option maxHeartbeats 4000000 in
set_option maxRecDepth 100000 in
theorem c_S_restart (l : Launch) (D : va_G) (sd e0 e1 pl rw fs s0 c0 n0 s1 c1 n1 : Nat) : Met l y_S_restart (WSY y_S_restart b_S_restart 1 none) ({ frames := 1, cells := 0, slots := 0, locals := 20 }) (va_Pc [.ref sd] (fun U => va_P D CLS [(sd, .inr (3, [.ref e0, .ref e1, .int (nI pl), .int (nI rw)])), (e0, .inr (2, [.int 0, .int (nI fs), .int (nI s0), .int (nI c0), .int (nI n0)])), (e1, .inr (2, [.int 1, .int (nI fs), .int (nI s1), .int (nI c1), .int (nI n1)]))] U.heap ∧ va_K D CLS [] U ∧ va_D (fun _ => True) [(sd, .inr (3, [.ref e0, .ref e1, .int (nI pl), .int (nI rw)])), (e0, .inr (2, [.int 0, .int (nI fs), .int (nI s0), .int (nI c0), .int (nI n0)])), (e1, .inr (2, [.int 1, .int (nI fs), .int (nI s1), .int (nI c1), .int (nI n1)]))])) (QM none [(sd, .inr (3, [.ref e0, .ref e1, .int (nI pl), .int (nI rw)])), (e0, .inr (2, [.int 0, .int (nI fs), .int (nI s0), .int (nI c0), .int (nI n0)])), (e1, .inr (2, [.int 1, .int (nI fs), .int (nI s1), .int (nI c1), .int (nI n1)]))] [(sd, .inr (3, [.ref e0, .ref e1, .int (nI 0), .int (nI 0)])), (e0, .inr (2, [.int 0, .int (nI fs), .int (nI fs), .int (nI 1), .int (nI 0)])), (e1, .inr (2, [.int 1, .int (nI fs), .int (nI fs), .int (nI 1), .int (nI 0)]))] D) 0 0 (ad [(sd, .inr (3, [.ref e0, .ref e1, .int (nI pl), .int (nI rw)])), (e0, .inr (2, [.int 0, .int (nI fs), .int (nI s0), .int (nI c0), .int (nI n0)])), (e1, .inr (2, [.int 1, .int (nI fs), .int (nI s1), .int (nI c1), .int (nI n1)]))]) := by
  refine Met.ofW (cc := b_S_restart) (maxL := 1) (ret := none) (by decide) rfl ?_
  intro p e s m args below meth c s₁ B hml hv
  obtain ⟨rfl, hP, hK, hD0⟩ := hv
  have hx := B.exec
  have hb := B.bytes
  have hr := B.returns
  have hts := atoms_spec (ws := WSY y_S_restart b_S_restart 1 none) B.pre
  have hg : ∀ w ∈ GW, w.before _ s = true := fun w h => hts w (List.mem_cons_of_mem _ h)
  have hown : s.vm.findClass "LineGolomb$Side" = some m.cls := findClass_of_methodNamed B.named
  have hlocks := B.notSynchronized
  obtain ⟨A, hAe⟩ : ∃ A, A = ad [(sd, .inr (3, [.ref e0, .ref e1, .int (nI pl), .int (nI rw)])), (e0, .inr (2, [.int 0, .int (nI fs), .int (nI s0), .int (nI c0), .int (nI n0)])), (e1, .inr (2, [.int 1, .int (nI fs), .int (nI s1), .int (nI c1), .int (nI n1)]))] := ⟨_, rfl⟩
  have hD : va_D A [(sd, .inr (3, [.ref e0, .ref e1, .int (nI pl), .int (nI rw)])), (e0, .inr (2, [.int 0, .int (nI fs), .int (nI s0), .int (nI c0), .int (nI n0)])), (e1, .inr (2, [.int 1, .int (nI fs), .int (nI s1), .int (nI c1), .int (nI n1)]))] := by rw [hAe]; exact va_D_ad hD0
  have hS : va_S A s.heap s.heap [] := va_S.rf
  have hl := lv_entry ([.ref sd]) (n := 1) (Nat.le_of_ble_eq_true rfl)
  rw [lg_entry_eq]
  generalize (lg_sl ([.ref sd]) ++ List.replicate (1 - (lg_sl ([.ref sd])).length) Slot.unset).toArray = ls at hl ⊢
  have hl : lv_has ls 1 [(0, .ref sd)] := hl
  refine lv_aload_n hx hb d_S_restart_0 rfl (lv_at hl 0 rfl) ?_
  refine va_get (D := D) (ci := 3) (v := .ref e0) (C := R_S) (T := T_S) (N := 4) hx hb hg in_S hown hK hP 0 rfl rfl 0 (by decide) (hg _ gw_101) (fun _ h9 => h9) rfl d_S_restart_1 ?_
  have hPc := hP.sub (ws' := [(e0, .inr (2, [.int 0, .int (nI fs), .int (nI s0), .int (nI c0), .int (nI n0)]))]) [1] rfl
  have hDc := hD.sub (ws' := [(e0, .inr (2, [.int 0, .int (nI fs), .int (nI s0), .int (nI c0), .int (nI n0)]))]) [1] (by decide) rfl
  have hKc := hK.sub (tys' := []) [] rfl
  refine mcv (va_runV (As := []) (rest := []) ⟨hx, hb, hml, hown, hg⟩ (c_E_restart0 l D e0 fs s0 c0 n0) (cwV 0 hg (gV gw_188 gw_79 gw_80 gw_6 gw_81) rfl rfl rfl (by decide +kernel) ⟨Nat.le_of_ble_eq_true rfl, Nat.le_of_ble_eq_true rfl⟩) ⟨fun a U g mk q => by obtain ⟨q0, qP, qK, qD⟩ := q; exact ⟨q0, qP, va_K.moved (u := U) (U := U.calling g mk a) (Vm.Alike.refl U.vm) qK, qD⟩, va_recv hKc hPc (ci := 2) (q0 := 0) rfl rfl, fun U hU hW => ⟨rfl, by rw [hU]; exact hPc, va_K.moved hW.alike hKc, hDc.weaken (fun _ _ _ _ => trivial)⟩⟩ rfl rfl hl.1 rfl (lv_room (Nat.le_of_ble_eq_true rfl)) d_S_restart_4 (⟨Nat.le_of_ble_eq_true rfl, Nat.le_of_ble_eq_true rfl⟩)) hS hP hD [1] rfl rfl rfl (fun H locs hP hD hS => ?_)
  have hP : va_P D CLS [(sd, .inr (3, [.ref e0, .ref e1, .int (nI pl), .int (nI rw)])), (e0, .inr (2, [.int 0, .int (nI fs), .int (nI fs), .int (nI 1), .int (nI 0)])), (e1, .inr (2, [.int 1, .int (nI fs), .int (nI s1), .int (nI c1), .int (nI n1)]))] H := hP
  have hD : va_D A [(sd, .inr (3, [.ref e0, .ref e1, .int (nI pl), .int (nI rw)])), (e0, .inr (2, [.int 0, .int (nI fs), .int (nI fs), .int (nI 1), .int (nI 0)])), (e1, .inr (2, [.int 1, .int (nI fs), .int (nI s1), .int (nI c1), .int (nI n1)]))] := hD
  refine lv_aload_n hx hb d_S_restart_7 rfl (lv_at hl 0 rfl) ?_
  refine va_get (D := D) (ci := 3) (v := .ref e1) (C := R_S) (T := T_S) (N := 4) hx hb hg in_S hown hK hP 0 rfl rfl 1 (by decide) (hg _ gw_102) (fun _ h9 => h9) rfl d_S_restart_8 ?_
  have hPc := hP.sub (ws' := [(e1, .inr (2, [.int 1, .int (nI fs), .int (nI s1), .int (nI c1), .int (nI n1)]))]) [2] rfl
  have hDc := hD.sub (ws' := [(e1, .inr (2, [.int 1, .int (nI fs), .int (nI s1), .int (nI c1), .int (nI n1)]))]) [2] (by decide) rfl
  have hKc := hK.sub (tys' := []) [] rfl
  refine mcv (va_runV (As := []) (rest := []) ⟨hx, hb, hml, hown, hg⟩ (c_E_restart1 l D e1 fs s1 c1 n1) (cwV 0 hg (gV gw_188 gw_79 gw_80 gw_6 gw_81) rfl rfl rfl (by decide +kernel) ⟨Nat.le_of_ble_eq_true rfl, Nat.le_of_ble_eq_true rfl⟩) ⟨fun a U g mk q => by obtain ⟨q0, qP, qK, qD⟩ := q; exact ⟨q0, qP, va_K.moved (u := U) (U := U.calling g mk a) (Vm.Alike.refl U.vm) qK, qD⟩, va_recv hKc hPc (ci := 2) (q0 := 0) rfl rfl, fun U hU hW => ⟨rfl, by rw [hU]; exact hPc, va_K.moved hW.alike hKc, hDc.weaken (fun _ _ _ _ => trivial)⟩⟩ rfl rfl hl.1 rfl (lv_room (Nat.le_of_ble_eq_true rfl)) d_S_restart_11 (⟨Nat.le_of_ble_eq_true rfl, Nat.le_of_ble_eq_true rfl⟩)) hS hP hD [2] rfl rfl rfl (fun H locs hP hD hS => ?_)
  have hP : va_P D CLS [(sd, .inr (3, [.ref e0, .ref e1, .int (nI pl), .int (nI rw)])), (e0, .inr (2, [.int 0, .int (nI fs), .int (nI fs), .int (nI 1), .int (nI 0)])), (e1, .inr (2, [.int 1, .int (nI fs), .int (nI fs), .int (nI 1), .int (nI 0)]))] H := hP
  have hD : va_D A [(sd, .inr (3, [.ref e0, .ref e1, .int (nI pl), .int (nI rw)])), (e0, .inr (2, [.int 0, .int (nI fs), .int (nI fs), .int (nI 1), .int (nI 0)])), (e1, .inr (2, [.int 1, .int (nI fs), .int (nI fs), .int (nI 1), .int (nI 0)]))] := hD
  refine lv_aload_n hx hb d_S_restart_14 rfl (lv_at hl 0 rfl) ?_
  refine lv_iconst (v := 0) hx hb d_S_restart_15 (by decide) ?_
  refine tpi (y := nI 0) (rfl) ?_
  refine va_put (D := D) (ci := 3) (v := .int (nI 0)) (ty := .int) (C := R_S) (T := T_S) (N := 4) hx hb hg in_S ty_S tok_S nm_S hown hK hP hD hS 0 rfl rfl 2 (by decide) (hg _ gw_103) (fun _ h9 => h9) rfl (by decide +kernel) (rfl) (rfl) (Nat.le_of_ble_eq_true rfl) d_S_restart_16 (fun H locs hP hD hS => ?_)
  have hP : va_P D CLS [(sd, .inr (3, [.ref e0, .ref e1, .int (nI 0), .int (nI rw)])), (e0, .inr (2, [.int 0, .int (nI fs), .int (nI fs), .int (nI 1), .int (nI 0)])), (e1, .inr (2, [.int 1, .int (nI fs), .int (nI fs), .int (nI 1), .int (nI 0)]))] H := hP
  have hD : va_D A [(sd, .inr (3, [.ref e0, .ref e1, .int (nI 0), .int (nI rw)])), (e0, .inr (2, [.int 0, .int (nI fs), .int (nI fs), .int (nI 1), .int (nI 0)])), (e1, .inr (2, [.int 1, .int (nI fs), .int (nI fs), .int (nI 1), .int (nI 0)]))] := hD
  refine lv_aload_n hx hb d_S_restart_19 rfl (lv_at hl 0 rfl) ?_
  refine lv_iconst (v := 0) hx hb d_S_restart_20 (by decide) ?_
  refine tpi (y := nI 0) (rfl) ?_
  refine va_put (D := D) (ci := 3) (v := .int (nI 0)) (ty := .int) (C := R_S) (T := T_S) (N := 4) hx hb hg in_S ty_S tok_S nm_S hown hK hP hD hS 0 rfl rfl 3 (by decide) (hg _ gw_105) (fun _ h9 => h9) rfl (by decide +kernel) (rfl) (rfl) (Nat.le_of_ble_eq_true rfl) d_S_restart_21 (fun H locs hP hD hS => ?_)
  have hP : va_P D CLS [(sd, .inr (3, [.ref e0, .ref e1, .int (nI 0), .int (nI 0)])), (e0, .inr (2, [.int 0, .int (nI fs), .int (nI fs), .int (nI 1), .int (nI 0)])), (e1, .inr (2, [.int 1, .int (nI fs), .int (nI fs), .int (nI 1), .int (nI 0)]))] H := hP
  have hD : va_D A [(sd, .inr (3, [.ref e0, .ref e1, .int (nI 0), .int (nI 0)])), (e0, .inr (2, [.int 0, .int (nI fs), .int (nI fs), .int (nI 1), .int (nI 0)])), (e1, .inr (2, [.int 1, .int (nI fs), .int (nI fs), .int (nI 1), .int (nI 0)]))] := hD
  exact W.vret hx hb hr (fun t ht hW => ⟨rfl, by rw [ht]; exact hP, (hAe ▸ hS).F ht⟩) (hAe ▸ hS).2.2 d_S_restart_24
