/-! Ends, Side, LineGolomb's small ones -/
/-- halved where the count was 64 -/
def hvd (ct x : Nat) : Nat := if ct = 64 then x / 2 else x
set_option maxHeartbeats 4000000 in
set_option maxRecDepth 100000 in
theorem c_E_restart0 (l : Launch) (D : va_G) (h0 : Nat) (fs sm ct ng : Nat) : Met l y_E_restart (WSY y_E_restart b_E_restart 1 none) ({ frames := 0, cells := 0, slots := 0, locals := 0 }) (va_Pc [.ref h0] (fun U => va_P D CLS [(h0, .inr (2, [.int 0, .int (nI fs), .int (nI sm), .int (nI ct), .int (nI ng)]))] U.heap ∧ va_K D CLS [] U ∧ va_D (fun _ => True) [(h0, .inr (2, [.int 0, .int (nI fs), .int (nI sm), .int (nI ct), .int (nI ng)]))])) (QM none [(h0, .inr (2, [.int 0, .int (nI fs), .int (nI sm), .int (nI ct), .int (nI ng)]))] [(h0, .inr (2, [.int 0, .int (nI fs), .int (nI fs), .int (nI 1), .int (nI 0)]))] D) 0 0 (ad [(h0, .inr (2, [.int 0, .int (nI fs), .int (nI sm), .int (nI ct), .int (nI ng)]))]) := by
  refine Met.ofW (cc := b_E_restart) (maxL := 1) (ret := none) (by decide) rfl ?_
  intro p e s m args below meth c s₁ B hml hv
  obtain ⟨rfl, hP, hK, hD0⟩ := hv
  have hx := B.exec
  have hb := B.bytes
  have hr := B.returns
  have hts := atoms_spec (ws := WSY y_E_restart b_E_restart 1 none) B.pre
  have hg : ∀ w ∈ GW, w.before _ s = true := fun w h => hts w (List.mem_cons_of_mem _ h)
  have hown : s.vm.findClass "LineGolomb$Ends" = some m.cls := findClass_of_methodNamed B.named
  have hlocks := B.notSynchronized
  obtain ⟨A, hAe⟩ : ∃ A, A = ad [(h0, .inr (2, [.int 0, .int (nI fs), .int (nI sm), .int (nI ct), .int (nI ng)]))] := ⟨_, rfl⟩
  have hD : va_D A [(h0, .inr (2, [.int 0, .int (nI fs), .int (nI sm), .int (nI ct), .int (nI ng)]))] := by rw [hAe]; exact va_D_ad hD0
  have hS : va_S A s.heap s.heap [] := va_S.rf
  have hl := lv_entry ([.ref h0]) (n := 1) (Nat.le_of_ble_eq_true rfl)
  rw [lg_entry_eq]
  generalize (lg_sl ([.ref h0]) ++ List.replicate (1 - (lg_sl ([.ref h0])).length) Slot.unset).toArray = ls at hl ⊢
  have hl : lv_has ls 1 [(0, .ref h0)] := hl
  refine lv_aload_n hx hb d_E_restart_0 rfl (lv_at hl 0 rfl) ?_
  refine lv_aload_n hx hb d_E_restart_1 rfl (lv_at hl 0 rfl) ?_
  refine va_get (D := D) (ci := 2) (v := .int (nI fs)) (C := R_E) (T := T_E) (N := 5) hx hb hg in_E hown hK hP 0 rfl rfl 1 (by decide) (hg _ gw_83) (fun _ h9 => h9) rfl d_E_restart_2 ?_
  refine va_put (D := D) (ci := 2) (v := .int (nI fs)) (ty := .int) (C := R_E) (T := T_E) (N := 5) hx hb hg in_E ty_E tok_E nm_E hown hK hP hD hS 0 rfl rfl 2 (by decide) (hg _ gw_84) (fun _ h9 => h9) rfl (by decide +kernel) (rfl) (rfl) (Nat.le_of_ble_eq_true rfl) d_E_restart_5 (fun H locs hP hD hS => ?_)
  have hP : va_P D CLS [(h0, .inr (2, [.int 0, .int (nI fs), .int (nI fs), .int (nI ct), .int (nI ng)]))] H := hP
  have hD : va_D A [(h0, .inr (2, [.int 0, .int (nI fs), .int (nI fs), .int (nI ct), .int (nI ng)]))] := hD
  refine lv_aload_n hx hb d_E_restart_8 rfl (lv_at hl 0 rfl) ?_
  refine lv_iconst (v := 1) hx hb d_E_restart_9 (by decide) ?_
  refine tpi (y := nI 1) (rfl) ?_
  refine va_put (D := D) (ci := 2) (v := .int (nI 1)) (ty := .int) (C := R_E) (T := T_E) (N := 5) hx hb hg in_E ty_E tok_E nm_E hown hK hP hD hS 0 rfl rfl 3 (by decide) (hg _ gw_86) (fun _ h9 => h9) rfl (by decide +kernel) (rfl) (rfl) (Nat.le_of_ble_eq_true rfl) d_E_restart_10 (fun H locs hP hD hS => ?_)
  have hP : va_P D CLS [(h0, .inr (2, [.int 0, .int (nI fs), .int (nI fs), .int (nI 1), .int (nI ng)]))] H := hP
  have hD : va_D A [(h0, .inr (2, [.int 0, .int (nI fs), .int (nI fs), .int (nI 1), .int (nI ng)]))] := hD
  refine lv_aload_n hx hb d_E_restart_13 rfl (lv_at hl 0 rfl) ?_
  refine lv_iconst (v := 0) hx hb d_E_restart_14 (by decide) ?_
  refine tpi (y := nI 0) (rfl) ?_
  refine va_put (D := D) (ci := 2) (v := .int (nI 0)) (ty := .int) (C := R_E) (T := T_E) (N := 5) hx hb hg in_E ty_E tok_E nm_E hown hK hP hD hS 0 rfl rfl 4 (by decide) (hg _ gw_88) (fun _ h9 => h9) rfl (by decide +kernel) (rfl) (rfl) (Nat.le_of_ble_eq_true rfl) d_E_restart_15 (fun H locs hP hD hS => ?_)
  have hP : va_P D CLS [(h0, .inr (2, [.int 0, .int (nI fs), .int (nI fs), .int (nI 1), .int (nI 0)]))] H := hP
  have hD : va_D A [(h0, .inr (2, [.int 0, .int (nI fs), .int (nI fs), .int (nI 1), .int (nI 0)]))] := hD
  exact W.vret hx hb hr (fun t ht hW => ⟨rfl, by rw [ht]; exact hP, (hAe ▸ hS).F ht⟩) (hAe ▸ hS).2.2 d_E_restart_18
set_option maxHeartbeats 4000000 in
set_option maxRecDepth 100000 in
theorem c_E_restart1 (l : Launch) (D : va_G) (h0 : Nat) (fs sm ct ng : Nat) : Met l y_E_restart (WSY y_E_restart b_E_restart 1 none) ({ frames := 0, cells := 0, slots := 0, locals := 0 }) (va_Pc [.ref h0] (fun U => va_P D CLS [(h0, .inr (2, [.int 1, .int (nI fs), .int (nI sm), .int (nI ct), .int (nI ng)]))] U.heap ∧ va_K D CLS [] U ∧ va_D (fun _ => True) [(h0, .inr (2, [.int 1, .int (nI fs), .int (nI sm), .int (nI ct), .int (nI ng)]))])) (QM none [(h0, .inr (2, [.int 1, .int (nI fs), .int (nI sm), .int (nI ct), .int (nI ng)]))] [(h0, .inr (2, [.int 1, .int (nI fs), .int (nI fs), .int (nI 1), .int (nI 0)]))] D) 0 0 (ad [(h0, .inr (2, [.int 1, .int (nI fs), .int (nI sm), .int (nI ct), .int (nI ng)]))]) := by
  refine Met.ofW (cc := b_E_restart) (maxL := 1) (ret := none) (by decide) rfl ?_
  intro p e s m args below meth c s₁ B hml hv
  obtain ⟨rfl, hP, hK, hD0⟩ := hv
  have hx := B.exec
  have hb := B.bytes
  have hr := B.returns
  have hts := atoms_spec (ws := WSY y_E_restart b_E_restart 1 none) B.pre
  have hg : ∀ w ∈ GW, w.before _ s = true := fun w h => hts w (List.mem_cons_of_mem _ h)
  have hown : s.vm.findClass "LineGolomb$Ends" = some m.cls := findClass_of_methodNamed B.named
  have hlocks := B.notSynchronized
  obtain ⟨A, hAe⟩ : ∃ A, A = ad [(h0, .inr (2, [.int 1, .int (nI fs), .int (nI sm), .int (nI ct), .int (nI ng)]))] := ⟨_, rfl⟩
  have hD : va_D A [(h0, .inr (2, [.int 1, .int (nI fs), .int (nI sm), .int (nI ct), .int (nI ng)]))] := by rw [hAe]; exact va_D_ad hD0
  have hS : va_S A s.heap s.heap [] := va_S.rf
  have hl := lv_entry ([.ref h0]) (n := 1) (Nat.le_of_ble_eq_true rfl)
  rw [lg_entry_eq]
  generalize (lg_sl ([.ref h0]) ++ List.replicate (1 - (lg_sl ([.ref h0])).length) Slot.unset).toArray = ls at hl ⊢
  have hl : lv_has ls 1 [(0, .ref h0)] := hl
  refine lv_aload_n hx hb d_E_restart_0 rfl (lv_at hl 0 rfl) ?_
  refine lv_aload_n hx hb d_E_restart_1 rfl (lv_at hl 0 rfl) ?_
  refine va_get (D := D) (ci := 2) (v := .int (nI fs)) (C := R_E) (T := T_E) (N := 5) hx hb hg in_E hown hK hP 0 rfl rfl 1 (by decide) (hg _ gw_83) (fun _ h9 => h9) rfl d_E_restart_2 ?_
  refine va_put (D := D) (ci := 2) (v := .int (nI fs)) (ty := .int) (C := R_E) (T := T_E) (N := 5) hx hb hg in_E ty_E tok_E nm_E hown hK hP hD hS 0 rfl rfl 2 (by decide) (hg _ gw_84) (fun _ h9 => h9) rfl (by decide +kernel) (rfl) (rfl) (Nat.le_of_ble_eq_true rfl) d_E_restart_5 (fun H locs hP hD hS => ?_)
  have hP : va_P D CLS [(h0, .inr (2, [.int 1, .int (nI fs), .int (nI fs), .int (nI ct), .int (nI ng)]))] H := hP
  have hD : va_D A [(h0, .inr (2, [.int 1, .int (nI fs), .int (nI fs), .int (nI ct), .int (nI ng)]))] := hD
  refine lv_aload_n hx hb d_E_restart_8 rfl (lv_at hl 0 rfl) ?_
  refine lv_iconst (v := 1) hx hb d_E_restart_9 (by decide) ?_
  refine tpi (y := nI 1) (rfl) ?_
  refine va_put (D := D) (ci := 2) (v := .int (nI 1)) (ty := .int) (C := R_E) (T := T_E) (N := 5) hx hb hg in_E ty_E tok_E nm_E hown hK hP hD hS 0 rfl rfl 3 (by decide) (hg _ gw_86) (fun _ h9 => h9) rfl (by decide +kernel) (rfl) (rfl) (Nat.le_of_ble_eq_true rfl) d_E_restart_10 (fun H locs hP hD hS => ?_)
  have hP : va_P D CLS [(h0, .inr (2, [.int 1, .int (nI fs), .int (nI fs), .int (nI 1), .int (nI ng)]))] H := hP
  have hD : va_D A [(h0, .inr (2, [.int 1, .int (nI fs), .int (nI fs), .int (nI 1), .int (nI ng)]))] := hD
  refine lv_aload_n hx hb d_E_restart_13 rfl (lv_at hl 0 rfl) ?_
  refine lv_iconst (v := 0) hx hb d_E_restart_14 (by decide) ?_
  refine tpi (y := nI 0) (rfl) ?_
  refine va_put (D := D) (ci := 2) (v := .int (nI 0)) (ty := .int) (C := R_E) (T := T_E) (N := 5) hx hb hg in_E ty_E tok_E nm_E hown hK hP hD hS 0 rfl rfl 4 (by decide) (hg _ gw_88) (fun _ h9 => h9) rfl (by decide +kernel) (rfl) (rfl) (Nat.le_of_ble_eq_true rfl) d_E_restart_15 (fun H locs hP hD hS => ?_)
  have hP : va_P D CLS [(h0, .inr (2, [.int 1, .int (nI fs), .int (nI fs), .int (nI 1), .int (nI 0)]))] H := hP
  have hD : va_D A [(h0, .inr (2, [.int 1, .int (nI fs), .int (nI fs), .int (nI 1), .int (nI 0)]))] := hD
  exact W.vret hx hb hr (fun t ht hW => ⟨rfl, by rw [ht]; exact hP, (hAe ▸ hS).F ht⟩) (hAe ▸ hS).2.2 d_E_restart_18
set_option maxHeartbeats 4000000 in
set_option maxRecDepth 100000 in
theorem c_E_shift0 (l : Launch) (D : va_G) (h0 : Nat) (fs sm ct ng : Nat) (K : Nat) (hc0 : ct ≤ 64) (hs0 : sm < 2 ^ 30) (hKb : K ≤ 29) (hK1 : sm ≤ ct * 2 ^ K) (hK2 : ∀ j, j < K → ct * 2 ^ j < sm) : Met l y_E_shift (WSY y_E_shift b_E_shift 3 (some .int)) ({ frames := 0, cells := 0, slots := 0, locals := 0 }) (va_Pc [.ref h0] (fun U => va_P D CLS [(h0, .inr (2, [.int 0, .int (nI fs), .int (nI sm), .int (nI ct), .int (nI ng)]))] U.heap ∧ va_K D CLS [] U)) (QR (some (.int (nI K)))) 0 0 (fun _ => False) := by
  refine Met.ofW (cc := b_E_shift) (maxL := 3) (ret := (some .int)) (by decide) rfl ?_
  intro p e s m args below meth c s₁ B hml hv
  obtain ⟨rfl, hP, hK⟩ := hv
  have hx := B.exec
  have hb := B.bytes
  have hr := B.returns
  have hts := atoms_spec (ws := WSY y_E_shift b_E_shift 3 (some .int)) B.pre
  have hg : ∀ w ∈ GW, w.before _ s = true := fun w h => hts w (List.mem_cons_of_mem _ h)
  have hown : s.vm.findClass "LineGolomb$Ends" = some m.cls := findClass_of_methodNamed B.named
  have hlocks := B.notSynchronized
  have hS : va_S (fun _ => False) s.heap s.heap [] := va_S.rf
  have hl := lv_entry ([.ref h0]) (n := 3) (Nat.le_of_ble_eq_true rfl)
  rw [lg_entry_eq]
  generalize (lg_sl ([.ref h0]) ++ List.replicate (3 - (lg_sl ([.ref h0])).length) Slot.unset).toArray = ls at hl ⊢
  have hl : lv_has ls 3 [(0, .ref h0)] := hl
  refine lv_aload_n hx hb d_E_shift_0 rfl (lv_at hl 0 rfl) ?_
  refine va_get (D := D) (ci := 2) (v := .int 0) (C := R_E) (T := T_E) (N := 5) hx hb hg in_E hown hK hP 0 rfl rfl 0 (by decide) (hg _ gw_82) (fun _ h9 => h9) rfl d_E_shift_1 ?_
  refine lv_if_ne (tgt := 14) hx hb d_E_shift_4 (by decide) (fun c_1 => ?_) (fun c_1 => ?_)
  · skip
    exact absurd rfl c_1
  · skip
    refine lv_aload_n hx hb d_E_shift_7 rfl (lv_at hl 0 rfl) ?_
    refine va_get (D := D) (ci := 2) (v := .int (nI sm)) (C := R_E) (T := T_E) (N := 5) hx hb hg in_E hown hK hP 0 rfl rfl 2 (by decide) (hg _ gw_84) (fun _ h9 => h9) rfl d_E_shift_8 ?_
    refine lv_goto (tgt := 25) hx hb d_E_shift_11 (by decide) ?_
    refine lv_istore_n (lv' := [(1, .int (nI sm)), (0, .ref h0)]) hx hb d_E_shift_25 rfl hl (by decide) rfl (fun ls hl => ?_)
    refine lv_iconst (v := 0) hx hb d_E_shift_26 (by decide) ?_
    refine lv_istore_n (lv' := [(2, .int 0), (1, .int (nI sm)), (0, .ref h0)]) hx hb d_E_shift_27 rfl hl (by decide) rfl (fun ls hl => ?_)
    have loop : ∀ (d k : Nat), k + d = K → ∀ (ls : Array Slot), lv_has ls 3 [(2, .int (nI k)), (1, .int (nI (sm))), (0, .ref h0)] → W p l e (headSpec (WSY y_E_shift b_E_shift 3 (some .int)) ({ frames := 0, cells := 0, slots := 0, locals := 0 })).room s m ([.ref h0] : List Value).toArray below meth c s.heap [] 0 0 (MQ below (QR (some (.int (nI K)))) ([.ref h0] : List Value).toArray s 0 0 (fun _ => False)) (F0 m 28 ls []) := by
      intro d
      induction d with
      | zero =>
        intro k hk ls hl
        obtain rfl : k = K := by omega
        have h2 : ct * 2 ^ k < 2 ^ 63 := Nat.lt_of_le_of_lt (Nat.mul_le_mul hc0 (pw30 (show k ≤ 30 by omega))) (by decide)
        refine lv_iload_n hx hb d_E_shift_28 rfl (lv_at hl 0 rfl) ?_
        refine lv_bipush (v := 30) hx hb d_E_shift_29 (by decide) ?_
        refine lv_icmp_ge (tgt := 53) hx hb d_E_shift_31 (by decide) (fun c_2 => ?_) (fun c_2 => ?_)
        · skip
          exact absurd ((nI_leI (a := 30) (by omega) (by omega)).mp c_2) (by omega)
        · skip
          refine lv_aload_n hx hb d_E_shift_34 rfl (lv_at hl 2 rfl) ?_
          refine va_get (D := D) (ci := 2) (v := .int (nI ct)) (C := R_E) (T := T_E) (N := 5) hx hb hg in_E hown hK hP 0 rfl rfl 3 (by decide) (hg _ gw_86) (fun _ h9 => h9) rfl d_E_shift_35 ?_
          refine lv_i2l (v := lN ct) hx hb d_E_shift_38 (nI_l (by omega)) ?_
          refine lv_iload_n hx hb d_E_shift_39 rfl (lv_at hl 0 rfl) ?_
          refine lv_lshl (v := lN (ct * 2 ^ k)) hx hb d_E_shift_40 (wb_shl ct (by omega)) ?_
          refine lv_iload_n hx hb d_E_shift_41 rfl (lv_at hl 1 rfl) ?_
          refine lv_i2l (v := lN (sm)) hx hb d_E_shift_42 (nI_l (by omega)) ?_
          refine W.lcmp hx hb d_E_shift_43 ?_
          refine lv_if_ge (tgt := 53) hx hb d_E_shift_44 (by decide) (fun c_3 => ?_) (fun c_3 => ?_)
          · skip
            refine lv_iload_n hx hb d_E_shift_53 rfl (lv_at hl 0 rfl) ?_
            exact W.iret (v := nI k) hx hb hr (fun t ht hW => ⟨rfl, ht⟩) (fun q h => by cases h) d_E_shift_54
          · skip
            exact absurd ((lg_cmp_ge _ _).mpr ((pk_lLE (by omega) h2).mpr hK1)) c_3
      | succ d ih =>
        intro k hk ls hl
        have h2 : ct * 2 ^ k < 2 ^ 63 := Nat.lt_of_le_of_lt (Nat.mul_le_mul hc0 (pw30 (show k ≤ 30 by omega))) (by decide)
        refine lv_iload_n hx hb d_E_shift_28 rfl (lv_at hl 0 rfl) ?_
        refine lv_bipush (v := 30) hx hb d_E_shift_29 (by decide) ?_
        refine lv_icmp_ge (tgt := 53) hx hb d_E_shift_31 (by decide) (fun c_4 => ?_) (fun c_4 => ?_)
        · skip
          exact absurd ((nI_leI (a := 30) (by omega) (by omega)).mp c_4) (by omega)
        · skip
          refine lv_aload_n hx hb d_E_shift_34 rfl (lv_at hl 2 rfl) ?_
          refine va_get (D := D) (ci := 2) (v := .int (nI ct)) (C := R_E) (T := T_E) (N := 5) hx hb hg in_E hown hK hP 0 rfl rfl 3 (by decide) (hg _ gw_86) (fun _ h9 => h9) rfl d_E_shift_35 ?_
          refine lv_i2l (v := lN ct) hx hb d_E_shift_38 (nI_l (by omega)) ?_
          refine lv_iload_n hx hb d_E_shift_39 rfl (lv_at hl 0 rfl) ?_
          refine lv_lshl (v := lN (ct * 2 ^ k)) hx hb d_E_shift_40 (wb_shl ct (by omega)) ?_
          refine lv_iload_n hx hb d_E_shift_41 rfl (lv_at hl 1 rfl) ?_
          refine lv_i2l (v := lN (sm)) hx hb d_E_shift_42 (nI_l (by omega)) ?_
          refine W.lcmp hx hb d_E_shift_43 ?_
          refine lv_if_ge (tgt := 53) hx hb d_E_shift_44 (by decide) (fun c_5 => ?_) (fun c_5 => ?_)
          · skip
            exact absurd ((pk_lLE (by omega) h2).mp ((lg_cmp_ge _ _).mp c_5)) (by have := hK2 k (by omega); omega)
          · skip
            refine lv_iinc (v := nI (k + 1)) (lv' := [(2, .int (nI (k + 1))), (1, .int (nI (sm))), (0, .ref h0)]) hx hb d_E_shift_47 hl (k := 0) rfl (nI_1 k) (by decide) rfl (fun ls hl => ?_)
            refine lv_goto (tgt := 28) hx hb d_E_shift_50 (by decide) ?_
            exact ih (k + 1) (by omega) ls (lv_sub hl [0, 1, 2] rfl)
    exact loop K 0 (by omega) ls hl
set_option maxHeartbeats 4000000 in
set_option maxRecDepth 100000 in
theorem c_E_shift1 (l : Launch) (D : va_G) (h0 : Nat) (fs sm ct ng : Nat) (K : Nat) (hc0 : ct ≤ 64) (hs0 : sm < 2 ^ 30) (hKb : K ≤ 29) (hK1 : sm + ct / 2 ≤ ct * 2 ^ K) (hK2 : ∀ j, j < K → ct * 2 ^ j < sm + ct / 2) : Met l y_E_shift (WSY y_E_shift b_E_shift 3 (some .int)) ({ frames := 0, cells := 0, slots := 0, locals := 0 }) (va_Pc [.ref h0] (fun U => va_P D CLS [(h0, .inr (2, [.int 1, .int (nI fs), .int (nI sm), .int (nI ct), .int (nI ng)]))] U.heap ∧ va_K D CLS [] U)) (QR (some (.int (nI K)))) 0 0 (fun _ => False) := by
  refine Met.ofW (cc := b_E_shift) (maxL := 3) (ret := (some .int)) (by decide) rfl ?_
  intro p e s m args below meth c s₁ B hml hv
  obtain ⟨rfl, hP, hK⟩ := hv
  have hx := B.exec
  have hb := B.bytes
  have hr := B.returns
  have hts := atoms_spec (ws := WSY y_E_shift b_E_shift 3 (some .int)) B.pre
  have hg : ∀ w ∈ GW, w.before _ s = true := fun w h => hts w (List.mem_cons_of_mem _ h)
  have hown : s.vm.findClass "LineGolomb$Ends" = some m.cls := findClass_of_methodNamed B.named
  have hlocks := B.notSynchronized
  have hS : va_S (fun _ => False) s.heap s.heap [] := va_S.rf
  have hl := lv_entry ([.ref h0]) (n := 3) (Nat.le_of_ble_eq_true rfl)
  rw [lg_entry_eq]
  generalize (lg_sl ([.ref h0]) ++ List.replicate (3 - (lg_sl ([.ref h0])).length) Slot.unset).toArray = ls at hl ⊢
  have hl : lv_has ls 3 [(0, .ref h0)] := hl
  refine lv_aload_n hx hb d_E_shift_0 rfl (lv_at hl 0 rfl) ?_
  refine va_get (D := D) (ci := 2) (v := .int 1) (C := R_E) (T := T_E) (N := 5) hx hb hg in_E hown hK hP 0 rfl rfl 0 (by decide) (hg _ gw_82) (fun _ h9 => h9) rfl d_E_shift_1 ?_
  refine lv_if_ne (tgt := 14) hx hb d_E_shift_4 (by decide) (fun c_1 => ?_) (fun c_1 => ?_)
  · skip
    refine lv_aload_n hx hb d_E_shift_14 rfl (lv_at hl 0 rfl) ?_
    refine va_get (D := D) (ci := 2) (v := .int (nI sm)) (C := R_E) (T := T_E) (N := 5) hx hb hg in_E hown hK hP 0 rfl rfl 2 (by decide) (hg _ gw_84) (fun _ h9 => h9) rfl d_E_shift_15 ?_
    refine lv_aload_n hx hb d_E_shift_18 rfl (lv_at hl 0 rfl) ?_
    refine va_get (D := D) (ci := 2) (v := .int (nI ct)) (C := R_E) (T := T_E) (N := 5) hx hb hg in_E hown hK hP 0 rfl rfl 3 (by decide) (hg _ gw_86) (fun _ h9 => h9) rfl d_E_shift_19 ?_
    refine lv_iconst (v := 2) hx hb d_E_shift_22 (by decide) ?_
    refine lv_idiv hx hb d_E_shift_23 (by decide) ?_
    refine tpi (y := nI (ct / 2)) (div2 (by omega)) ?_
    refine lv_iadd hx hb d_E_shift_24 ?_
    refine tpi (y := nI (sm + ct / 2)) (nI_add _ _) ?_
    refine lv_istore_n (lv' := [(1, .int (nI (sm + ct / 2))), (0, .ref h0)]) hx hb d_E_shift_25 rfl hl (by decide) rfl (fun ls hl => ?_)
    refine lv_iconst (v := 0) hx hb d_E_shift_26 (by decide) ?_
    refine lv_istore_n (lv' := [(2, .int 0), (1, .int (nI (sm + ct / 2))), (0, .ref h0)]) hx hb d_E_shift_27 rfl hl (by decide) rfl (fun ls hl => ?_)
    have loop : ∀ (d k : Nat), k + d = K → ∀ (ls : Array Slot), lv_has ls 3 [(2, .int (nI k)), (1, .int (nI (sm + ct / 2))), (0, .ref h0)] → W p l e (headSpec (WSY y_E_shift b_E_shift 3 (some .int)) ({ frames := 0, cells := 0, slots := 0, locals := 0 })).room s m ([.ref h0] : List Value).toArray below meth c s.heap [] 0 0 (MQ below (QR (some (.int (nI K)))) ([.ref h0] : List Value).toArray s 0 0 (fun _ => False)) (F0 m 28 ls []) := by
      intro d
      induction d with
      | zero =>
        intro k hk ls hl
        obtain rfl : k = K := by omega
        have h2 : ct * 2 ^ k < 2 ^ 63 := Nat.lt_of_le_of_lt (Nat.mul_le_mul hc0 (pw30 (show k ≤ 30 by omega))) (by decide)
        refine lv_iload_n hx hb d_E_shift_28 rfl (lv_at hl 0 rfl) ?_
        refine lv_bipush (v := 30) hx hb d_E_shift_29 (by decide) ?_
        refine lv_icmp_ge (tgt := 53) hx hb d_E_shift_31 (by decide) (fun c_2 => ?_) (fun c_2 => ?_)
        · skip
          exact absurd ((nI_leI (a := 30) (by omega) (by omega)).mp c_2) (by omega)
        · skip
          refine lv_aload_n hx hb d_E_shift_34 rfl (lv_at hl 2 rfl) ?_
          refine va_get (D := D) (ci := 2) (v := .int (nI ct)) (C := R_E) (T := T_E) (N := 5) hx hb hg in_E hown hK hP 0 rfl rfl 3 (by decide) (hg _ gw_86) (fun _ h9 => h9) rfl d_E_shift_35 ?_
          refine lv_i2l (v := lN ct) hx hb d_E_shift_38 (nI_l (by omega)) ?_
          refine lv_iload_n hx hb d_E_shift_39 rfl (lv_at hl 0 rfl) ?_
          refine lv_lshl (v := lN (ct * 2 ^ k)) hx hb d_E_shift_40 (wb_shl ct (by omega)) ?_
          refine lv_iload_n hx hb d_E_shift_41 rfl (lv_at hl 1 rfl) ?_
          refine lv_i2l (v := lN (sm + ct / 2)) hx hb d_E_shift_42 (nI_l (by omega)) ?_
          refine W.lcmp hx hb d_E_shift_43 ?_
          refine lv_if_ge (tgt := 53) hx hb d_E_shift_44 (by decide) (fun c_3 => ?_) (fun c_3 => ?_)
          · skip
            refine lv_iload_n hx hb d_E_shift_53 rfl (lv_at hl 0 rfl) ?_
            exact W.iret (v := nI k) hx hb hr (fun t ht hW => ⟨rfl, ht⟩) (fun q h => by cases h) d_E_shift_54
          · skip
            exact absurd ((lg_cmp_ge _ _).mpr ((pk_lLE (by omega) h2).mpr hK1)) c_3
      | succ d ih =>
        intro k hk ls hl
        have h2 : ct * 2 ^ k < 2 ^ 63 := Nat.lt_of_le_of_lt (Nat.mul_le_mul hc0 (pw30 (show k ≤ 30 by omega))) (by decide)
        refine lv_iload_n hx hb d_E_shift_28 rfl (lv_at hl 0 rfl) ?_
        refine lv_bipush (v := 30) hx hb d_E_shift_29 (by decide) ?_
        refine lv_icmp_ge (tgt := 53) hx hb d_E_shift_31 (by decide) (fun c_4 => ?_) (fun c_4 => ?_)
        · skip
          exact absurd ((nI_leI (a := 30) (by omega) (by omega)).mp c_4) (by omega)
        · skip
          refine lv_aload_n hx hb d_E_shift_34 rfl (lv_at hl 2 rfl) ?_
          refine va_get (D := D) (ci := 2) (v := .int (nI ct)) (C := R_E) (T := T_E) (N := 5) hx hb hg in_E hown hK hP 0 rfl rfl 3 (by decide) (hg _ gw_86) (fun _ h9 => h9) rfl d_E_shift_35 ?_
          refine lv_i2l (v := lN ct) hx hb d_E_shift_38 (nI_l (by omega)) ?_
          refine lv_iload_n hx hb d_E_shift_39 rfl (lv_at hl 0 rfl) ?_
          refine lv_lshl (v := lN (ct * 2 ^ k)) hx hb d_E_shift_40 (wb_shl ct (by omega)) ?_
          refine lv_iload_n hx hb d_E_shift_41 rfl (lv_at hl 1 rfl) ?_
          refine lv_i2l (v := lN (sm + ct / 2)) hx hb d_E_shift_42 (nI_l (by omega)) ?_
          refine W.lcmp hx hb d_E_shift_43 ?_
          refine lv_if_ge (tgt := 53) hx hb d_E_shift_44 (by decide) (fun c_5 => ?_) (fun c_5 => ?_)
          · skip
            exact absurd ((pk_lLE (by omega) h2).mp ((lg_cmp_ge _ _).mp c_5)) (by have := hK2 k (by omega); omega)
          · skip
            refine lv_iinc (v := nI (k + 1)) (lv' := [(2, .int (nI (k + 1))), (1, .int (nI (sm + ct / 2))), (0, .ref h0)]) hx hb d_E_shift_47 hl (k := 0) rfl (nI_1 k) (by decide) rfl (fun ls hl => ?_)
            refine lv_goto (tgt := 28) hx hb d_E_shift_50 (by decide) ?_
            exact ih (k + 1) (by omega) ls (lv_sub hl [0, 1, 2] rfl)
    exact loop K 0 (by omega) ls hl
  · skip
    exact absurd c_1 (by decide)
set_option maxHeartbeats 4000000 in
set_option maxRecDepth 100000 in
theorem c_E_flags0 (l : Launch) (D : va_G) (h0 : Nat) (fs sm ct ng : Nat) (K : Nat) (hc0 : ct ≤ 64) (hn0 : ng ≤ 64) (hKb : K ≤ 29) : Met l y_E_flagsPositive (WSY y_E_flagsPositive b_E_flagsPositive 2 (some .boolean)) ({ frames := 0, cells := 0, slots := 0, locals := 0 }) (va_Pc [.ref h0, .int (nI K)] (fun U => va_P D CLS [(h0, .inr (2, [.int 0, .int (nI fs), .int (nI sm), .int (nI ct), .int (nI ng)]))] U.heap ∧ va_K D CLS [] U)) (QR (some (.int (if K = 0 ∧ 2 * ng < ct then 1 else 0)))) 0 0 (fun _ => False) := by
  refine Met.ofW (cc := b_E_flagsPositive) (maxL := 2) (ret := (some .boolean)) (by decide) rfl ?_
  intro p e s m args below meth c s₁ B hml hv
  obtain ⟨rfl, hP, hK⟩ := hv
  have hx := B.exec
  have hb := B.bytes
  have hr := B.returns
  have hts := atoms_spec (ws := WSY y_E_flagsPositive b_E_flagsPositive 2 (some .boolean)) B.pre
  have hg : ∀ w ∈ GW, w.before _ s = true := fun w h => hts w (List.mem_cons_of_mem _ h)
  have hown : s.vm.findClass "LineGolomb$Ends" = some m.cls := findClass_of_methodNamed B.named
  have hlocks := B.notSynchronized
  have hS : va_S (fun _ => False) s.heap s.heap [] := va_S.rf
  have hl := lv_entry ([.ref h0, .int (nI K)]) (n := 2) (Nat.le_of_ble_eq_true rfl)
  rw [lg_entry_eq]
  generalize (lg_sl ([.ref h0, .int (nI K)]) ++ List.replicate (2 - (lg_sl ([.ref h0, .int (nI K)])).length) Slot.unset).toArray = ls at hl ⊢
  have hl : lv_has ls 2 [(0, .ref h0), (1, .int (nI K))] := hl
  refine lv_iload_n hx hb d_E_flagsPositive_0 rfl (lv_at hl 1 rfl) ?_
  refine lv_if_ne (tgt := 21) hx hb d_E_flagsPositive_1 (by decide) (fun c_1 => ?_) (fun c_1 => ?_)
  · skip
    have h1 : ¬ K = 0 := fun z => c_1 (by rw [z]; rfl)
    refine lv_iconst (v := 0) hx hb d_E_flagsPositive_21 (by decide) ?_
    refine tpi (y := if K = 0 ∧ 2 * ng < ct then 1 else 0) ((if_neg (fun z => h1 z.1)).symm) ?_
    exact W.zret (v := if K = 0 ∧ 2 * ng < ct then 1 else 0) hx hb hr (by rw [if_neg (fun z => h1 z.1)]; rfl) (fun t ht hW => ⟨rfl, ht⟩) (fun q h => by cases h) d_E_flagsPositive_22
  · skip
    have h1 : K = 0 := by have := (nI_eq (a := K) (b := 0) (by omega) (by omega)).mp c_1; omega
    refine lv_iconst (v := 2) hx hb d_E_flagsPositive_4 (by decide) ?_
    refine lv_aload_n hx hb d_E_flagsPositive_5 rfl (lv_at hl 0 rfl) ?_
    refine va_get (D := D) (ci := 2) (v := .int (nI ng)) (C := R_E) (T := T_E) (N := 5) hx hb hg in_E hown hK hP 0 rfl rfl 4 (by decide) (hg _ gw_88) (fun _ h9 => h9) rfl d_E_flagsPositive_6 ?_
    refine lv_imul hx hb d_E_flagsPositive_9 ?_
    refine tpi (y := nI (2 * ng)) (mul2 ng) ?_
    refine lv_aload_n hx hb d_E_flagsPositive_10 rfl (lv_at hl 0 rfl) ?_
    refine va_get (D := D) (ci := 2) (v := .int (nI ct)) (C := R_E) (T := T_E) (N := 5) hx hb hg in_E hown hK hP 0 rfl rfl 3 (by decide) (hg _ gw_86) (fun _ h9 => h9) rfl d_E_flagsPositive_11 ?_
    refine lv_icmp_ge (tgt := 21) hx hb d_E_flagsPositive_14 (by decide) (fun c_2 => ?_) (fun c_2 => ?_)
    · skip
      have h2 := (nI_leI (by omega) (by omega)).mp c_2
      refine lv_iconst (v := 0) hx hb d_E_flagsPositive_21 (by decide) ?_
      refine tpi (y := if K = 0 ∧ 2 * ng < ct then 1 else 0) ((if_neg (fun z => by omega)).symm) ?_
      exact W.zret (v := if K = 0 ∧ 2 * ng < ct then 1 else 0) hx hb hr (by rw [if_neg (fun z => by omega)]; rfl) (fun t ht hW => ⟨rfl, ht⟩) (fun q h => by cases h) d_E_flagsPositive_22
    · skip
      have h2 : ¬ ct ≤ 2 * ng := fun z => c_2 ((nI_leI (by omega) (by omega)).mpr z)
      refine lv_iconst (v := 1) hx hb d_E_flagsPositive_17 (by decide) ?_
      refine lv_goto (tgt := 22) hx hb d_E_flagsPositive_18 (by decide) ?_
      refine tpi (y := if K = 0 ∧ 2 * ng < ct then 1 else 0) ((if_pos ⟨h1, by omega⟩).symm) ?_
      exact W.zret (v := if K = 0 ∧ 2 * ng < ct then 1 else 0) hx hb hr (by rw [if_pos ⟨h1, by omega⟩]; rfl) (fun t ht hW => ⟨rfl, ht⟩) (fun q h => by cases h) d_E_flagsPositive_22
set_option maxHeartbeats 4000000 in
set_option maxRecDepth 100000 in
theorem c_E_flags1 (l : Launch) (D : va_G) (h0 : Nat) (fs sm ct ng : Nat) (K : Nat) (hc0 : ct ≤ 64) (hn0 : ng ≤ 64) (hKb : K ≤ 29) : Met l y_E_flagsPositive (WSY y_E_flagsPositive b_E_flagsPositive 2 (some .boolean)) ({ frames := 0, cells := 0, slots := 0, locals := 0 }) (va_Pc [.ref h0, .int (nI K)] (fun U => va_P D CLS [(h0, .inr (2, [.int 1, .int (nI fs), .int (nI sm), .int (nI ct), .int (nI ng)]))] U.heap ∧ va_K D CLS [] U)) (QR (some (.int (if K = 0 ∧ 2 * ng < ct then 1 else 0)))) 0 0 (fun _ => False) := by
  refine Met.ofW (cc := b_E_flagsPositive) (maxL := 2) (ret := (some .boolean)) (by decide) rfl ?_
  intro p e s m args below meth c s₁ B hml hv
  obtain ⟨rfl, hP, hK⟩ := hv
  have hx := B.exec
  have hb := B.bytes
  have hr := B.returns
  have hts := atoms_spec (ws := WSY y_E_flagsPositive b_E_flagsPositive 2 (some .boolean)) B.pre
  have hg : ∀ w ∈ GW, w.before _ s = true := fun w h => hts w (List.mem_cons_of_mem _ h)
  have hown : s.vm.findClass "LineGolomb$Ends" = some m.cls := findClass_of_methodNamed B.named
  have hlocks := B.notSynchronized
  have hS : va_S (fun _ => False) s.heap s.heap [] := va_S.rf
  have hl := lv_entry ([.ref h0, .int (nI K)]) (n := 2) (Nat.le_of_ble_eq_true rfl)
  rw [lg_entry_eq]
  generalize (lg_sl ([.ref h0, .int (nI K)]) ++ List.replicate (2 - (lg_sl ([.ref h0, .int (nI K)])).length) Slot.unset).toArray = ls at hl ⊢
  have hl : lv_has ls 2 [(0, .ref h0), (1, .int (nI K))] := hl
  refine lv_iload_n hx hb d_E_flagsPositive_0 rfl (lv_at hl 1 rfl) ?_
  refine lv_if_ne (tgt := 21) hx hb d_E_flagsPositive_1 (by decide) (fun c_1 => ?_) (fun c_1 => ?_)
  · skip
    have h1 : ¬ K = 0 := fun z => c_1 (by rw [z]; rfl)
    refine lv_iconst (v := 0) hx hb d_E_flagsPositive_21 (by decide) ?_
    refine tpi (y := if K = 0 ∧ 2 * ng < ct then 1 else 0) ((if_neg (fun z => h1 z.1)).symm) ?_
    exact W.zret (v := if K = 0 ∧ 2 * ng < ct then 1 else 0) hx hb hr (by rw [if_neg (fun z => h1 z.1)]; rfl) (fun t ht hW => ⟨rfl, ht⟩) (fun q h => by cases h) d_E_flagsPositive_22
  · skip
    have h1 : K = 0 := by have := (nI_eq (a := K) (b := 0) (by omega) (by omega)).mp c_1; omega
    refine lv_iconst (v := 2) hx hb d_E_flagsPositive_4 (by decide) ?_
    refine lv_aload_n hx hb d_E_flagsPositive_5 rfl (lv_at hl 0 rfl) ?_
    refine va_get (D := D) (ci := 2) (v := .int (nI ng)) (C := R_E) (T := T_E) (N := 5) hx hb hg in_E hown hK hP 0 rfl rfl 4 (by decide) (hg _ gw_88) (fun _ h9 => h9) rfl d_E_flagsPositive_6 ?_
    refine lv_imul hx hb d_E_flagsPositive_9 ?_
    refine tpi (y := nI (2 * ng)) (mul2 ng) ?_
    refine lv_aload_n hx hb d_E_flagsPositive_10 rfl (lv_at hl 0 rfl) ?_
    refine va_get (D := D) (ci := 2) (v := .int (nI ct)) (C := R_E) (T := T_E) (N := 5) hx hb hg in_E hown hK hP 0 rfl rfl 3 (by decide) (hg _ gw_86) (fun _ h9 => h9) rfl d_E_flagsPositive_11 ?_
    refine lv_icmp_ge (tgt := 21) hx hb d_E_flagsPositive_14 (by decide) (fun c_2 => ?_) (fun c_2 => ?_)
    · skip
      have h2 := (nI_leI (by omega) (by omega)).mp c_2
      refine lv_iconst (v := 0) hx hb d_E_flagsPositive_21 (by decide) ?_
      refine tpi (y := if K = 0 ∧ 2 * ng < ct then 1 else 0) ((if_neg (fun z => by omega)).symm) ?_
      exact W.zret (v := if K = 0 ∧ 2 * ng < ct then 1 else 0) hx hb hr (by rw [if_neg (fun z => by omega)]; rfl) (fun t ht hW => ⟨rfl, ht⟩) (fun q h => by cases h) d_E_flagsPositive_22
    · skip
      have h2 : ¬ ct ≤ 2 * ng := fun z => c_2 ((nI_leI (by omega) (by omega)).mpr z)
      refine lv_iconst (v := 1) hx hb d_E_flagsPositive_17 (by decide) ?_
      refine lv_goto (tgt := 22) hx hb d_E_flagsPositive_18 (by decide) ?_
      refine tpi (y := if K = 0 ∧ 2 * ng < ct then 1 else 0) ((if_pos ⟨h1, by omega⟩).symm) ?_
      exact W.zret (v := if K = 0 ∧ 2 * ng < ct then 1 else 0) hx hb hr (by rw [if_pos ⟨h1, by omega⟩]; rfl) (fun t ht hW => ⟨rfl, ht⟩) (fun q h => by cases h) d_E_flagsPositive_22
set_option maxHeartbeats 4000000 in
set_option maxRecDepth 100000 in
theorem c_E_learn0P (l : Launch) (D : va_G) (h0 : Nat) (fs sm ct ng : Nat) (n N : Nat) (hc0 : ct ≤ 64) (hn0 : ng ≤ 64) (hs0 : sm < 2 ^ 29) (hN : N < 2 ^ 29) (hn : n < 2 ^ 30) : Met l y_E_learn (WSY y_E_learn b_E_learn 3 none) ({ frames := 0, cells := 0, slots := 0, locals := 0 }) (va_Pc [.ref h0, .int (nI n), .int (nI N)] (fun U => va_P D CLS [(h0, .inr (2, [.int 0, .int (nI fs), .int (nI sm), .int (nI ct), .int (nI ng)]))] U.heap ∧ va_K D CLS [] U ∧ va_D (fun _ => True) [(h0, .inr (2, [.int 0, .int (nI fs), .int (nI sm), .int (nI ct), .int (nI ng)]))])) (QM none [(h0, .inr (2, [.int 0, .int (nI fs), .int (nI sm), .int (nI ct), .int (nI ng)]))] [(h0, .inr (2, [.int 0, .int (nI fs), .int (nI (hvd ct (sm + (N + 1 - 0) / 2))), .int (nI (hvd ct ct + 1)), .int (nI (hvd ct ng))]))] D) 0 0 (ad [(h0, .inr (2, [.int 0, .int (nI fs), .int (nI sm), .int (nI ct), .int (nI ng)]))]) := by
  refine Met.ofW (cc := b_E_learn) (maxL := 3) (ret := none) (by decide) rfl ?_
  intro p e s m args below meth c s₁ B hml hv
  obtain ⟨rfl, hP, hK, hD0⟩ := hv
  have hx := B.exec
  have hb := B.bytes
  have hr := B.returns
  have hts := atoms_spec (ws := WSY y_E_learn b_E_learn 3 none) B.pre
  have hg : ∀ w ∈ GW, w.before _ s = true := fun w h => hts w (List.mem_cons_of_mem _ h)
  have hown : s.vm.findClass "LineGolomb$Ends" = some m.cls := findClass_of_methodNamed B.named
  have hlocks := B.notSynchronized
  obtain ⟨A, hAe⟩ : ∃ A, A = ad [(h0, .inr (2, [.int 0, .int (nI fs), .int (nI sm), .int (nI ct), .int (nI ng)]))] := ⟨_, rfl⟩
  have hD : va_D A [(h0, .inr (2, [.int 0, .int (nI fs), .int (nI sm), .int (nI ct), .int (nI ng)]))] := by rw [hAe]; exact va_D_ad hD0
  have hS : va_S A s.heap s.heap [] := va_S.rf
  have hl := lv_entry ([.ref h0, .int (nI n), .int (nI N)]) (n := 3) (Nat.le_of_ble_eq_true rfl)
  rw [lg_entry_eq]
  generalize (lg_sl ([.ref h0, .int (nI n), .int (nI N)]) ++ List.replicate (3 - (lg_sl ([.ref h0, .int (nI n), .int (nI N)])).length) Slot.unset).toArray = ls at hl ⊢
  have hl : lv_has ls 3 [(0, .ref h0), (1, .int (nI n)), (2, .int (nI N))] := hl
  refine lv_iload_n hx hb d_E_learn_0 rfl (lv_at hl 1 rfl) ?_
  refine lv_if_ge (tgt := 14) hx hb d_E_learn_1 (by decide) (fun c_1 => ?_) (fun c_1 => ?_)
  · skip
    refine lv_aload_n hx hb d_E_learn_14 rfl (lv_at hl 0 rfl) ?_
    refine lv_dup hx hb d_E_learn_15 rfl ?_
    refine va_get (D := D) (ci := 2) (v := .int (nI sm)) (C := R_E) (T := T_E) (N := 5) hx hb hg in_E hown hK hP 0 rfl rfl 2 (by decide) (hg _ gw_84) (fun _ h9 => h9) rfl d_E_learn_16 ?_
    refine lv_iload_n hx hb d_E_learn_19 rfl (lv_at hl 2 rfl) ?_
    refine lv_iconst (v := 1) hx hb d_E_learn_20 (by decide) ?_
    refine lv_iadd hx hb d_E_learn_21 ?_
    refine tpi (y := nI (N + 1)) (nI_1 N) ?_
    refine lv_aload_n hx hb d_E_learn_22 rfl (lv_at hl 0 rfl) ?_
    refine va_get (D := D) (ci := 2) (v := .int 0) (C := R_E) (T := T_E) (N := 5) hx hb hg in_E hown hK hP 0 rfl rfl 0 (by decide) (hg _ gw_82) (fun _ h9 => h9) rfl d_E_learn_23 ?_
    refine lv_isub hx hb d_E_learn_26 ?_
    refine tpi (y := nI (N + 1 - 0)) (pk_sub (b := 0) (by omega)) ?_
    refine lv_iconst (v := 2) hx hb d_E_learn_27 (by decide) ?_
    refine lv_idiv hx hb d_E_learn_28 (by decide) ?_
    refine tpi (y := nI ((N + 1 - 0) / 2)) (div2 (by omega)) ?_
    refine lv_iadd hx hb d_E_learn_29 ?_
    refine tpi (y := nI (sm + (N + 1 - 0) / 2)) (nI_add _ _) ?_
    refine va_put (D := D) (ci := 2) (v := .int (nI (sm + (N + 1 - 0) / 2))) (ty := .int) (C := R_E) (T := T_E) (N := 5) hx hb hg in_E ty_E tok_E nm_E hown hK hP hD hS 0 rfl rfl 2 (by decide) (hg _ gw_84) (fun _ h9 => h9) rfl (by decide +kernel) (rfl) (rfl) (Nat.le_of_ble_eq_true rfl) d_E_learn_30 (fun H locs hP hD hS => ?_)
    have hP : va_P D CLS [(h0, .inr (2, [.int 0, .int (nI fs), .int (nI (sm + (N + 1 - 0) / 2)), .int (nI ct), .int (nI ng)]))] H := hP
    have hD : va_D A [(h0, .inr (2, [.int 0, .int (nI fs), .int (nI (sm + (N + 1 - 0) / 2)), .int (nI ct), .int (nI ng)]))] := hD
    refine lv_aload_n hx hb d_E_learn_33 rfl (lv_at hl 0 rfl) ?_
    refine va_get (D := D) (ci := 2) (v := .int (nI ct)) (C := R_E) (T := T_E) (N := 5) hx hb hg in_E hown hK hP 0 rfl rfl 3 (by decide) (hg _ gw_86) (fun _ h9 => h9) rfl d_E_learn_34 ?_
    refine lv_bipush (v := 64) hx hb d_E_learn_37 (by decide) ?_
    refine lv_icmp_ne (tgt := 72) hx hb d_E_learn_39 (by decide) (fun c_2 => ?_) (fun c_2 => ?_)
    · skip
      have h2 : ¬ ct = 64 := fun z => c_2 (by rw [z]; rfl)
      refine lv_aload_n hx hb d_E_learn_72 rfl (lv_at hl 0 rfl) ?_
      refine lv_dup hx hb d_E_learn_73 rfl ?_
      refine va_get (D := D) (ci := 2) (v := .int (nI ct)) (C := R_E) (T := T_E) (N := 5) hx hb hg in_E hown hK hP 0 rfl rfl 3 (by decide) (hg _ gw_86) (fun _ h9 => h9) rfl d_E_learn_74 ?_
      refine lv_iconst (v := 1) hx hb d_E_learn_77 (by decide) ?_
      refine lv_iadd hx hb d_E_learn_78 ?_
      refine tpi (y := nI (hvd ct ct + 1)) (by rw [show hvd ct ct = ct from if_neg h2]; exact nI_1 ct) ?_
      refine va_put (D := D) (ci := 2) (v := .int (nI (hvd ct ct + 1))) (ty := .int) (C := R_E) (T := T_E) (N := 5) hx hb hg in_E ty_E tok_E nm_E hown hK hP hD hS 0 rfl rfl 3 (by decide) (hg _ gw_86) (fun _ h9 => h9) rfl (by decide +kernel) (rfl) (rfl) (Nat.le_of_ble_eq_true rfl) d_E_learn_79 (fun H locs hP hD hS => ?_)
      have hP : va_P D CLS [(h0, .inr (2, [.int 0, .int (nI fs), .int (nI (sm + (N + 1 - 0) / 2)), .int (nI (hvd ct ct + 1)), .int (nI ng)]))] H := hP
      have hD : va_D A [(h0, .inr (2, [.int 0, .int (nI fs), .int (nI (sm + (N + 1 - 0) / 2)), .int (nI (hvd ct ct + 1)), .int (nI ng)]))] := hD
      rw [show nI (sm + (N + 1 - 0) / 2) = nI (hvd ct (sm + (N + 1 - 0) / 2)) by rw [show hvd ct (sm + (N + 1 - 0) / 2) = sm + (N + 1 - 0) / 2 from if_neg h2], show nI ng = nI (hvd ct ng) by rw [show hvd ct ng = ng from if_neg h2]] at hP
      exact W.vret hx hb hr (fun t ht hW => ⟨rfl, by rw [ht]; exact hP, (hAe ▸ hS).F ht⟩) (hAe ▸ hS).2.2 d_E_learn_82
    · skip
      have h2 : ct = 64 := (nI_eq (b := 64) (by omega) (by omega)).mp c_2
      refine lv_aload_n hx hb d_E_learn_42 rfl (lv_at hl 0 rfl) ?_
      refine lv_dup hx hb d_E_learn_43 rfl ?_
      refine va_get (D := D) (ci := 2) (v := .int (nI (sm + (N + 1 - 0) / 2))) (C := R_E) (T := T_E) (N := 5) hx hb hg in_E hown hK hP 0 rfl rfl 2 (by decide) (hg _ gw_84) (fun _ h9 => h9) rfl d_E_learn_44 ?_
      refine lv_iconst (v := 2) hx hb d_E_learn_47 (by decide) ?_
      refine lv_idiv hx hb d_E_learn_48 (by decide) ?_
      refine tpi (y := nI (hvd ct (sm + (N + 1 - 0) / 2))) (by rw [show hvd ct (sm + (N + 1 - 0) / 2) = (sm + (N + 1 - 0) / 2) / 2 from if_pos h2]; exact div2 (by omega)) ?_
      refine va_put (D := D) (ci := 2) (v := .int (nI (hvd ct (sm + (N + 1 - 0) / 2)))) (ty := .int) (C := R_E) (T := T_E) (N := 5) hx hb hg in_E ty_E tok_E nm_E hown hK hP hD hS 0 rfl rfl 2 (by decide) (hg _ gw_84) (fun _ h9 => h9) rfl (by decide +kernel) (rfl) (rfl) (Nat.le_of_ble_eq_true rfl) d_E_learn_49 (fun H locs hP hD hS => ?_)
      have hP : va_P D CLS [(h0, .inr (2, [.int 0, .int (nI fs), .int (nI (hvd ct (sm + (N + 1 - 0) / 2))), .int (nI ct), .int (nI ng)]))] H := hP
      have hD : va_D A [(h0, .inr (2, [.int 0, .int (nI fs), .int (nI (hvd ct (sm + (N + 1 - 0) / 2))), .int (nI ct), .int (nI ng)]))] := hD
      refine lv_aload_n hx hb d_E_learn_52 rfl (lv_at hl 0 rfl) ?_
      refine lv_dup hx hb d_E_learn_53 rfl ?_
      refine va_get (D := D) (ci := 2) (v := .int (nI ct)) (C := R_E) (T := T_E) (N := 5) hx hb hg in_E hown hK hP 0 rfl rfl 3 (by decide) (hg _ gw_86) (fun _ h9 => h9) rfl d_E_learn_54 ?_
      refine lv_iconst (v := 2) hx hb d_E_learn_57 (by decide) ?_
      refine lv_idiv hx hb d_E_learn_58 (by decide) ?_
      refine tpi (y := nI (hvd ct ct)) (by rw [show hvd ct ct = ct / 2 from if_pos h2]; exact div2 (by omega)) ?_
      refine va_put (D := D) (ci := 2) (v := .int (nI (hvd ct ct))) (ty := .int) (C := R_E) (T := T_E) (N := 5) hx hb hg in_E ty_E tok_E nm_E hown hK hP hD hS 0 rfl rfl 3 (by decide) (hg _ gw_86) (fun _ h9 => h9) rfl (by decide +kernel) (rfl) (rfl) (Nat.le_of_ble_eq_true rfl) d_E_learn_59 (fun H locs hP hD hS => ?_)
      have hP : va_P D CLS [(h0, .inr (2, [.int 0, .int (nI fs), .int (nI (hvd ct (sm + (N + 1 - 0) / 2))), .int (nI (hvd ct ct)), .int (nI ng)]))] H := hP
      have hD : va_D A [(h0, .inr (2, [.int 0, .int (nI fs), .int (nI (hvd ct (sm + (N + 1 - 0) / 2))), .int (nI (hvd ct ct)), .int (nI ng)]))] := hD
      refine lv_aload_n hx hb d_E_learn_62 rfl (lv_at hl 0 rfl) ?_
      refine lv_dup hx hb d_E_learn_63 rfl ?_
      refine va_get (D := D) (ci := 2) (v := .int (nI ng)) (C := R_E) (T := T_E) (N := 5) hx hb hg in_E hown hK hP 0 rfl rfl 4 (by decide) (hg _ gw_88) (fun _ h9 => h9) rfl d_E_learn_64 ?_
      refine lv_iconst (v := 2) hx hb d_E_learn_67 (by decide) ?_
      refine lv_idiv hx hb d_E_learn_68 (by decide) ?_
      refine tpi (y := nI (hvd ct ng)) (by rw [show hvd ct ng = ng / 2 from if_pos h2]; exact div2 (by omega)) ?_
      refine va_put (D := D) (ci := 2) (v := .int (nI (hvd ct ng))) (ty := .int) (C := R_E) (T := T_E) (N := 5) hx hb hg in_E ty_E tok_E nm_E hown hK hP hD hS 0 rfl rfl 4 (by decide) (hg _ gw_88) (fun _ h9 => h9) rfl (by decide +kernel) (rfl) (rfl) (Nat.le_of_ble_eq_true rfl) d_E_learn_69 (fun H locs hP hD hS => ?_)
      have hP : va_P D CLS [(h0, .inr (2, [.int 0, .int (nI fs), .int (nI (hvd ct (sm + (N + 1 - 0) / 2))), .int (nI (hvd ct ct)), .int (nI (hvd ct ng))]))] H := hP
      have hD : va_D A [(h0, .inr (2, [.int 0, .int (nI fs), .int (nI (hvd ct (sm + (N + 1 - 0) / 2))), .int (nI (hvd ct ct)), .int (nI (hvd ct ng))]))] := hD
      refine lv_aload_n hx hb d_E_learn_72 rfl (lv_at hl 0 rfl) ?_
      refine lv_dup hx hb d_E_learn_73 rfl ?_
      refine va_get (D := D) (ci := 2) (v := .int (nI (hvd ct ct))) (C := R_E) (T := T_E) (N := 5) hx hb hg in_E hown hK hP 0 rfl rfl 3 (by decide) (hg _ gw_86) (fun _ h9 => h9) rfl d_E_learn_74 ?_
      refine lv_iconst (v := 1) hx hb d_E_learn_77 (by decide) ?_
      refine lv_iadd hx hb d_E_learn_78 ?_
      refine tpi (y := nI (hvd ct ct + 1)) (nI_1 _) ?_
      refine va_put (D := D) (ci := 2) (v := .int (nI (hvd ct ct + 1))) (ty := .int) (C := R_E) (T := T_E) (N := 5) hx hb hg in_E ty_E tok_E nm_E hown hK hP hD hS 0 rfl rfl 3 (by decide) (hg _ gw_86) (fun _ h9 => h9) rfl (by decide +kernel) (rfl) (rfl) (Nat.le_of_ble_eq_true rfl) d_E_learn_79 (fun H locs hP hD hS => ?_)
      have hP : va_P D CLS [(h0, .inr (2, [.int 0, .int (nI fs), .int (nI (hvd ct (sm + (N + 1 - 0) / 2))), .int (nI (hvd ct ct + 1)), .int (nI (hvd ct ng))]))] H := hP
      have hD : va_D A [(h0, .inr (2, [.int 0, .int (nI fs), .int (nI (hvd ct (sm + (N + 1 - 0) / 2))), .int (nI (hvd ct ct + 1)), .int (nI (hvd ct ng))]))] := hD
      exact W.vret hx hb hr (fun t ht hW => ⟨rfl, by rw [ht]; exact hP, (hAe ▸ hS).F ht⟩) (hAe ▸ hS).2.2 d_E_learn_82
  · skip
    exact absurd (nI_pos' (by omega)) c_1
set_option maxHeartbeats 4000000 in
set_option maxRecDepth 100000 in
theorem c_E_learn0N (l : Launch) (D : va_G) (h0 : Nat) (fs sm ct ng : Nat) (n N : Nat) (hc0 : ct ≤ 64) (hn0 : ng ≤ 64) (hs0 : sm < 2 ^ 29) (hN : N < 2 ^ 29) (hn : n < 2 ^ 30) (hn1 : 0 < n) : Met l y_E_learn (WSY y_E_learn b_E_learn 3 none) ({ frames := 0, cells := 0, slots := 0, locals := 0 }) (va_Pc [.ref h0, .int (-nI n), .int (nI N)] (fun U => va_P D CLS [(h0, .inr (2, [.int 0, .int (nI fs), .int (nI sm), .int (nI ct), .int (nI ng)]))] U.heap ∧ va_K D CLS [] U ∧ va_D (fun _ => True) [(h0, .inr (2, [.int 0, .int (nI fs), .int (nI sm), .int (nI ct), .int (nI ng)]))])) (QM none [(h0, .inr (2, [.int 0, .int (nI fs), .int (nI sm), .int (nI ct), .int (nI ng)]))] [(h0, .inr (2, [.int 0, .int (nI fs), .int (nI (hvd ct (sm + (N + 1 - 0) / 2))), .int (nI (hvd ct ct + 1)), .int (nI (hvd ct (ng + 1)))]))] D) 0 0 (ad [(h0, .inr (2, [.int 0, .int (nI fs), .int (nI sm), .int (nI ct), .int (nI ng)]))]) := by
  refine Met.ofW (cc := b_E_learn) (maxL := 3) (ret := none) (by decide) rfl ?_
  intro p e s m args below meth c s₁ B hml hv
  obtain ⟨rfl, hP, hK, hD0⟩ := hv
  have hx := B.exec
  have hb := B.bytes
  have hr := B.returns
  have hts := atoms_spec (ws := WSY y_E_learn b_E_learn 3 none) B.pre
  have hg : ∀ w ∈ GW, w.before _ s = true := fun w h => hts w (List.mem_cons_of_mem _ h)
  have hown : s.vm.findClass "LineGolomb$Ends" = some m.cls := findClass_of_methodNamed B.named
  have hlocks := B.notSynchronized
  obtain ⟨A, hAe⟩ : ∃ A, A = ad [(h0, .inr (2, [.int 0, .int (nI fs), .int (nI sm), .int (nI ct), .int (nI ng)]))] := ⟨_, rfl⟩
  have hD : va_D A [(h0, .inr (2, [.int 0, .int (nI fs), .int (nI sm), .int (nI ct), .int (nI ng)]))] := by rw [hAe]; exact va_D_ad hD0
  have hS : va_S A s.heap s.heap [] := va_S.rf
  have hl := lv_entry ([.ref h0, .int (-nI n), .int (nI N)]) (n := 3) (Nat.le_of_ble_eq_true rfl)
  rw [lg_entry_eq]
  generalize (lg_sl ([.ref h0, .int (-nI n), .int (nI N)]) ++ List.replicate (3 - (lg_sl ([.ref h0, .int (-nI n), .int (nI N)])).length) Slot.unset).toArray = ls at hl ⊢
  have hl : lv_has ls 3 [(0, .ref h0), (1, .int (-nI n)), (2, .int (nI N))] := hl
  refine lv_iload_n hx hb d_E_learn_0 rfl (lv_at hl 1 rfl) ?_
  refine lv_if_ge (tgt := 14) hx hb d_E_learn_1 (by decide) (fun c_1 => ?_) (fun c_1 => ?_)
  · skip
    exact absurd c_1 (by rw [leT, ngT (by omega), zT]; omega)
  · skip
    refine lv_aload_n hx hb d_E_learn_4 rfl (lv_at hl 0 rfl) ?_
    refine lv_dup hx hb d_E_learn_5 rfl ?_
    refine va_get (D := D) (ci := 2) (v := .int (nI ng)) (C := R_E) (T := T_E) (N := 5) hx hb hg in_E hown hK hP 0 rfl rfl 4 (by decide) (hg _ gw_88) (fun _ h9 => h9) rfl d_E_learn_6 ?_
    refine lv_iconst (v := 1) hx hb d_E_learn_9 (by decide) ?_
    refine lv_iadd hx hb d_E_learn_10 ?_
    refine tpi (y := nI (ng + 1)) (nI_1 ng) ?_
    refine va_put (D := D) (ci := 2) (v := .int (nI (ng + 1))) (ty := .int) (C := R_E) (T := T_E) (N := 5) hx hb hg in_E ty_E tok_E nm_E hown hK hP hD hS 0 rfl rfl 4 (by decide) (hg _ gw_88) (fun _ h9 => h9) rfl (by decide +kernel) (rfl) (rfl) (Nat.le_of_ble_eq_true rfl) d_E_learn_11 (fun H locs hP hD hS => ?_)
    have hP : va_P D CLS [(h0, .inr (2, [.int 0, .int (nI fs), .int (nI sm), .int (nI ct), .int (nI (ng + 1))]))] H := hP
    have hD : va_D A [(h0, .inr (2, [.int 0, .int (nI fs), .int (nI sm), .int (nI ct), .int (nI (ng + 1))]))] := hD
    refine lv_aload_n hx hb d_E_learn_14 rfl (lv_at hl 0 rfl) ?_
    refine lv_dup hx hb d_E_learn_15 rfl ?_
    refine va_get (D := D) (ci := 2) (v := .int (nI sm)) (C := R_E) (T := T_E) (N := 5) hx hb hg in_E hown hK hP 0 rfl rfl 2 (by decide) (hg _ gw_84) (fun _ h9 => h9) rfl d_E_learn_16 ?_
    refine lv_iload_n hx hb d_E_learn_19 rfl (lv_at hl 2 rfl) ?_
    refine lv_iconst (v := 1) hx hb d_E_learn_20 (by decide) ?_
    refine lv_iadd hx hb d_E_learn_21 ?_
    refine tpi (y := nI (N + 1)) (nI_1 N) ?_
    refine lv_aload_n hx hb d_E_learn_22 rfl (lv_at hl 0 rfl) ?_
    refine va_get (D := D) (ci := 2) (v := .int 0) (C := R_E) (T := T_E) (N := 5) hx hb hg in_E hown hK hP 0 rfl rfl 0 (by decide) (hg _ gw_82) (fun _ h9 => h9) rfl d_E_learn_23 ?_
    refine lv_isub hx hb d_E_learn_26 ?_
    refine tpi (y := nI (N + 1 - 0)) (pk_sub (b := 0) (by omega)) ?_
    refine lv_iconst (v := 2) hx hb d_E_learn_27 (by decide) ?_
    refine lv_idiv hx hb d_E_learn_28 (by decide) ?_
    refine tpi (y := nI ((N + 1 - 0) / 2)) (div2 (by omega)) ?_
    refine lv_iadd hx hb d_E_learn_29 ?_
    refine tpi (y := nI (sm + (N + 1 - 0) / 2)) (nI_add _ _) ?_
    refine va_put (D := D) (ci := 2) (v := .int (nI (sm + (N + 1 - 0) / 2))) (ty := .int) (C := R_E) (T := T_E) (N := 5) hx hb hg in_E ty_E tok_E nm_E hown hK hP hD hS 0 rfl rfl 2 (by decide) (hg _ gw_84) (fun _ h9 => h9) rfl (by decide +kernel) (rfl) (rfl) (Nat.le_of_ble_eq_true rfl) d_E_learn_30 (fun H locs hP hD hS => ?_)
    have hP : va_P D CLS [(h0, .inr (2, [.int 0, .int (nI fs), .int (nI (sm + (N + 1 - 0) / 2)), .int (nI ct), .int (nI (ng + 1))]))] H := hP
    have hD : va_D A [(h0, .inr (2, [.int 0, .int (nI fs), .int (nI (sm + (N + 1 - 0) / 2)), .int (nI ct), .int (nI (ng + 1))]))] := hD
    refine lv_aload_n hx hb d_E_learn_33 rfl (lv_at hl 0 rfl) ?_
    refine va_get (D := D) (ci := 2) (v := .int (nI ct)) (C := R_E) (T := T_E) (N := 5) hx hb hg in_E hown hK hP 0 rfl rfl 3 (by decide) (hg _ gw_86) (fun _ h9 => h9) rfl d_E_learn_34 ?_
    refine lv_bipush (v := 64) hx hb d_E_learn_37 (by decide) ?_
    refine lv_icmp_ne (tgt := 72) hx hb d_E_learn_39 (by decide) (fun c_2 => ?_) (fun c_2 => ?_)
    · skip
      have h2 : ¬ ct = 64 := fun z => c_2 (by rw [z]; rfl)
      refine lv_aload_n hx hb d_E_learn_72 rfl (lv_at hl 0 rfl) ?_
      refine lv_dup hx hb d_E_learn_73 rfl ?_
      refine va_get (D := D) (ci := 2) (v := .int (nI ct)) (C := R_E) (T := T_E) (N := 5) hx hb hg in_E hown hK hP 0 rfl rfl 3 (by decide) (hg _ gw_86) (fun _ h9 => h9) rfl d_E_learn_74 ?_
      refine lv_iconst (v := 1) hx hb d_E_learn_77 (by decide) ?_
      refine lv_iadd hx hb d_E_learn_78 ?_
      refine tpi (y := nI (hvd ct ct + 1)) (by rw [show hvd ct ct = ct from if_neg h2]; exact nI_1 ct) ?_
      refine va_put (D := D) (ci := 2) (v := .int (nI (hvd ct ct + 1))) (ty := .int) (C := R_E) (T := T_E) (N := 5) hx hb hg in_E ty_E tok_E nm_E hown hK hP hD hS 0 rfl rfl 3 (by decide) (hg _ gw_86) (fun _ h9 => h9) rfl (by decide +kernel) (rfl) (rfl) (Nat.le_of_ble_eq_true rfl) d_E_learn_79 (fun H locs hP hD hS => ?_)
      have hP : va_P D CLS [(h0, .inr (2, [.int 0, .int (nI fs), .int (nI (sm + (N + 1 - 0) / 2)), .int (nI (hvd ct ct + 1)), .int (nI (ng + 1))]))] H := hP
      have hD : va_D A [(h0, .inr (2, [.int 0, .int (nI fs), .int (nI (sm + (N + 1 - 0) / 2)), .int (nI (hvd ct ct + 1)), .int (nI (ng + 1))]))] := hD
      rw [show nI (sm + (N + 1 - 0) / 2) = nI (hvd ct (sm + (N + 1 - 0) / 2)) by rw [show hvd ct (sm + (N + 1 - 0) / 2) = sm + (N + 1 - 0) / 2 from if_neg h2], show nI (ng + 1) = nI (hvd ct (ng + 1)) by rw [show hvd ct (ng + 1) = (ng + 1) from if_neg h2]] at hP
      exact W.vret hx hb hr (fun t ht hW => ⟨rfl, by rw [ht]; exact hP, (hAe ▸ hS).F ht⟩) (hAe ▸ hS).2.2 d_E_learn_82
    · skip
      have h2 : ct = 64 := (nI_eq (b := 64) (by omega) (by omega)).mp c_2
      refine lv_aload_n hx hb d_E_learn_42 rfl (lv_at hl 0 rfl) ?_
      refine lv_dup hx hb d_E_learn_43 rfl ?_
      refine va_get (D := D) (ci := 2) (v := .int (nI (sm + (N + 1 - 0) / 2))) (C := R_E) (T := T_E) (N := 5) hx hb hg in_E hown hK hP 0 rfl rfl 2 (by decide) (hg _ gw_84) (fun _ h9 => h9) rfl d_E_learn_44 ?_
      refine lv_iconst (v := 2) hx hb d_E_learn_47 (by decide) ?_
      refine lv_idiv hx hb d_E_learn_48 (by decide) ?_
      refine tpi (y := nI (hvd ct (sm + (N + 1 - 0) / 2))) (by rw [show hvd ct (sm + (N + 1 - 0) / 2) = (sm + (N + 1 - 0) / 2) / 2 from if_pos h2]; exact div2 (by omega)) ?_
      refine va_put (D := D) (ci := 2) (v := .int (nI (hvd ct (sm + (N + 1 - 0) / 2)))) (ty := .int) (C := R_E) (T := T_E) (N := 5) hx hb hg in_E ty_E tok_E nm_E hown hK hP hD hS 0 rfl rfl 2 (by decide) (hg _ gw_84) (fun _ h9 => h9) rfl (by decide +kernel) (rfl) (rfl) (Nat.le_of_ble_eq_true rfl) d_E_learn_49 (fun H locs hP hD hS => ?_)
      have hP : va_P D CLS [(h0, .inr (2, [.int 0, .int (nI fs), .int (nI (hvd ct (sm + (N + 1 - 0) / 2))), .int (nI ct), .int (nI (ng + 1))]))] H := hP
      have hD : va_D A [(h0, .inr (2, [.int 0, .int (nI fs), .int (nI (hvd ct (sm + (N + 1 - 0) / 2))), .int (nI ct), .int (nI (ng + 1))]))] := hD
      refine lv_aload_n hx hb d_E_learn_52 rfl (lv_at hl 0 rfl) ?_
      refine lv_dup hx hb d_E_learn_53 rfl ?_
      refine va_get (D := D) (ci := 2) (v := .int (nI ct)) (C := R_E) (T := T_E) (N := 5) hx hb hg in_E hown hK hP 0 rfl rfl 3 (by decide) (hg _ gw_86) (fun _ h9 => h9) rfl d_E_learn_54 ?_
      refine lv_iconst (v := 2) hx hb d_E_learn_57 (by decide) ?_
      refine lv_idiv hx hb d_E_learn_58 (by decide) ?_
      refine tpi (y := nI (hvd ct ct)) (by rw [show hvd ct ct = ct / 2 from if_pos h2]; exact div2 (by omega)) ?_
      refine va_put (D := D) (ci := 2) (v := .int (nI (hvd ct ct))) (ty := .int) (C := R_E) (T := T_E) (N := 5) hx hb hg in_E ty_E tok_E nm_E hown hK hP hD hS 0 rfl rfl 3 (by decide) (hg _ gw_86) (fun _ h9 => h9) rfl (by decide +kernel) (rfl) (rfl) (Nat.le_of_ble_eq_true rfl) d_E_learn_59 (fun H locs hP hD hS => ?_)
      have hP : va_P D CLS [(h0, .inr (2, [.int 0, .int (nI fs), .int (nI (hvd ct (sm + (N + 1 - 0) / 2))), .int (nI (hvd ct ct)), .int (nI (ng + 1))]))] H := hP
      have hD : va_D A [(h0, .inr (2, [.int 0, .int (nI fs), .int (nI (hvd ct (sm + (N + 1 - 0) / 2))), .int (nI (hvd ct ct)), .int (nI (ng + 1))]))] := hD
      refine lv_aload_n hx hb d_E_learn_62 rfl (lv_at hl 0 rfl) ?_
      refine lv_dup hx hb d_E_learn_63 rfl ?_
      refine va_get (D := D) (ci := 2) (v := .int (nI (ng + 1))) (C := R_E) (T := T_E) (N := 5) hx hb hg in_E hown hK hP 0 rfl rfl 4 (by decide) (hg _ gw_88) (fun _ h9 => h9) rfl d_E_learn_64 ?_
      refine lv_iconst (v := 2) hx hb d_E_learn_67 (by decide) ?_
      refine lv_idiv hx hb d_E_learn_68 (by decide) ?_
      refine tpi (y := nI (hvd ct (ng + 1))) (by rw [show hvd ct (ng + 1) = (ng + 1) / 2 from if_pos h2]; exact div2 (by omega)) ?_
      refine va_put (D := D) (ci := 2) (v := .int (nI (hvd ct (ng + 1)))) (ty := .int) (C := R_E) (T := T_E) (N := 5) hx hb hg in_E ty_E tok_E nm_E hown hK hP hD hS 0 rfl rfl 4 (by decide) (hg _ gw_88) (fun _ h9 => h9) rfl (by decide +kernel) (rfl) (rfl) (Nat.le_of_ble_eq_true rfl) d_E_learn_69 (fun H locs hP hD hS => ?_)
      have hP : va_P D CLS [(h0, .inr (2, [.int 0, .int (nI fs), .int (nI (hvd ct (sm + (N + 1 - 0) / 2))), .int (nI (hvd ct ct)), .int (nI (hvd ct (ng + 1)))]))] H := hP
      have hD : va_D A [(h0, .inr (2, [.int 0, .int (nI fs), .int (nI (hvd ct (sm + (N + 1 - 0) / 2))), .int (nI (hvd ct ct)), .int (nI (hvd ct (ng + 1)))]))] := hD
      refine lv_aload_n hx hb d_E_learn_72 rfl (lv_at hl 0 rfl) ?_
      refine lv_dup hx hb d_E_learn_73 rfl ?_
      refine va_get (D := D) (ci := 2) (v := .int (nI (hvd ct ct))) (C := R_E) (T := T_E) (N := 5) hx hb hg in_E hown hK hP 0 rfl rfl 3 (by decide) (hg _ gw_86) (fun _ h9 => h9) rfl d_E_learn_74 ?_
      refine lv_iconst (v := 1) hx hb d_E_learn_77 (by decide) ?_
      refine lv_iadd hx hb d_E_learn_78 ?_
      refine tpi (y := nI (hvd ct ct + 1)) (nI_1 _) ?_
      refine va_put (D := D) (ci := 2) (v := .int (nI (hvd ct ct + 1))) (ty := .int) (C := R_E) (T := T_E) (N := 5) hx hb hg in_E ty_E tok_E nm_E hown hK hP hD hS 0 rfl rfl 3 (by decide) (hg _ gw_86) (fun _ h9 => h9) rfl (by decide +kernel) (rfl) (rfl) (Nat.le_of_ble_eq_true rfl) d_E_learn_79 (fun H locs hP hD hS => ?_)
      have hP : va_P D CLS [(h0, .inr (2, [.int 0, .int (nI fs), .int (nI (hvd ct (sm + (N + 1 - 0) / 2))), .int (nI (hvd ct ct + 1)), .int (nI (hvd ct (ng + 1)))]))] H := hP
      have hD : va_D A [(h0, .inr (2, [.int 0, .int (nI fs), .int (nI (hvd ct (sm + (N + 1 - 0) / 2))), .int (nI (hvd ct ct + 1)), .int (nI (hvd ct (ng + 1)))]))] := hD
      exact W.vret hx hb hr (fun t ht hW => ⟨rfl, by rw [ht]; exact hP, (hAe ▸ hS).F ht⟩) (hAe ▸ hS).2.2 d_E_learn_82
set_option maxHeartbeats 4000000 in
set_option maxRecDepth 100000 in
theorem c_E_learn1P (l : Launch) (D : va_G) (h0 : Nat) (fs sm ct ng : Nat) (n N : Nat) (hc0 : ct ≤ 64) (hn0 : ng ≤ 64) (hs0 : sm < 2 ^ 29) (hN : N < 2 ^ 29) (hn : n < 2 ^ 30) : Met l y_E_learn (WSY y_E_learn b_E_learn 3 none) ({ frames := 0, cells := 0, slots := 0, locals := 0 }) (va_Pc [.ref h0, .int (nI n), .int (nI N)] (fun U => va_P D CLS [(h0, .inr (2, [.int 1, .int (nI fs), .int (nI sm), .int (nI ct), .int (nI ng)]))] U.heap ∧ va_K D CLS [] U ∧ va_D (fun _ => True) [(h0, .inr (2, [.int 1, .int (nI fs), .int (nI sm), .int (nI ct), .int (nI ng)]))])) (QM none [(h0, .inr (2, [.int 1, .int (nI fs), .int (nI sm), .int (nI ct), .int (nI ng)]))] [(h0, .inr (2, [.int 1, .int (nI fs), .int (nI (hvd ct (sm + (N + 1 - 1) / 2))), .int (nI (hvd ct ct + 1)), .int (nI (hvd ct ng))]))] D) 0 0 (ad [(h0, .inr (2, [.int 1, .int (nI fs), .int (nI sm), .int (nI ct), .int (nI ng)]))]) := by
  refine Met.ofW (cc := b_E_learn) (maxL := 3) (ret := none) (by decide) rfl ?_
  intro p e s m args below meth c s₁ B hml hv
  obtain ⟨rfl, hP, hK, hD0⟩ := hv
  have hx := B.exec
  have hb := B.bytes
  have hr := B.returns
  have hts := atoms_spec (ws := WSY y_E_learn b_E_learn 3 none) B.pre
  have hg : ∀ w ∈ GW, w.before _ s = true := fun w h => hts w (List.mem_cons_of_mem _ h)
  have hown : s.vm.findClass "LineGolomb$Ends" = some m.cls := findClass_of_methodNamed B.named
  have hlocks := B.notSynchronized
  obtain ⟨A, hAe⟩ : ∃ A, A = ad [(h0, .inr (2, [.int 1, .int (nI fs), .int (nI sm), .int (nI ct), .int (nI ng)]))] := ⟨_, rfl⟩
  have hD : va_D A [(h0, .inr (2, [.int 1, .int (nI fs), .int (nI sm), .int (nI ct), .int (nI ng)]))] := by rw [hAe]; exact va_D_ad hD0
  have hS : va_S A s.heap s.heap [] := va_S.rf
  have hl := lv_entry ([.ref h0, .int (nI n), .int (nI N)]) (n := 3) (Nat.le_of_ble_eq_true rfl)
  rw [lg_entry_eq]
  generalize (lg_sl ([.ref h0, .int (nI n), .int (nI N)]) ++ List.replicate (3 - (lg_sl ([.ref h0, .int (nI n), .int (nI N)])).length) Slot.unset).toArray = ls at hl ⊢
  have hl : lv_has ls 3 [(0, .ref h0), (1, .int (nI n)), (2, .int (nI N))] := hl
  refine lv_iload_n hx hb d_E_learn_0 rfl (lv_at hl 1 rfl) ?_
  refine lv_if_ge (tgt := 14) hx hb d_E_learn_1 (by decide) (fun c_1 => ?_) (fun c_1 => ?_)
  · skip
    refine lv_aload_n hx hb d_E_learn_14 rfl (lv_at hl 0 rfl) ?_
    refine lv_dup hx hb d_E_learn_15 rfl ?_
    refine va_get (D := D) (ci := 2) (v := .int (nI sm)) (C := R_E) (T := T_E) (N := 5) hx hb hg in_E hown hK hP 0 rfl rfl 2 (by decide) (hg _ gw_84) (fun _ h9 => h9) rfl d_E_learn_16 ?_
    refine lv_iload_n hx hb d_E_learn_19 rfl (lv_at hl 2 rfl) ?_
    refine lv_iconst (v := 1) hx hb d_E_learn_20 (by decide) ?_
    refine lv_iadd hx hb d_E_learn_21 ?_
    refine tpi (y := nI (N + 1)) (nI_1 N) ?_
    refine lv_aload_n hx hb d_E_learn_22 rfl (lv_at hl 0 rfl) ?_
    refine va_get (D := D) (ci := 2) (v := .int 1) (C := R_E) (T := T_E) (N := 5) hx hb hg in_E hown hK hP 0 rfl rfl 0 (by decide) (hg _ gw_82) (fun _ h9 => h9) rfl d_E_learn_23 ?_
    refine lv_isub hx hb d_E_learn_26 ?_
    refine tpi (y := nI (N + 1 - 1)) (pk_sub (b := 1) (by omega)) ?_
    refine lv_iconst (v := 2) hx hb d_E_learn_27 (by decide) ?_
    refine lv_idiv hx hb d_E_learn_28 (by decide) ?_
    refine tpi (y := nI ((N + 1 - 1) / 2)) (div2 (by omega)) ?_
    refine lv_iadd hx hb d_E_learn_29 ?_
    refine tpi (y := nI (sm + (N + 1 - 1) / 2)) (nI_add _ _) ?_
    refine va_put (D := D) (ci := 2) (v := .int (nI (sm + (N + 1 - 1) / 2))) (ty := .int) (C := R_E) (T := T_E) (N := 5) hx hb hg in_E ty_E tok_E nm_E hown hK hP hD hS 0 rfl rfl 2 (by decide) (hg _ gw_84) (fun _ h9 => h9) rfl (by decide +kernel) (rfl) (rfl) (Nat.le_of_ble_eq_true rfl) d_E_learn_30 (fun H locs hP hD hS => ?_)
    have hP : va_P D CLS [(h0, .inr (2, [.int 1, .int (nI fs), .int (nI (sm + (N + 1 - 1) / 2)), .int (nI ct), .int (nI ng)]))] H := hP
    have hD : va_D A [(h0, .inr (2, [.int 1, .int (nI fs), .int (nI (sm + (N + 1 - 1) / 2)), .int (nI ct), .int (nI ng)]))] := hD
    refine lv_aload_n hx hb d_E_learn_33 rfl (lv_at hl 0 rfl) ?_
    refine va_get (D := D) (ci := 2) (v := .int (nI ct)) (C := R_E) (T := T_E) (N := 5) hx hb hg in_E hown hK hP 0 rfl rfl 3 (by decide) (hg _ gw_86) (fun _ h9 => h9) rfl d_E_learn_34 ?_
    refine lv_bipush (v := 64) hx hb d_E_learn_37 (by decide) ?_
    refine lv_icmp_ne (tgt := 72) hx hb d_E_learn_39 (by decide) (fun c_2 => ?_) (fun c_2 => ?_)
    · skip
      have h2 : ¬ ct = 64 := fun z => c_2 (by rw [z]; rfl)
      refine lv_aload_n hx hb d_E_learn_72 rfl (lv_at hl 0 rfl) ?_
      refine lv_dup hx hb d_E_learn_73 rfl ?_
      refine va_get (D := D) (ci := 2) (v := .int (nI ct)) (C := R_E) (T := T_E) (N := 5) hx hb hg in_E hown hK hP 0 rfl rfl 3 (by decide) (hg _ gw_86) (fun _ h9 => h9) rfl d_E_learn_74 ?_
      refine lv_iconst (v := 1) hx hb d_E_learn_77 (by decide) ?_
      refine lv_iadd hx hb d_E_learn_78 ?_
      refine tpi (y := nI (hvd ct ct + 1)) (by rw [show hvd ct ct = ct from if_neg h2]; exact nI_1 ct) ?_
      refine va_put (D := D) (ci := 2) (v := .int (nI (hvd ct ct + 1))) (ty := .int) (C := R_E) (T := T_E) (N := 5) hx hb hg in_E ty_E tok_E nm_E hown hK hP hD hS 0 rfl rfl 3 (by decide) (hg _ gw_86) (fun _ h9 => h9) rfl (by decide +kernel) (rfl) (rfl) (Nat.le_of_ble_eq_true rfl) d_E_learn_79 (fun H locs hP hD hS => ?_)
      have hP : va_P D CLS [(h0, .inr (2, [.int 1, .int (nI fs), .int (nI (sm + (N + 1 - 1) / 2)), .int (nI (hvd ct ct + 1)), .int (nI ng)]))] H := hP
      have hD : va_D A [(h0, .inr (2, [.int 1, .int (nI fs), .int (nI (sm + (N + 1 - 1) / 2)), .int (nI (hvd ct ct + 1)), .int (nI ng)]))] := hD
      rw [show nI (sm + (N + 1 - 1) / 2) = nI (hvd ct (sm + (N + 1 - 1) / 2)) by rw [show hvd ct (sm + (N + 1 - 1) / 2) = sm + (N + 1 - 1) / 2 from if_neg h2], show nI ng = nI (hvd ct ng) by rw [show hvd ct ng = ng from if_neg h2]] at hP
      exact W.vret hx hb hr (fun t ht hW => ⟨rfl, by rw [ht]; exact hP, (hAe ▸ hS).F ht⟩) (hAe ▸ hS).2.2 d_E_learn_82
    · skip
      have h2 : ct = 64 := (nI_eq (b := 64) (by omega) (by omega)).mp c_2
      refine lv_aload_n hx hb d_E_learn_42 rfl (lv_at hl 0 rfl) ?_
      refine lv_dup hx hb d_E_learn_43 rfl ?_
      refine va_get (D := D) (ci := 2) (v := .int (nI (sm + (N + 1 - 1) / 2))) (C := R_E) (T := T_E) (N := 5) hx hb hg in_E hown hK hP 0 rfl rfl 2 (by decide) (hg _ gw_84) (fun _ h9 => h9) rfl d_E_learn_44 ?_
      refine lv_iconst (v := 2) hx hb d_E_learn_47 (by decide) ?_
      refine lv_idiv hx hb d_E_learn_48 (by decide) ?_
      refine tpi (y := nI (hvd ct (sm + (N + 1 - 1) / 2))) (by rw [show hvd ct (sm + (N + 1 - 1) / 2) = (sm + (N + 1 - 1) / 2) / 2 from if_pos h2]; exact div2 (by omega)) ?_
      refine va_put (D := D) (ci := 2) (v := .int (nI (hvd ct (sm + (N + 1 - 1) / 2)))) (ty := .int) (C := R_E) (T := T_E) (N := 5) hx hb hg in_E ty_E tok_E nm_E hown hK hP hD hS 0 rfl rfl 2 (by decide) (hg _ gw_84) (fun _ h9 => h9) rfl (by decide +kernel) (rfl) (rfl) (Nat.le_of_ble_eq_true rfl) d_E_learn_49 (fun H locs hP hD hS => ?_)
      have hP : va_P D CLS [(h0, .inr (2, [.int 1, .int (nI fs), .int (nI (hvd ct (sm + (N + 1 - 1) / 2))), .int (nI ct), .int (nI ng)]))] H := hP
      have hD : va_D A [(h0, .inr (2, [.int 1, .int (nI fs), .int (nI (hvd ct (sm + (N + 1 - 1) / 2))), .int (nI ct), .int (nI ng)]))] := hD
      refine lv_aload_n hx hb d_E_learn_52 rfl (lv_at hl 0 rfl) ?_
      refine lv_dup hx hb d_E_learn_53 rfl ?_
      refine va_get (D := D) (ci := 2) (v := .int (nI ct)) (C := R_E) (T := T_E) (N := 5) hx hb hg in_E hown hK hP 0 rfl rfl 3 (by decide) (hg _ gw_86) (fun _ h9 => h9) rfl d_E_learn_54 ?_
      refine lv_iconst (v := 2) hx hb d_E_learn_57 (by decide) ?_
      refine lv_idiv hx hb d_E_learn_58 (by decide) ?_
      refine tpi (y := nI (hvd ct ct)) (by rw [show hvd ct ct = ct / 2 from if_pos h2]; exact div2 (by omega)) ?_
      refine va_put (D := D) (ci := 2) (v := .int (nI (hvd ct ct))) (ty := .int) (C := R_E) (T := T_E) (N := 5) hx hb hg in_E ty_E tok_E nm_E hown hK hP hD hS 0 rfl rfl 3 (by decide) (hg _ gw_86) (fun _ h9 => h9) rfl (by decide +kernel) (rfl) (rfl) (Nat.le_of_ble_eq_true rfl) d_E_learn_59 (fun H locs hP hD hS => ?_)
      have hP : va_P D CLS [(h0, .inr (2, [.int 1, .int (nI fs), .int (nI (hvd ct (sm + (N + 1 - 1) / 2))), .int (nI (hvd ct ct)), .int (nI ng)]))] H := hP
      have hD : va_D A [(h0, .inr (2, [.int 1, .int (nI fs), .int (nI (hvd ct (sm + (N + 1 - 1) / 2))), .int (nI (hvd ct ct)), .int (nI ng)]))] := hD
      refine lv_aload_n hx hb d_E_learn_62 rfl (lv_at hl 0 rfl) ?_
      refine lv_dup hx hb d_E_learn_63 rfl ?_
      refine va_get (D := D) (ci := 2) (v := .int (nI ng)) (C := R_E) (T := T_E) (N := 5) hx hb hg in_E hown hK hP 0 rfl rfl 4 (by decide) (hg _ gw_88) (fun _ h9 => h9) rfl d_E_learn_64 ?_
      refine lv_iconst (v := 2) hx hb d_E_learn_67 (by decide) ?_
      refine lv_idiv hx hb d_E_learn_68 (by decide) ?_
      refine tpi (y := nI (hvd ct ng)) (by rw [show hvd ct ng = ng / 2 from if_pos h2]; exact div2 (by omega)) ?_
      refine va_put (D := D) (ci := 2) (v := .int (nI (hvd ct ng))) (ty := .int) (C := R_E) (T := T_E) (N := 5) hx hb hg in_E ty_E tok_E nm_E hown hK hP hD hS 0 rfl rfl 4 (by decide) (hg _ gw_88) (fun _ h9 => h9) rfl (by decide +kernel) (rfl) (rfl) (Nat.le_of_ble_eq_true rfl) d_E_learn_69 (fun H locs hP hD hS => ?_)
      have hP : va_P D CLS [(h0, .inr (2, [.int 1, .int (nI fs), .int (nI (hvd ct (sm + (N + 1 - 1) / 2))), .int (nI (hvd ct ct)), .int (nI (hvd ct ng))]))] H := hP
      have hD : va_D A [(h0, .inr (2, [.int 1, .int (nI fs), .int (nI (hvd ct (sm + (N + 1 - 1) / 2))), .int (nI (hvd ct ct)), .int (nI (hvd ct ng))]))] := hD
      refine lv_aload_n hx hb d_E_learn_72 rfl (lv_at hl 0 rfl) ?_
      refine lv_dup hx hb d_E_learn_73 rfl ?_
      refine va_get (D := D) (ci := 2) (v := .int (nI (hvd ct ct))) (C := R_E) (T := T_E) (N := 5) hx hb hg in_E hown hK hP 0 rfl rfl 3 (by decide) (hg _ gw_86) (fun _ h9 => h9) rfl d_E_learn_74 ?_
      refine lv_iconst (v := 1) hx hb d_E_learn_77 (by decide) ?_
      refine lv_iadd hx hb d_E_learn_78 ?_
      refine tpi (y := nI (hvd ct ct + 1)) (nI_1 _) ?_
      refine va_put (D := D) (ci := 2) (v := .int (nI (hvd ct ct + 1))) (ty := .int) (C := R_E) (T := T_E) (N := 5) hx hb hg in_E ty_E tok_E nm_E hown hK hP hD hS 0 rfl rfl 3 (by decide) (hg _ gw_86) (fun _ h9 => h9) rfl (by decide +kernel) (rfl) (rfl) (Nat.le_of_ble_eq_true rfl) d_E_learn_79 (fun H locs hP hD hS => ?_)
      have hP : va_P D CLS [(h0, .inr (2, [.int 1, .int (nI fs), .int (nI (hvd ct (sm + (N + 1 - 1) / 2))), .int (nI (hvd ct ct + 1)), .int (nI (hvd ct ng))]))] H := hP
      have hD : va_D A [(h0, .inr (2, [.int 1, .int (nI fs), .int (nI (hvd ct (sm + (N + 1 - 1) / 2))), .int (nI (hvd ct ct + 1)), .int (nI (hvd ct ng))]))] := hD
      exact W.vret hx hb hr (fun t ht hW => ⟨rfl, by rw [ht]; exact hP, (hAe ▸ hS).F ht⟩) (hAe ▸ hS).2.2 d_E_learn_82
  · skip
    exact absurd (nI_pos' (by omega)) c_1
set_option maxHeartbeats 4000000 in
set_option maxRecDepth 100000 in
theorem c_E_learn1N (l : Launch) (D : va_G) (h0 : Nat) (fs sm ct ng : Nat) (n N : Nat) (hc0 : ct ≤ 64) (hn0 : ng ≤ 64) (hs0 : sm < 2 ^ 29) (hN : N < 2 ^ 29) (hn : n < 2 ^ 30) (hn1 : 0 < n) : Met l y_E_learn (WSY y_E_learn b_E_learn 3 none) ({ frames := 0, cells := 0, slots := 0, locals := 0 }) (va_Pc [.ref h0, .int (-nI n), .int (nI N)] (fun U => va_P D CLS [(h0, .inr (2, [.int 1, .int (nI fs), .int (nI sm), .int (nI ct), .int (nI ng)]))] U.heap ∧ va_K D CLS [] U ∧ va_D (fun _ => True) [(h0, .inr (2, [.int 1, .int (nI fs), .int (nI sm), .int (nI ct), .int (nI ng)]))])) (QM none [(h0, .inr (2, [.int 1, .int (nI fs), .int (nI sm), .int (nI ct), .int (nI ng)]))] [(h0, .inr (2, [.int 1, .int (nI fs), .int (nI (hvd ct (sm + (N + 1 - 1) / 2))), .int (nI (hvd ct ct + 1)), .int (nI (hvd ct (ng + 1)))]))] D) 0 0 (ad [(h0, .inr (2, [.int 1, .int (nI fs), .int (nI sm), .int (nI ct), .int (nI ng)]))]) := by
  refine Met.ofW (cc := b_E_learn) (maxL := 3) (ret := none) (by decide) rfl ?_
  intro p e s m args below meth c s₁ B hml hv
  obtain ⟨rfl, hP, hK, hD0⟩ := hv
  have hx := B.exec
  have hb := B.bytes
  have hr := B.returns
  have hts := atoms_spec (ws := WSY y_E_learn b_E_learn 3 none) B.pre
  have hg : ∀ w ∈ GW, w.before _ s = true := fun w h => hts w (List.mem_cons_of_mem _ h)
  have hown : s.vm.findClass "LineGolomb$Ends" = some m.cls := findClass_of_methodNamed B.named
  have hlocks := B.notSynchronized
  obtain ⟨A, hAe⟩ : ∃ A, A = ad [(h0, .inr (2, [.int 1, .int (nI fs), .int (nI sm), .int (nI ct), .int (nI ng)]))] := ⟨_, rfl⟩
  have hD : va_D A [(h0, .inr (2, [.int 1, .int (nI fs), .int (nI sm), .int (nI ct), .int (nI ng)]))] := by rw [hAe]; exact va_D_ad hD0
  have hS : va_S A s.heap s.heap [] := va_S.rf
  have hl := lv_entry ([.ref h0, .int (-nI n), .int (nI N)]) (n := 3) (Nat.le_of_ble_eq_true rfl)
  rw [lg_entry_eq]
  generalize (lg_sl ([.ref h0, .int (-nI n), .int (nI N)]) ++ List.replicate (3 - (lg_sl ([.ref h0, .int (-nI n), .int (nI N)])).length) Slot.unset).toArray = ls at hl ⊢
  have hl : lv_has ls 3 [(0, .ref h0), (1, .int (-nI n)), (2, .int (nI N))] := hl
  refine lv_iload_n hx hb d_E_learn_0 rfl (lv_at hl 1 rfl) ?_
  refine lv_if_ge (tgt := 14) hx hb d_E_learn_1 (by decide) (fun c_1 => ?_) (fun c_1 => ?_)
  · skip
    exact absurd c_1 (by rw [leT, ngT (by omega), zT]; omega)
  · skip
    refine lv_aload_n hx hb d_E_learn_4 rfl (lv_at hl 0 rfl) ?_
    refine lv_dup hx hb d_E_learn_5 rfl ?_
    refine va_get (D := D) (ci := 2) (v := .int (nI ng)) (C := R_E) (T := T_E) (N := 5) hx hb hg in_E hown hK hP 0 rfl rfl 4 (by decide) (hg _ gw_88) (fun _ h9 => h9) rfl d_E_learn_6 ?_
    refine lv_iconst (v := 1) hx hb d_E_learn_9 (by decide) ?_
    refine lv_iadd hx hb d_E_learn_10 ?_
    refine tpi (y := nI (ng + 1)) (nI_1 ng) ?_
    refine va_put (D := D) (ci := 2) (v := .int (nI (ng + 1))) (ty := .int) (C := R_E) (T := T_E) (N := 5) hx hb hg in_E ty_E tok_E nm_E hown hK hP hD hS 0 rfl rfl 4 (by decide) (hg _ gw_88) (fun _ h9 => h9) rfl (by decide +kernel) (rfl) (rfl) (Nat.le_of_ble_eq_true rfl) d_E_learn_11 (fun H locs hP hD hS => ?_)
    have hP : va_P D CLS [(h0, .inr (2, [.int 1, .int (nI fs), .int (nI sm), .int (nI ct), .int (nI (ng + 1))]))] H := hP
    have hD : va_D A [(h0, .inr (2, [.int 1, .int (nI fs), .int (nI sm), .int (nI ct), .int (nI (ng + 1))]))] := hD
    refine lv_aload_n hx hb d_E_learn_14 rfl (lv_at hl 0 rfl) ?_
    refine lv_dup hx hb d_E_learn_15 rfl ?_
    refine va_get (D := D) (ci := 2) (v := .int (nI sm)) (C := R_E) (T := T_E) (N := 5) hx hb hg in_E hown hK hP 0 rfl rfl 2 (by decide) (hg _ gw_84) (fun _ h9 => h9) rfl d_E_learn_16 ?_
    refine lv_iload_n hx hb d_E_learn_19 rfl (lv_at hl 2 rfl) ?_
    refine lv_iconst (v := 1) hx hb d_E_learn_20 (by decide) ?_
    refine lv_iadd hx hb d_E_learn_21 ?_
    refine tpi (y := nI (N + 1)) (nI_1 N) ?_
    refine lv_aload_n hx hb d_E_learn_22 rfl (lv_at hl 0 rfl) ?_
    refine va_get (D := D) (ci := 2) (v := .int 1) (C := R_E) (T := T_E) (N := 5) hx hb hg in_E hown hK hP 0 rfl rfl 0 (by decide) (hg _ gw_82) (fun _ h9 => h9) rfl d_E_learn_23 ?_
    refine lv_isub hx hb d_E_learn_26 ?_
    refine tpi (y := nI (N + 1 - 1)) (pk_sub (b := 1) (by omega)) ?_
    refine lv_iconst (v := 2) hx hb d_E_learn_27 (by decide) ?_
    refine lv_idiv hx hb d_E_learn_28 (by decide) ?_
    refine tpi (y := nI ((N + 1 - 1) / 2)) (div2 (by omega)) ?_
    refine lv_iadd hx hb d_E_learn_29 ?_
    refine tpi (y := nI (sm + (N + 1 - 1) / 2)) (nI_add _ _) ?_
    refine va_put (D := D) (ci := 2) (v := .int (nI (sm + (N + 1 - 1) / 2))) (ty := .int) (C := R_E) (T := T_E) (N := 5) hx hb hg in_E ty_E tok_E nm_E hown hK hP hD hS 0 rfl rfl 2 (by decide) (hg _ gw_84) (fun _ h9 => h9) rfl (by decide +kernel) (rfl) (rfl) (Nat.le_of_ble_eq_true rfl) d_E_learn_30 (fun H locs hP hD hS => ?_)
    have hP : va_P D CLS [(h0, .inr (2, [.int 1, .int (nI fs), .int (nI (sm + (N + 1 - 1) / 2)), .int (nI ct), .int (nI (ng + 1))]))] H := hP
    have hD : va_D A [(h0, .inr (2, [.int 1, .int (nI fs), .int (nI (sm + (N + 1 - 1) / 2)), .int (nI ct), .int (nI (ng + 1))]))] := hD
    refine lv_aload_n hx hb d_E_learn_33 rfl (lv_at hl 0 rfl) ?_
    refine va_get (D := D) (ci := 2) (v := .int (nI ct)) (C := R_E) (T := T_E) (N := 5) hx hb hg in_E hown hK hP 0 rfl rfl 3 (by decide) (hg _ gw_86) (fun _ h9 => h9) rfl d_E_learn_34 ?_
    refine lv_bipush (v := 64) hx hb d_E_learn_37 (by decide) ?_
    refine lv_icmp_ne (tgt := 72) hx hb d_E_learn_39 (by decide) (fun c_2 => ?_) (fun c_2 => ?_)
    · skip
      have h2 : ¬ ct = 64 := fun z => c_2 (by rw [z]; rfl)
      refine lv_aload_n hx hb d_E_learn_72 rfl (lv_at hl 0 rfl) ?_
      refine lv_dup hx hb d_E_learn_73 rfl ?_
      refine va_get (D := D) (ci := 2) (v := .int (nI ct)) (C := R_E) (T := T_E) (N := 5) hx hb hg in_E hown hK hP 0 rfl rfl 3 (by decide) (hg _ gw_86) (fun _ h9 => h9) rfl d_E_learn_74 ?_
      refine lv_iconst (v := 1) hx hb d_E_learn_77 (by decide) ?_
      refine lv_iadd hx hb d_E_learn_78 ?_
      refine tpi (y := nI (hvd ct ct + 1)) (by rw [show hvd ct ct = ct from if_neg h2]; exact nI_1 ct) ?_
      refine va_put (D := D) (ci := 2) (v := .int (nI (hvd ct ct + 1))) (ty := .int) (C := R_E) (T := T_E) (N := 5) hx hb hg in_E ty_E tok_E nm_E hown hK hP hD hS 0 rfl rfl 3 (by decide) (hg _ gw_86) (fun _ h9 => h9) rfl (by decide +kernel) (rfl) (rfl) (Nat.le_of_ble_eq_true rfl) d_E_learn_79 (fun H locs hP hD hS => ?_)
      have hP : va_P D CLS [(h0, .inr (2, [.int 1, .int (nI fs), .int (nI (sm + (N + 1 - 1) / 2)), .int (nI (hvd ct ct + 1)), .int (nI (ng + 1))]))] H := hP
      have hD : va_D A [(h0, .inr (2, [.int 1, .int (nI fs), .int (nI (sm + (N + 1 - 1) / 2)), .int (nI (hvd ct ct + 1)), .int (nI (ng + 1))]))] := hD
      rw [show nI (sm + (N + 1 - 1) / 2) = nI (hvd ct (sm + (N + 1 - 1) / 2)) by rw [show hvd ct (sm + (N + 1 - 1) / 2) = sm + (N + 1 - 1) / 2 from if_neg h2], show nI (ng + 1) = nI (hvd ct (ng + 1)) by rw [show hvd ct (ng + 1) = (ng + 1) from if_neg h2]] at hP
      exact W.vret hx hb hr (fun t ht hW => ⟨rfl, by rw [ht]; exact hP, (hAe ▸ hS).F ht⟩) (hAe ▸ hS).2.2 d_E_learn_82
    · skip
      have h2 : ct = 64 := (nI_eq (b := 64) (by omega) (by omega)).mp c_2
      refine lv_aload_n hx hb d_E_learn_42 rfl (lv_at hl 0 rfl) ?_
      refine lv_dup hx hb d_E_learn_43 rfl ?_
      refine va_get (D := D) (ci := 2) (v := .int (nI (sm + (N + 1 - 1) / 2))) (C := R_E) (T := T_E) (N := 5) hx hb hg in_E hown hK hP 0 rfl rfl 2 (by decide) (hg _ gw_84) (fun _ h9 => h9) rfl d_E_learn_44 ?_
      refine lv_iconst (v := 2) hx hb d_E_learn_47 (by decide) ?_
      refine lv_idiv hx hb d_E_learn_48 (by decide) ?_
      refine tpi (y := nI (hvd ct (sm + (N + 1 - 1) / 2))) (by rw [show hvd ct (sm + (N + 1 - 1) / 2) = (sm + (N + 1 - 1) / 2) / 2 from if_pos h2]; exact div2 (by omega)) ?_
      refine va_put (D := D) (ci := 2) (v := .int (nI (hvd ct (sm + (N + 1 - 1) / 2)))) (ty := .int) (C := R_E) (T := T_E) (N := 5) hx hb hg in_E ty_E tok_E nm_E hown hK hP hD hS 0 rfl rfl 2 (by decide) (hg _ gw_84) (fun _ h9 => h9) rfl (by decide +kernel) (rfl) (rfl) (Nat.le_of_ble_eq_true rfl) d_E_learn_49 (fun H locs hP hD hS => ?_)
      have hP : va_P D CLS [(h0, .inr (2, [.int 1, .int (nI fs), .int (nI (hvd ct (sm + (N + 1 - 1) / 2))), .int (nI ct), .int (nI (ng + 1))]))] H := hP
      have hD : va_D A [(h0, .inr (2, [.int 1, .int (nI fs), .int (nI (hvd ct (sm + (N + 1 - 1) / 2))), .int (nI ct), .int (nI (ng + 1))]))] := hD
      refine lv_aload_n hx hb d_E_learn_52 rfl (lv_at hl 0 rfl) ?_
      refine lv_dup hx hb d_E_learn_53 rfl ?_
      refine va_get (D := D) (ci := 2) (v := .int (nI ct)) (C := R_E) (T := T_E) (N := 5) hx hb hg in_E hown hK hP 0 rfl rfl 3 (by decide) (hg _ gw_86) (fun _ h9 => h9) rfl d_E_learn_54 ?_
      refine lv_iconst (v := 2) hx hb d_E_learn_57 (by decide) ?_
      refine lv_idiv hx hb d_E_learn_58 (by decide) ?_
      refine tpi (y := nI (hvd ct ct)) (by rw [show hvd ct ct = ct / 2 from if_pos h2]; exact div2 (by omega)) ?_
      refine va_put (D := D) (ci := 2) (v := .int (nI (hvd ct ct))) (ty := .int) (C := R_E) (T := T_E) (N := 5) hx hb hg in_E ty_E tok_E nm_E hown hK hP hD hS 0 rfl rfl 3 (by decide) (hg _ gw_86) (fun _ h9 => h9) rfl (by decide +kernel) (rfl) (rfl) (Nat.le_of_ble_eq_true rfl) d_E_learn_59 (fun H locs hP hD hS => ?_)
      have hP : va_P D CLS [(h0, .inr (2, [.int 1, .int (nI fs), .int (nI (hvd ct (sm + (N + 1 - 1) / 2))), .int (nI (hvd ct ct)), .int (nI (ng + 1))]))] H := hP
      have hD : va_D A [(h0, .inr (2, [.int 1, .int (nI fs), .int (nI (hvd ct (sm + (N + 1 - 1) / 2))), .int (nI (hvd ct ct)), .int (nI (ng + 1))]))] := hD
      refine lv_aload_n hx hb d_E_learn_62 rfl (lv_at hl 0 rfl) ?_
      refine lv_dup hx hb d_E_learn_63 rfl ?_
      refine va_get (D := D) (ci := 2) (v := .int (nI (ng + 1))) (C := R_E) (T := T_E) (N := 5) hx hb hg in_E hown hK hP 0 rfl rfl 4 (by decide) (hg _ gw_88) (fun _ h9 => h9) rfl d_E_learn_64 ?_
      refine lv_iconst (v := 2) hx hb d_E_learn_67 (by decide) ?_
      refine lv_idiv hx hb d_E_learn_68 (by decide) ?_
      refine tpi (y := nI (hvd ct (ng + 1))) (by rw [show hvd ct (ng + 1) = (ng + 1) / 2 from if_pos h2]; exact div2 (by omega)) ?_
      refine va_put (D := D) (ci := 2) (v := .int (nI (hvd ct (ng + 1)))) (ty := .int) (C := R_E) (T := T_E) (N := 5) hx hb hg in_E ty_E tok_E nm_E hown hK hP hD hS 0 rfl rfl 4 (by decide) (hg _ gw_88) (fun _ h9 => h9) rfl (by decide +kernel) (rfl) (rfl) (Nat.le_of_ble_eq_true rfl) d_E_learn_69 (fun H locs hP hD hS => ?_)
      have hP : va_P D CLS [(h0, .inr (2, [.int 1, .int (nI fs), .int (nI (hvd ct (sm + (N + 1 - 1) / 2))), .int (nI (hvd ct ct)), .int (nI (hvd ct (ng + 1)))]))] H := hP
      have hD : va_D A [(h0, .inr (2, [.int 1, .int (nI fs), .int (nI (hvd ct (sm + (N + 1 - 1) / 2))), .int (nI (hvd ct ct)), .int (nI (hvd ct (ng + 1)))]))] := hD
      refine lv_aload_n hx hb d_E_learn_72 rfl (lv_at hl 0 rfl) ?_
      refine lv_dup hx hb d_E_learn_73 rfl ?_
      refine va_get (D := D) (ci := 2) (v := .int (nI (hvd ct ct))) (C := R_E) (T := T_E) (N := 5) hx hb hg in_E hown hK hP 0 rfl rfl 3 (by decide) (hg _ gw_86) (fun _ h9 => h9) rfl d_E_learn_74 ?_
      refine lv_iconst (v := 1) hx hb d_E_learn_77 (by decide) ?_
      refine lv_iadd hx hb d_E_learn_78 ?_
      refine tpi (y := nI (hvd ct ct + 1)) (nI_1 _) ?_
      refine va_put (D := D) (ci := 2) (v := .int (nI (hvd ct ct + 1))) (ty := .int) (C := R_E) (T := T_E) (N := 5) hx hb hg in_E ty_E tok_E nm_E hown hK hP hD hS 0 rfl rfl 3 (by decide) (hg _ gw_86) (fun _ h9 => h9) rfl (by decide +kernel) (rfl) (rfl) (Nat.le_of_ble_eq_true rfl) d_E_learn_79 (fun H locs hP hD hS => ?_)
      have hP : va_P D CLS [(h0, .inr (2, [.int 1, .int (nI fs), .int (nI (hvd ct (sm + (N + 1 - 1) / 2))), .int (nI (hvd ct ct + 1)), .int (nI (hvd ct (ng + 1)))]))] H := hP
      have hD : va_D A [(h0, .inr (2, [.int 1, .int (nI fs), .int (nI (hvd ct (sm + (N + 1 - 1) / 2))), .int (nI (hvd ct ct + 1)), .int (nI (hvd ct (ng + 1)))]))] := hD
      exact W.vret hx hb hr (fun t ht hW => ⟨rfl, by rw [ht]; exact hP, (hAe ▸ hS).F ht⟩) (hAe ▸ hS).2.2 d_E_learn_82
