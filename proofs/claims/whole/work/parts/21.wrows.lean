/-! BitQueue and BitRow: methods that write -/
set_option maxHeartbeats 4000000 in
set_option maxRecDepth 100000 in
theorem c_Q_add (l : Launch) (D : va_G) (h0 qa : Nat) (cB : ClassId) (fi h : Nat) (f : Nat → Int32) (b0 : Int32) (hf : fi < 1000) (hh : h < 1000) (hb0 : b0 = 0 ∨ b0 = 1) : Met l y_Q_add (WSY y_Q_add b_Q_add 2 (some .boolean)) ({ frames := 1, cells := 0, slots := 0, locals := 22 }) (va_Pc [.ref h0, .int b0] (fun U => va_P D CLS [(h0, .inr (0, [.ref qa, .int (nI fi), .int (nI h)])), (qa, .inl (cB, 1000, .inl f))] U.heap ∧ va_K D CLS [(cB, .byte)] U ∧ va_D (fun _ => True) [(h0, .inr (0, [.ref qa, .int (nI fi), .int (nI h)])), (qa, .inl (cB, 1000, .inl f))])) (QM (some (.int 1)) [(h0, .inr (0, [.ref qa, .int (nI fi), .int (nI h)])), (qa, .inl (cB, 1000, .inl f))] [(h0, .inr (0, [.ref qa, .int (nI fi), .int (nI (h + 1))])), (qa, .inl (cB, 1000, .inl (upd f (rpl fi h) b0)))] D) 0 0 (ad [(h0, .inr (0, [.ref qa, .int (nI fi), .int (nI h)])), (qa, .inl (cB, 1000, .inl f))]) := by
  refine Met.ofW (cc := b_Q_add) (maxL := 2) (ret := (some .boolean)) (by decide) rfl ?_
  intro p e s m args below meth c s₁ B hml hv
  obtain ⟨rfl, hP, hK, hD0⟩ := hv
  have hx := B.exec
  have hb := B.bytes
  have hr := B.returns
  have hts := atoms_spec (ws := WSY y_Q_add b_Q_add 2 (some .boolean)) B.pre
  have hg : ∀ w ∈ GW, w.before _ s = true := fun w h => hts w (List.mem_cons_of_mem _ h)
  have hown : s.vm.findClass "LineGolomb$BitQueue" = some m.cls := findClass_of_methodNamed B.named
  have hlocks := B.notSynchronized
  obtain ⟨A, hAe⟩ : ∃ A, A = ad [(h0, .inr (0, [.ref qa, .int (nI fi), .int (nI h)])), (qa, .inl (cB, 1000, .inl f))] := ⟨_, rfl⟩
  have hD : va_D A [(h0, .inr (0, [.ref qa, .int (nI fi), .int (nI h)])), (qa, .inl (cB, 1000, .inl f))] := by rw [hAe]; exact va_D_ad hD0
  have hS : va_S A s.heap s.heap [] := va_S.rf
  have hl := lv_entry ([.ref h0, .int b0]) (n := 2) (Nat.le_of_ble_eq_true rfl)
  rw [lg_entry_eq]
  generalize (lg_sl ([.ref h0, .int b0]) ++ List.replicate (2 - (lg_sl ([.ref h0, .int b0])).length) Slot.unset).toArray = ls at hl ⊢
  have hl : lv_has ls 2 [(0, .ref h0), (1, .int b0)] := hl
  refine lv_aload_n hx hb d_Q_add_0 rfl (lv_at hl 0 rfl) ?_
  refine va_get (D := D) (ci := 0) (v := .int (nI h)) (C := R_Q) (T := T_Q) (N := 3) hx hb hg in_Q hown hK hP 0 rfl rfl 2 (by decide) (hg _ gw_45) (fun _ h9 => h9) rfl d_Q_add_1 ?_
  refine lv_aload_n hx hb d_Q_add_4 rfl (lv_at hl 0 rfl) ?_
  refine va_get (D := D) (ci := 0) (v := .ref qa) (C := R_Q) (T := T_Q) (N := 3) hx hb hg in_Q hown hK hP 0 rfl rfl 0 (by decide) (hg _ gw_43) (fun _ h9 => h9) rfl d_Q_add_5 ?_
  refine va_alen (v := nI 1000) hx hb hK hP 1 0 rfl rfl rfl d_Q_add_8 ?_
  refine lv_icmp_lt (tgt := 14) hx hb d_Q_add_9 (by decide) (fun c_1 => ?_) (fun c_1 => ?_)
  · skip
    refine lv_aload_n hx hb d_Q_add_14 rfl (lv_at hl 0 rfl) ?_
    refine va_get (D := D) (ci := 0) (v := .ref qa) (C := R_Q) (T := T_Q) (N := 3) hx hb hg in_Q hown hK hP 0 rfl rfl 0 (by decide) (hg _ gw_43) (fun _ h9 => h9) rfl d_Q_add_15 ?_
    refine lv_aload_n hx hb d_Q_add_18 rfl (lv_at hl 0 rfl) ?_
    refine lv_aload_n hx hb d_Q_add_19 rfl (lv_at hl 0 rfl) ?_
    refine va_get (D := D) (ci := 0) (v := .int (nI h)) (C := R_Q) (T := T_Q) (N := 3) hx hb hg in_Q hown hK hP 0 rfl rfl 2 (by decide) (hg _ gw_45) (fun _ h9 => h9) rfl d_Q_add_20 ?_
    have hPc := hP.sub (ws' := [(h0, .inr (0, [.ref qa, .int (nI fi), .int (nI h)])), (qa, .inl (cB, 1000, .inl f))]) [0, 1] rfl
    have hKc := hK.sub (tys' := [(cB, .byte)]) [0] rfl
    refine pci (va_runV (As := [.int (nI h)]) (rest := [.ref qa]) ⟨hx, hb, hml, hown, hg⟩ (c_Q_placeOf l D h0 qa cB fi h f h hf (by omega)) (cwV 1 hg (gV gw_180 gw_182 gs_1 gw_3 gw_183) rfl rfl rfl (by decide +kernel) ⟨Nat.le_of_ble_eq_true rfl, Nat.le_of_ble_eq_true rfl⟩) ⟨fun a U g mk q => by obtain ⟨q0, qP, qK⟩ := q; exact ⟨q0, qP, va_K.moved (u := U) (U := U.calling g mk a) (Vm.Alike.refl U.vm) qK⟩, va_recv hKc hPc (ci := 0) (q0 := 0) rfl rfl, fun U hU hW => ⟨rfl, by rw [hU]; exact hPc, va_K.moved hW.alike hKc⟩⟩ rfl rfl hl.1 rfl (lv_room (Nat.le_of_ble_eq_true rfl)) d_Q_add_23 (⟨Nat.le_of_ble_eq_true rfl, Nat.le_of_ble_eq_true rfl⟩)) ?_
    refine lv_iload_n hx hb d_Q_add_26 rfl (lv_at hl 1 rfl) ?_
    refine lv_i2b (v := b0) hx hb d_Q_add_27 (b8 hb0) ?_
    refine va_bast hx hb hK hP hD hS 1 0 rfl rfl (vp_in_nI (rpl_lt hf (by omega)) (by omega)) d_Q_add_28 (fun H locs hP hD hS => ?_)
    rw [nI_clamp (show rpl fi h < 2 ^ 31 by have := rpl_lt hf (show h ≤ 1000 by omega); omega), n8 hb0] at hP hD
    have hP : va_P D CLS [(h0, .inr (0, [.ref qa, .int (nI fi), .int (nI h)])), (qa, .inl (cB, 1000, .inl (upd f (rpl fi h) b0)))] H := hP
    have hD : va_D A [(h0, .inr (0, [.ref qa, .int (nI fi), .int (nI h)])), (qa, .inl (cB, 1000, .inl (upd f (rpl fi h) b0)))] := hD
    refine lv_aload_n hx hb d_Q_add_29 rfl (lv_at hl 0 rfl) ?_
    refine lv_dup hx hb d_Q_add_30 rfl ?_
    refine va_get (D := D) (ci := 0) (v := .int (nI h)) (C := R_Q) (T := T_Q) (N := 3) hx hb hg in_Q hown hK hP 0 rfl rfl 2 (by decide) (hg _ gw_45) (fun _ h9 => h9) rfl d_Q_add_31 ?_
    refine lv_iconst (v := 1) hx hb d_Q_add_34 (by decide) ?_
    refine lv_iadd hx hb d_Q_add_35 ?_
    refine tpi (y := nI (h + 1)) (nI_1 h) ?_
    refine va_put (D := D) (ci := 0) (v := .int (nI (h + 1))) (ty := .int) (C := R_Q) (T := T_Q) (N := 3) hx hb hg in_Q ty_Q tok_Q nm_Q hown hK hP hD hS 0 rfl rfl 2 (by decide) (hg _ gw_45) (fun _ h9 => h9) rfl (by decide +kernel) (rfl) (rfl) (Nat.le_of_ble_eq_true rfl) d_Q_add_36 (fun H locs hP hD hS => ?_)
    have hP : va_P D CLS [(h0, .inr (0, [.ref qa, .int (nI fi), .int (nI (h + 1))])), (qa, .inl (cB, 1000, .inl (upd f (rpl fi h) b0)))] H := hP
    have hD : va_D A [(h0, .inr (0, [.ref qa, .int (nI fi), .int (nI (h + 1))])), (qa, .inl (cB, 1000, .inl (upd f (rpl fi h) b0)))] := hD
    refine lv_iconst (v := 1) hx hb d_Q_add_39 (by decide) ?_
    exact W.zret (v := 1) hx hb hr (rfl) (fun t ht hW => ⟨rfl, by rw [ht]; exact hP, (hAe ▸ hS).F ht⟩) (hAe ▸ hS).2.2 d_Q_add_40
  · skip
    exact absurd (nI_lt hh (by omega)) c_1
set_option maxHeartbeats 4000000 in
set_option maxRecDepth 100000 in
theorem c_Q_addF (l : Launch) (D : va_G) (h0 qa : Nat) (cB : ClassId) (fi h : Nat) (f : Nat → Int32) (b0 : Int32) (hh : h = 1000) : Met l y_Q_add (WSY y_Q_add b_Q_add 2 (some .boolean)) ({ frames := 1, cells := 0, slots := 0, locals := 22 }) (va_Pc [.ref h0, .int b0] (fun U => va_P D CLS [(h0, .inr (0, [.ref qa, .int (nI fi), .int (nI h)])), (qa, .inl (cB, 1000, .inl f))] U.heap ∧ va_K D CLS [(cB, .byte)] U ∧ va_D (fun _ => True) [(h0, .inr (0, [.ref qa, .int (nI fi), .int (nI h)])), (qa, .inl (cB, 1000, .inl f))])) (QM (some (.int 0)) [(h0, .inr (0, [.ref qa, .int (nI fi), .int (nI h)])), (qa, .inl (cB, 1000, .inl f))] [(h0, .inr (0, [.ref qa, .int (nI fi), .int (nI h)])), (qa, .inl (cB, 1000, .inl f))] D) 0 0 (ad [(h0, .inr (0, [.ref qa, .int (nI fi), .int (nI h)])), (qa, .inl (cB, 1000, .inl f))]) := by
  refine Met.ofW (cc := b_Q_add) (maxL := 2) (ret := (some .boolean)) (by decide) rfl ?_
  intro p e s m args below meth c s₁ B hml hv
  obtain ⟨rfl, hP, hK, hD0⟩ := hv
  have hx := B.exec
  have hb := B.bytes
  have hr := B.returns
  have hts := atoms_spec (ws := WSY y_Q_add b_Q_add 2 (some .boolean)) B.pre
  have hg : ∀ w ∈ GW, w.before _ s = true := fun w h => hts w (List.mem_cons_of_mem _ h)
  have hown : s.vm.findClass "LineGolomb$BitQueue" = some m.cls := findClass_of_methodNamed B.named
  have hlocks := B.notSynchronized
  obtain ⟨A, hAe⟩ : ∃ A, A = ad [(h0, .inr (0, [.ref qa, .int (nI fi), .int (nI h)])), (qa, .inl (cB, 1000, .inl f))] := ⟨_, rfl⟩
  have hD : va_D A [(h0, .inr (0, [.ref qa, .int (nI fi), .int (nI h)])), (qa, .inl (cB, 1000, .inl f))] := by rw [hAe]; exact va_D_ad hD0
  have hS : va_S A s.heap s.heap [] := va_S.rf
  have hl := lv_entry ([.ref h0, .int b0]) (n := 2) (Nat.le_of_ble_eq_true rfl)
  rw [lg_entry_eq]
  generalize (lg_sl ([.ref h0, .int b0]) ++ List.replicate (2 - (lg_sl ([.ref h0, .int b0])).length) Slot.unset).toArray = ls at hl ⊢
  have hl : lv_has ls 2 [(0, .ref h0), (1, .int b0)] := hl
  refine lv_aload_n hx hb d_Q_add_0 rfl (lv_at hl 0 rfl) ?_
  refine va_get (D := D) (ci := 0) (v := .int (nI h)) (C := R_Q) (T := T_Q) (N := 3) hx hb hg in_Q hown hK hP 0 rfl rfl 2 (by decide) (hg _ gw_45) (fun _ h9 => h9) rfl d_Q_add_1 ?_
  refine lv_aload_n hx hb d_Q_add_4 rfl (lv_at hl 0 rfl) ?_
  refine va_get (D := D) (ci := 0) (v := .ref qa) (C := R_Q) (T := T_Q) (N := 3) hx hb hg in_Q hown hK hP 0 rfl rfl 0 (by decide) (hg _ gw_43) (fun _ h9 => h9) rfl d_Q_add_5 ?_
  refine va_alen (v := nI 1000) hx hb hK hP 1 0 rfl rfl rfl d_Q_add_8 ?_
  refine lv_icmp_lt (tgt := 14) hx hb d_Q_add_9 (by decide) (fun c_1 => ?_) (fun c_1 => ?_)
  · skip
    exact absurd c_1 (nI_nlt (by omega) (by omega))
  · skip
    refine lv_iconst (v := 0) hx hb d_Q_add_12 (by decide) ?_
    exact W.zret (v := 0) hx hb hr (rfl) (fun t ht hW => ⟨rfl, by rw [ht]; exact hP, (hAe ▸ hS).F ht⟩) (hAe ▸ hS).2.2 d_Q_add_13
set_option maxHeartbeats 4000000 in
set_option maxRecDepth 100000 in
theorem c_Q_drop (l : Launch) (D : va_G) (h0 qa : Nat) (cB : ClassId) (fi h : Nat) (f : Nat → Int32) (n : Nat) (hf : fi < 1000) (hh : h ≤ 1000) (hn : n ≤ h) : Met l y_Q_drop (WSY y_Q_drop b_Q_drop 3 none) ({ frames := 1, cells := 0, slots := 0, locals := 22 }) (va_Pc [.ref h0, .int (nI n)] (fun U => va_P D CLS [(h0, .inr (0, [.ref qa, .int (nI fi), .int (nI h)])), (qa, .inl (cB, 1000, .inl f))] U.heap ∧ va_K D CLS [(cB, .byte)] U ∧ va_D (fun _ => True) [(h0, .inr (0, [.ref qa, .int (nI fi), .int (nI h)])), (qa, .inl (cB, 1000, .inl f))])) (QM none [(h0, .inr (0, [.ref qa, .int (nI fi), .int (nI h)])), (qa, .inl (cB, 1000, .inl f))] [(h0, .inr (0, [.ref qa, .int (nI (rpl fi n)), .int (nI (h - n))])), (qa, .inl (cB, 1000, .inl f))] D) 0 0 (ad [(h0, .inr (0, [.ref qa, .int (nI fi), .int (nI h)])), (qa, .inl (cB, 1000, .inl f))]) := by
  refine Met.ofW (cc := b_Q_drop) (maxL := 3) (ret := none) (by decide) rfl ?_
  intro p e s m args below meth c s₁ B hml hv
  obtain ⟨rfl, hP, hK, hD0⟩ := hv
  have hx := B.exec
  have hb := B.bytes
  have hr := B.returns
  have hts := atoms_spec (ws := WSY y_Q_drop b_Q_drop 3 none) B.pre
  have hg : ∀ w ∈ GW, w.before _ s = true := fun w h => hts w (List.mem_cons_of_mem _ h)
  have hown : s.vm.findClass "LineGolomb$BitQueue" = some m.cls := findClass_of_methodNamed B.named
  have hlocks := B.notSynchronized
  obtain ⟨A, hAe⟩ : ∃ A, A = ad [(h0, .inr (0, [.ref qa, .int (nI fi), .int (nI h)])), (qa, .inl (cB, 1000, .inl f))] := ⟨_, rfl⟩
  have hD : va_D A [(h0, .inr (0, [.ref qa, .int (nI fi), .int (nI h)])), (qa, .inl (cB, 1000, .inl f))] := by rw [hAe]; exact va_D_ad hD0
  have hS : va_S A s.heap s.heap [] := va_S.rf
  have hl := lv_entry ([.ref h0, .int (nI n)]) (n := 3) (Nat.le_of_ble_eq_true rfl)
  rw [lg_entry_eq]
  generalize (lg_sl ([.ref h0, .int (nI n)]) ++ List.replicate (3 - (lg_sl ([.ref h0, .int (nI n)])).length) Slot.unset).toArray = ls at hl ⊢
  have hl : lv_has ls 3 [(0, .ref h0), (1, .int (nI n))] := hl
  refine lv_iload_n hx hb d_Q_drop_0 rfl (lv_at hl 1 rfl) ?_
  refine lv_aload_n hx hb d_Q_drop_1 rfl (lv_at hl 0 rfl) ?_
  refine va_get (D := D) (ci := 0) (v := .int (nI h)) (C := R_Q) (T := T_Q) (N := 3) hx hb hg in_Q hown hK hP 0 rfl rfl 2 (by decide) (hg _ gw_45) (fun _ h9 => h9) rfl d_Q_drop_2 ?_
  refine va_mmin hx hb (hml.trans hl.1.symm) hown (hg _ gw_179) (hg _ gw_58) (hg _ gw_4) (hg _ gw_59) (Nat.le_of_ble_eq_true rfl) (Nat.le_of_ble_eq_true rfl) (Nat.le_of_ble_eq_true rfl) (Nat.le_of_ble_eq_true rfl) d_Q_drop_5 ?_
  refine tpi (y := nI n) (if_neg (nI_nlt hn (by omega))) ?_
  refine lv_istore_n (lv' := [(2, .int (nI n)), (0, .ref h0), (1, .int (nI n))]) hx hb d_Q_drop_8 rfl hl (by decide) rfl (fun ls hl => ?_)
  refine lv_aload_n hx hb d_Q_drop_9 rfl (lv_at hl 1 rfl) ?_
  refine lv_aload_n hx hb d_Q_drop_10 rfl (lv_at hl 1 rfl) ?_
  refine lv_iload_n hx hb d_Q_drop_11 rfl (lv_at hl 0 rfl) ?_
  have hPc := hP.sub (ws' := [(h0, .inr (0, [.ref qa, .int (nI fi), .int (nI h)])), (qa, .inl (cB, 1000, .inl f))]) [0, 1] rfl
  have hKc := hK.sub (tys' := [(cB, .byte)]) [0] rfl
  refine pci (va_runV (As := [.int (nI n)]) (rest := [.ref h0]) ⟨hx, hb, hml, hown, hg⟩ (c_Q_placeOf l D h0 qa cB fi h f n hf (by omega)) (cwV 1 hg (gV gw_180 gw_182 gs_1 gw_3 gw_183) rfl rfl rfl (by decide +kernel) ⟨Nat.le_of_ble_eq_true rfl, Nat.le_of_ble_eq_true rfl⟩) ⟨fun a U g mk q => by obtain ⟨q0, qP, qK⟩ := q; exact ⟨q0, qP, va_K.moved (u := U) (U := U.calling g mk a) (Vm.Alike.refl U.vm) qK⟩, va_recv hKc hPc (ci := 0) (q0 := 0) rfl rfl, fun U hU hW => ⟨rfl, by rw [hU]; exact hPc, va_K.moved hW.alike hKc⟩⟩ rfl rfl hl.1 rfl (lv_room (Nat.le_of_ble_eq_true rfl)) d_Q_drop_12 (⟨Nat.le_of_ble_eq_true rfl, Nat.le_of_ble_eq_true rfl⟩)) ?_
  refine va_put (D := D) (ci := 0) (v := .int (nI (rpl fi n))) (ty := .int) (C := R_Q) (T := T_Q) (N := 3) hx hb hg in_Q ty_Q tok_Q nm_Q hown hK hP hD hS 0 rfl rfl 1 (by decide) (hg _ gw_44) (fun _ h9 => h9) rfl (by decide +kernel) (rfl) (rfl) (Nat.le_of_ble_eq_true rfl) d_Q_drop_15 (fun H locs hP hD hS => ?_)
  have hP : va_P D CLS [(h0, .inr (0, [.ref qa, .int (nI (rpl fi n)), .int (nI h)])), (qa, .inl (cB, 1000, .inl f))] H := hP
  have hD : va_D A [(h0, .inr (0, [.ref qa, .int (nI (rpl fi n)), .int (nI h)])), (qa, .inl (cB, 1000, .inl f))] := hD
  refine lv_aload_n hx hb d_Q_drop_18 rfl (lv_at hl 1 rfl) ?_
  refine lv_dup hx hb d_Q_drop_19 rfl ?_
  refine va_get (D := D) (ci := 0) (v := .int (nI h)) (C := R_Q) (T := T_Q) (N := 3) hx hb hg in_Q hown hK hP 0 rfl rfl 2 (by decide) (hg _ gw_45) (fun _ h9 => h9) rfl d_Q_drop_20 ?_
  refine lv_iload_n hx hb d_Q_drop_23 rfl (lv_at hl 0 rfl) ?_
  refine lv_isub hx hb d_Q_drop_24 ?_
  refine tpi (y := nI (h - n)) (pk_sub hn) ?_
  refine va_put (D := D) (ci := 0) (v := .int (nI (h - n))) (ty := .int) (C := R_Q) (T := T_Q) (N := 3) hx hb hg in_Q ty_Q tok_Q nm_Q hown hK hP hD hS 0 rfl rfl 2 (by decide) (hg _ gw_45) (fun _ h9 => h9) rfl (by decide +kernel) (rfl) (rfl) (Nat.le_of_ble_eq_true rfl) d_Q_drop_25 (fun H locs hP hD hS => ?_)
  have hP : va_P D CLS [(h0, .inr (0, [.ref qa, .int (nI (rpl fi n)), .int (nI (h - n))])), (qa, .inl (cB, 1000, .inl f))] H := hP
  have hD : va_D A [(h0, .inr (0, [.ref qa, .int (nI (rpl fi n)), .int (nI (h - n))])), (qa, .inl (cB, 1000, .inl f))] := hD
  exact W.vret hx hb hr (fun t ht hW => ⟨rfl, by rw [ht]; exact hP, (hAe ▸ hS).F ht⟩) (hAe ▸ hS).2.2 d_Q_drop_28
set_option maxHeartbeats 4000000 in
set_option maxRecDepth 100000 in
theorem c_B_putSame (l : Launch) (D : va_G) (h0 ra : Nat) (cB : ClassId) (u : Nat) (f : Nat → Int32) (b0 : Int32) (n : Nat) (hb0 : b0 = 0 ∨ b0 = 1) (hu : u + n ≤ 6000) : Met l y_B_putSame (WSY y_B_putSame b_B_putSame 4 none) ({ frames := 0, cells := 0, slots := 0, locals := 0 }) (va_Pc [.ref h0, .int b0, .int (nI n)] (fun U => va_P D CLS [(h0, .inr (1, [.ref ra, .int (nI u)])), (ra, .inl (cB, 6000, .inl f))] U.heap ∧ va_K D CLS [(cB, .byte)] U ∧ va_D (fun _ => True) [(h0, .inr (1, [.ref ra, .int (nI u)])), (ra, .inl (cB, 6000, .inl f))])) (QM none [(h0, .inr (1, [.ref ra, .int (nI u)])), (ra, .inl (cB, 6000, .inl f))] [(h0, .inr (1, [.ref ra, .int (nI (u + n))])), (ra, .inl (cB, 6000, .inl (fil f b0 u n)))] D) 0 0 (ad [(h0, .inr (1, [.ref ra, .int (nI u)])), (ra, .inl (cB, 6000, .inl f))]) := by
  refine Met.ofW (cc := b_B_putSame) (maxL := 4) (ret := none) (by decide) rfl ?_
  intro p e s m args below meth c s₁ B hml hv
  obtain ⟨rfl, hP, hK, hD0⟩ := hv
  have hx := B.exec
  have hb := B.bytes
  have hr := B.returns
  have hts := atoms_spec (ws := WSY y_B_putSame b_B_putSame 4 none) B.pre
  have hg : ∀ w ∈ GW, w.before _ s = true := fun w h => hts w (List.mem_cons_of_mem _ h)
  have hown : s.vm.findClass "LineGolomb$BitRow" = some m.cls := findClass_of_methodNamed B.named
  have hlocks := B.notSynchronized
  obtain ⟨A, hAe⟩ : ∃ A, A = ad [(h0, .inr (1, [.ref ra, .int (nI u)])), (ra, .inl (cB, 6000, .inl f))] := ⟨_, rfl⟩
  have hD : va_D A [(h0, .inr (1, [.ref ra, .int (nI u)])), (ra, .inl (cB, 6000, .inl f))] := by rw [hAe]; exact va_D_ad hD0
  have hS : va_S A s.heap s.heap [] := va_S.rf
  have hl := lv_entry ([.ref h0, .int b0, .int (nI n)]) (n := 4) (Nat.le_of_ble_eq_true rfl)
  rw [lg_entry_eq]
  generalize (lg_sl ([.ref h0, .int b0, .int (nI n)]) ++ List.replicate (4 - (lg_sl ([.ref h0, .int b0, .int (nI n)])).length) Slot.unset).toArray = ls at hl ⊢
  have hl : lv_has ls 4 [(0, .ref h0), (1, .int b0), (2, .int (nI n))] := hl
  refine lv_iconst (v := 0) hx hb d_B_putSame_0 (by decide) ?_
  refine lv_istore_n (lv' := [(3, .int 0), (0, .ref h0), (1, .int b0), (2, .int (nI n))]) hx hb d_B_putSame_1 rfl hl (by decide) rfl (fun ls hl => ?_)
  have loop : ∀ (d k : Nat), k + d = n → ∀ (H : Heap) (locs : List Loc), va_P D CLS [(h0, .inr (1, [.ref ra, .int (nI (u + k))])), (ra, .inl (cB, 6000, .inl (fil f b0 u k)))] H → va_D A [(h0, .inr (1, [.ref ra, .int (nI (u + k))])), (ra, .inl (cB, 6000, .inl (fil f b0 u k)))] → va_S A s.heap H locs → ∀ (ls : Array Slot), lv_has ls 4 [(3, .int (nI k)), (0, .ref h0), (1, .int b0), (2, .int (nI n))] → W p l e (headSpec (WSY y_B_putSame b_B_putSame 4 none) ({ frames := 0, cells := 0, slots := 0, locals := 0 })).room s m ([.ref h0, .int b0, .int (nI n)] : List Value).toArray below meth c H locs 0 0 (MQ below (QM none [(h0, .inr (1, [.ref ra, .int (nI u)])), (ra, .inl (cB, 6000, .inl f))] [(h0, .inr (1, [.ref ra, .int (nI (u + n))])), (ra, .inl (cB, 6000, .inl (fil f b0 u n)))] D) ([.ref h0, .int b0, .int (nI n)] : List Value).toArray s 0 0 (ad [(h0, .inr (1, [.ref ra, .int (nI u)])), (ra, .inl (cB, 6000, .inl f))])) (F0 m 2 ls []) := by
    intro d
    induction d with
    | zero =>
      intro k hk H locs hP hD hS ls hl
      obtain rfl : k = n := by omega
      refine lv_iload_n hx hb d_B_putSame_2 rfl (lv_at hl 0 rfl) ?_
      refine lv_iload_n hx hb d_B_putSame_3 rfl (lv_at hl 3 rfl) ?_
      refine lv_icmp_ge (tgt := 46) hx hb d_B_putSame_4 (by decide) (fun c_1 => ?_) (fun c_1 => ?_)
      · skip
        exact W.vret hx hb hr (fun t ht hW => ⟨rfl, by rw [ht]; exact hP, (hAe ▸ hS).F ht⟩) (hAe ▸ hS).2.2 d_B_putSame_46
      · skip
        exact absurd (nI_le (Nat.le_refl _) (by omega)) c_1
    | succ d ih =>
      intro k hk H locs hP hD hS ls hl
      refine lv_iload_n hx hb d_B_putSame_2 rfl (lv_at hl 0 rfl) ?_
      refine lv_iload_n hx hb d_B_putSame_3 rfl (lv_at hl 3 rfl) ?_
      refine lv_icmp_ge (tgt := 46) hx hb d_B_putSame_4 (by decide) (fun c_2 => ?_) (fun c_2 => ?_)
      · skip
        exact absurd ((nI_leI (by omega) (by omega)).mp c_2) (by omega)
      · skip
        refine lv_aload_n hx hb d_B_putSame_7 rfl (lv_at hl 1 rfl) ?_
        refine va_get (D := D) (ci := 1) (v := .int (nI (u + k))) (C := R_B) (T := T_B) (N := 2) hx hb hg in_B hown hK hP 0 rfl rfl 1 (by decide) (hg _ gw_29) (fun _ h9 => h9) rfl d_B_putSame_8 ?_
        refine lv_aload_n hx hb d_B_putSame_11 rfl (lv_at hl 1 rfl) ?_
        refine va_get (D := D) (ci := 1) (v := .ref ra) (C := R_B) (T := T_B) (N := 2) hx hb hg in_B hown hK hP 0 rfl rfl 0 (by decide) (hg _ gw_28) (fun _ h9 => h9) rfl d_B_putSame_12 ?_
        refine va_alen (v := nI 6000) hx hb hK hP 1 0 rfl rfl rfl d_B_putSame_15 ?_
        refine lv_icmp_ge (tgt := 46) hx hb d_B_putSame_16 (by decide) (fun c_3 => ?_) (fun c_3 => ?_)
        · skip
          exact absurd ((nI_leI (by omega) (by omega)).mp c_3) (by omega)
        · skip
          refine lv_aload_n hx hb d_B_putSame_19 rfl (lv_at hl 1 rfl) ?_
          refine va_get (D := D) (ci := 1) (v := .ref ra) (C := R_B) (T := T_B) (N := 2) hx hb hg in_B hown hK hP 0 rfl rfl 0 (by decide) (hg _ gw_28) (fun _ h9 => h9) rfl d_B_putSame_20 ?_
          refine lv_aload_n hx hb d_B_putSame_23 rfl (lv_at hl 1 rfl) ?_
          refine va_get (D := D) (ci := 1) (v := .int (nI (u + k))) (C := R_B) (T := T_B) (N := 2) hx hb hg in_B hown hK hP 0 rfl rfl 1 (by decide) (hg _ gw_29) (fun _ h9 => h9) rfl d_B_putSame_24 ?_
          refine lv_iload_n hx hb d_B_putSame_27 rfl (lv_at hl 2 rfl) ?_
          refine lv_i2b (v := b0) hx hb d_B_putSame_28 (b8 hb0) ?_
          refine va_bast hx hb hK hP hD hS 1 0 rfl rfl (vp_in_nI (by omega) (by omega)) d_B_putSame_29 (fun H locs hP hD hS => ?_)
          rw [nI_clamp (show u + k < 2 ^ 31 by omega), n8 hb0] at hP hD
          have hP : va_P D CLS [(h0, .inr (1, [.ref ra, .int (nI (u + k))])), (ra, .inl (cB, 6000, .inl (fil f b0 u (k + 1))))] H := hP
          have hD : va_D A [(h0, .inr (1, [.ref ra, .int (nI (u + k))])), (ra, .inl (cB, 6000, .inl (fil f b0 u (k + 1))))] := hD
          refine lv_aload_n hx hb d_B_putSame_30 rfl (lv_at hl 1 rfl) ?_
          refine lv_dup hx hb d_B_putSame_31 rfl ?_
          refine va_get (D := D) (ci := 1) (v := .int (nI (u + k))) (C := R_B) (T := T_B) (N := 2) hx hb hg in_B hown hK hP 0 rfl rfl 1 (by decide) (hg _ gw_29) (fun _ h9 => h9) rfl d_B_putSame_32 ?_
          refine lv_iconst (v := 1) hx hb d_B_putSame_35 (by decide) ?_
          refine lv_iadd hx hb d_B_putSame_36 ?_
          refine tpi (y := nI (u + (k + 1))) (nI_1 _) ?_
          refine va_put (D := D) (ci := 1) (v := .int (nI (u + (k + 1)))) (ty := .int) (C := R_B) (T := T_B) (N := 2) hx hb hg in_B ty_B tok_B nm_B hown hK hP hD hS 0 rfl rfl 1 (by decide) (hg _ gw_29) (fun _ h9 => h9) rfl (by decide +kernel) (rfl) (rfl) (Nat.le_of_ble_eq_true rfl) d_B_putSame_37 (fun H locs hP hD hS => ?_)
          have hP : va_P D CLS [(h0, .inr (1, [.ref ra, .int (nI (u + (k + 1)))])), (ra, .inl (cB, 6000, .inl (fil f b0 u (k + 1))))] H := hP
          have hD : va_D A [(h0, .inr (1, [.ref ra, .int (nI (u + (k + 1)))])), (ra, .inl (cB, 6000, .inl (fil f b0 u (k + 1))))] := hD
          refine lv_iinc (v := nI (k + 1)) (lv' := [(3, .int (nI (k + 1))), (0, .ref h0), (1, .int b0), (2, .int (nI n))]) hx hb d_B_putSame_40 hl (k := 0) rfl (nI_1 k) (by decide) rfl (fun ls hl => ?_)
          refine lv_goto (tgt := 2) hx hb d_B_putSame_43 (by decide) ?_
          exact ih (k + 1) (by omega) H locs hP hD hS ls (lv_sub hl [0, 1, 2, 3] rfl)
  exact loop n 0 (by omega) s.heap [] hP hD hS ls hl
set_option maxHeartbeats 4000000 in
set_option maxRecDepth 100000 in
theorem c_B_putLow (l : Launch) (D : va_G) (h0 ra : Nat) (cB : ClassId) (u : Nat) (f : Nat → Int32) (v0 : Int32) (n : Nat) (hn : n < 32) (hu : u + n ≤ 6000) : Met l y_B_putLow (WSY y_B_putLow b_B_putLow 4 none) ({ frames := 1, cells := 0, slots := 0, locals := 23 }) (va_Pc [.ref h0, .int v0, .int (nI n)] (fun U => va_P D CLS [(h0, .inr (1, [.ref ra, .int (nI u)])), (ra, .inl (cB, 6000, .inl f))] U.heap ∧ va_K D CLS [(cB, .byte)] U ∧ va_D (fun _ => True) [(h0, .inr (1, [.ref ra, .int (nI u)])), (ra, .inl (cB, 6000, .inl f))])) (QM none [(h0, .inr (1, [.ref ra, .int (nI u)])), (ra, .inl (cB, 6000, .inl f))] [(h0, .inr (1, [.ref ra, .int (nI (u + n))])), (ra, .inl (cB, 6000, .inl (flw f v0 n u n)))] D) 0 0 (ad [(h0, .inr (1, [.ref ra, .int (nI u)])), (ra, .inl (cB, 6000, .inl f))]) := by
  refine Met.ofW (cc := b_B_putLow) (maxL := 4) (ret := none) (by decide) rfl ?_
  intro p e s m args below meth c s₁ B hml hv
  obtain ⟨rfl, hP, hK, hD0⟩ := hv
  have hx := B.exec
  have hb := B.bytes
  have hr := B.returns
  have hts := atoms_spec (ws := WSY y_B_putLow b_B_putLow 4 none) B.pre
  have hg : ∀ w ∈ GW, w.before _ s = true := fun w h => hts w (List.mem_cons_of_mem _ h)
  have hown : s.vm.findClass "LineGolomb$BitRow" = some m.cls := findClass_of_methodNamed B.named
  have hlocks := B.notSynchronized
  obtain ⟨A, hAe⟩ : ∃ A, A = ad [(h0, .inr (1, [.ref ra, .int (nI u)])), (ra, .inl (cB, 6000, .inl f))] := ⟨_, rfl⟩
  have hD : va_D A [(h0, .inr (1, [.ref ra, .int (nI u)])), (ra, .inl (cB, 6000, .inl f))] := by rw [hAe]; exact va_D_ad hD0
  have hS : va_S A s.heap s.heap [] := va_S.rf
  have hl := lv_entry ([.ref h0, .int v0, .int (nI n)]) (n := 4) (Nat.le_of_ble_eq_true rfl)
  rw [lg_entry_eq]
  generalize (lg_sl ([.ref h0, .int v0, .int (nI n)]) ++ List.replicate (4 - (lg_sl ([.ref h0, .int v0, .int (nI n)])).length) Slot.unset).toArray = ls at hl ⊢
  have hl : lv_has ls 4 [(0, .ref h0), (1, .int v0), (2, .int (nI n))] := hl
  refine lv_iload_n hx hb d_B_putLow_0 rfl (lv_at hl 2 rfl) ?_
  refine lv_iconst (v := 1) hx hb d_B_putLow_1 (by decide) ?_
  refine lv_isub hx hb d_B_putLow_2 ?_
  refine lv_istore_n (lv' := [(3, .int ((nI n) - 1)), (0, .ref h0), (1, .int v0), (2, .int (nI n))]) hx hb d_B_putLow_3 rfl hl (by decide) rfl (fun ls hl => ?_)
  have loop : ∀ (d k : Nat), k + d = n → ∀ (H : Heap) (locs : List Loc), va_P D CLS [(h0, .inr (1, [.ref ra, .int (nI (u + k))])), (ra, .inl (cB, 6000, .inl (flw f v0 n u k)))] H → va_D A [(h0, .inr (1, [.ref ra, .int (nI (u + k))])), (ra, .inl (cB, 6000, .inl (flw f v0 n u k)))] → va_S A s.heap H locs → ∀ (ls : Array Slot), lv_has ls 4 [(3, .int (nI d - 1)), (0, .ref h0), (1, .int v0), (2, .int (nI n))] → W p l e (headSpec (WSY y_B_putLow b_B_putLow 4 none) ({ frames := 1, cells := 0, slots := 0, locals := 23 })).room s m ([.ref h0, .int v0, .int (nI n)] : List Value).toArray below meth c H locs 0 0 (MQ below (QM none [(h0, .inr (1, [.ref ra, .int (nI u)])), (ra, .inl (cB, 6000, .inl f))] [(h0, .inr (1, [.ref ra, .int (nI (u + n))])), (ra, .inl (cB, 6000, .inl (flw f v0 n u n)))] D) ([.ref h0, .int v0, .int (nI n)] : List Value).toArray s 0 0 (ad [(h0, .inr (1, [.ref ra, .int (nI u)])), (ra, .inl (cB, 6000, .inl f))])) (F0 m 4 ls []) := by
    intro d
    induction d with
    | zero =>
      intro k hk H locs hP hD hS ls hl
      obtain rfl : k = n := by omega
      refine lv_iload_n hx hb d_B_putLow_4 rfl (lv_at hl 0 rfl) ?_
      refine lv_if_lt (tgt := 24) hx hb d_B_putLow_5 (by decide) (fun c_1 => ?_) (fun c_1 => ?_)
      · skip
        exact W.vret hx hb hr (fun t ht hW => ⟨rfl, by rw [ht]; exact hP, (hAe ▸ hS).F ht⟩) (hAe ▸ hS).2.2 d_B_putLow_24
      · skip
        exact absurd (by decide) c_1
    | succ d ih =>
      intro k hk H locs hP hD hS ls hl
      refine lv_iload_n hx hb d_B_putLow_4 rfl (lv_at hl 0 rfl) ?_
      refine tpi (y := nI d) (nI_pred d) ?_
      refine lv_if_lt (tgt := 24) hx hb d_B_putLow_5 (by decide) (fun c_2 => ?_) (fun c_2 => ?_)
      · skip
        exact absurd c_2 (nI_pos (by omega))
      · skip
        have hl := hl
        rw [nI_pred d] at hl
        refine lv_aload_n hx hb d_B_putLow_8 rfl (lv_at hl 1 rfl) ?_
        refine lv_iload_n hx hb d_B_putLow_9 rfl (lv_at hl 2 rfl) ?_
        refine lv_iload_n hx hb d_B_putLow_10 rfl (lv_at hl 0 rfl) ?_
        refine lv_ishr hx hb d_B_putLow_11 ?_
        refine lv_iconst (v := 1) hx hb d_B_putLow_12 (by decide) ?_
        refine lv_iand hx hb d_B_putLow_13 ?_
        refine tpi (y := bitv v0 (n - 1 - k)) (by rw [show n - 1 - k = d by omega]; rfl) ?_
        refine lv_iconst (v := 1) hx hb d_B_putLow_14 (by decide) ?_
        have hPc := hP.sub (ws' := [(h0, .inr (1, [.ref ra, .int (nI (u + k))])), (ra, .inl (cB, 6000, .inl (flw f v0 n u k)))]) [0, 1] rfl
        have hDc := hD.sub (ws' := [(h0, .inr (1, [.ref ra, .int (nI (u + k))])), (ra, .inl (cB, 6000, .inl (flw f v0 n u k)))]) [0, 1] (by decide) rfl
        have hKc := hK.sub (tys' := [(cB, .byte)]) [0] rfl
        refine mcv (va_runV (As := [.int (bitv v0 (n - 1 - k)), .int 1]) (rest := []) ⟨hx, hb, hml, hown, hg⟩ (c_B_putSame l D h0 ra cB (u + k) (flw f v0 n u k) (bitv v0 (n - 1 - k)) 1 (bitv01 _ _) (by omega)) (cwV 2 hg (gV gw_309 gw_302 gw_303 gw_2 gw_304) rfl rfl rfl (by decide +kernel) ⟨Nat.le_of_ble_eq_true rfl, Nat.le_of_ble_eq_true rfl⟩) ⟨fun a U g mk q => by obtain ⟨q0, qP, qK, qD⟩ := q; exact ⟨q0, qP, va_K.moved (u := U) (U := U.calling g mk a) (Vm.Alike.refl U.vm) qK, qD⟩, va_recv hKc hPc (ci := 1) (q0 := 0) rfl rfl, fun U hU hW => ⟨rfl, by rw [hU]; exact hPc, va_K.moved hW.alike hKc, hDc.weaken (fun _ _ _ _ => trivial)⟩⟩ rfl rfl hl.1 rfl (lv_room (Nat.le_of_ble_eq_true rfl)) d_B_putLow_15 (⟨Nat.le_of_ble_eq_true rfl, Nat.le_of_ble_eq_true rfl⟩)) hS hP hD [0, 1] rfl rfl rfl (fun H locs hP hD hS => ?_)
        have hP : va_P D CLS [(h0, .inr (1, [.ref ra, .int (nI (u + (k + 1)))])), (ra, .inl (cB, 6000, .inl (flw f v0 n u (k + 1))))] H := hP
        have hD : va_D A [(h0, .inr (1, [.ref ra, .int (nI (u + (k + 1)))])), (ra, .inl (cB, 6000, .inl (flw f v0 n u (k + 1))))] := hD
        refine lv_iinc (v := nI d - 1) (lv' := [(3, .int (nI d - 1)), (0, .ref h0), (1, .int v0), (2, .int (nI n))]) hx hb d_B_putLow_18 hl (k := 0) rfl (dec1 _) (by decide) rfl (fun ls hl => ?_)
        refine lv_goto (tgt := 4) hx hb d_B_putLow_21 (by decide) ?_
        exact ih (k + 1) (by omega) H locs hP hD hS ls (lv_sub hl [0, 1, 2, 3] rfl)
  exact loop n 0 (by omega) s.heap [] hP hD hS ls hl
