/-! BitQueue and BitRow: pure methods -/
/-- the place of the waiting bit k in the ring -/
def rpl (fi k : Nat) : Nat := if fi + k < 1000 then fi + k else fi + k - 1000
theorem rpl_lt {fi k : Nat} (h1 : fi < 1000) (h2 : k ≤ 1000) : rpl fi k < 1000 := by unfold rpl; split <;> omega
/-- the waiting bit k (0 beyond them) -/
def qb (f : Nat → Int32) (fi h : Nat) : Nat → Int32 := fun k => if k < h then f (rpl fi k) else 0
theorem qb_in {f : Nat → Int32} {fi h k : Nat} (hk : k < h) : qb f fi h k = f (rpl fi k) := if_pos hk
theorem qb_out {f : Nat → Int32} {fi h k : Nat} (hk : ¬ k < h) : qb f fi h k = 0 := if_neg hk
/-- w bits of g from a on, the highest first -/
def bnum (g : Nat → Int32) (a : Nat) : Nat → Int32
  | 0 => 0
  | w + 1 => 2 * bnum g a w + g (a + w)
set_option maxHeartbeats 4000000 in
set_option maxRecDepth 100000 in
theorem c_Q_room (l : Launch) (D : va_G) (h0 qa : Nat) (cB : ClassId) (fi h : Nat) (f : Nat → Int32) (hh : h ≤ 1000) : Met l y_Q_room (WSY y_Q_room b_Q_room 1 (some .int)) ({ frames := 0, cells := 0, slots := 0, locals := 0 }) (va_Pc [.ref h0] (fun U => va_P D CLS [(h0, .inr (0, [.ref qa, .int (nI fi), .int (nI h)])), (qa, .inl (cB, 1000, .inl f))] U.heap ∧ va_K D CLS [(cB, .byte)] U)) (QR (some (.int (nI (1000 - h))))) 0 0 (fun _ => False) := by
  refine Met.ofW (cc := b_Q_room) (maxL := 1) (ret := (some .int)) (by decide) rfl ?_
  intro p e s m args below meth c s₁ B hml hv
  obtain ⟨rfl, hP, hK⟩ := hv
  have hx := B.exec
  have hb := B.bytes
  have hr := B.returns
  have hts := atoms_spec (ws := WSY y_Q_room b_Q_room 1 (some .int)) B.pre
  have hg : ∀ w ∈ GW, w.before _ s = true := fun w h => hts w (List.mem_cons_of_mem _ h)
  have hown : s.vm.findClass "LineGolomb$BitQueue" = some m.cls := findClass_of_methodNamed B.named
  have hlocks := B.notSynchronized
  have hS : va_S (fun _ => False) s.heap s.heap [] := va_S.rf
  have hl := lv_entry ([.ref h0]) (n := 1) (Nat.le_of_ble_eq_true rfl)
  rw [lg_entry_eq]
  generalize (lg_sl ([.ref h0]) ++ List.replicate (1 - (lg_sl ([.ref h0])).length) Slot.unset).toArray = ls at hl ⊢
  have hl : lv_has ls 1 [(0, .ref h0)] := hl
  refine lv_aload_n hx hb d_Q_room_0 rfl (lv_at hl 0 rfl) ?_
  refine va_get (D := D) (ci := 0) (v := .ref qa) (C := R_Q) (T := T_Q) (N := 3) hx hb hg in_Q hown hK hP 0 rfl rfl 0 (by decide) (hg _ gw_43) (fun _ h9 => h9) rfl d_Q_room_1 ?_
  refine va_alen (v := nI 1000) hx hb hK hP 1 0 rfl rfl rfl d_Q_room_4 ?_
  refine lv_aload_n hx hb d_Q_room_5 rfl (lv_at hl 0 rfl) ?_
  refine va_get (D := D) (ci := 0) (v := .int (nI h)) (C := R_Q) (T := T_Q) (N := 3) hx hb hg in_Q hown hK hP 0 rfl rfl 2 (by decide) (hg _ gw_45) (fun _ h9 => h9) rfl d_Q_room_6 ?_
  refine lv_isub hx hb d_Q_room_9 ?_
  refine tpi (y := nI (1000 - h)) (pk_sub hh) ?_
  exact W.iret (v := nI (1000 - h)) hx hb hr (fun t ht hW => ⟨rfl, ht⟩) (fun q h => by cases h) d_Q_room_10
set_option maxHeartbeats 4000000 in
set_option maxRecDepth 100000 in
theorem c_Q_placeOf (l : Launch) (D : va_G) (h0 qa : Nat) (cB : ClassId) (fi h : Nat) (f : Nat → Int32) (k : Nat) (hf : fi < 1000) (hk : k ≤ 1000) : Met l y_Q_placeOf (WSY y_Q_placeOf b_Q_placeOf 3 (some .int)) ({ frames := 0, cells := 0, slots := 0, locals := 0 }) (va_Pc [.ref h0, .int (nI k)] (fun U => va_P D CLS [(h0, .inr (0, [.ref qa, .int (nI fi), .int (nI h)])), (qa, .inl (cB, 1000, .inl f))] U.heap ∧ va_K D CLS [(cB, .byte)] U)) (QR (some (.int (nI (rpl fi k))))) 0 0 (fun _ => False) := by
  refine Met.ofW (cc := b_Q_placeOf) (maxL := 3) (ret := (some .int)) (by decide) rfl ?_
  intro p e s m args below meth c s₁ B hml hv
  obtain ⟨rfl, hP, hK⟩ := hv
  have hx := B.exec
  have hb := B.bytes
  have hr := B.returns
  have hts := atoms_spec (ws := WSY y_Q_placeOf b_Q_placeOf 3 (some .int)) B.pre
  have hg : ∀ w ∈ GW, w.before _ s = true := fun w h => hts w (List.mem_cons_of_mem _ h)
  have hown : s.vm.findClass "LineGolomb$BitQueue" = some m.cls := findClass_of_methodNamed B.named
  have hlocks := B.notSynchronized
  have hS : va_S (fun _ => False) s.heap s.heap [] := va_S.rf
  have hl := lv_entry ([.ref h0, .int (nI k)]) (n := 3) (Nat.le_of_ble_eq_true rfl)
  rw [lg_entry_eq]
  generalize (lg_sl ([.ref h0, .int (nI k)]) ++ List.replicate (3 - (lg_sl ([.ref h0, .int (nI k)])).length) Slot.unset).toArray = ls at hl ⊢
  have hl : lv_has ls 3 [(0, .ref h0), (1, .int (nI k))] := hl
  refine lv_aload_n hx hb d_Q_placeOf_0 rfl (lv_at hl 0 rfl) ?_
  refine va_get (D := D) (ci := 0) (v := .int (nI fi)) (C := R_Q) (T := T_Q) (N := 3) hx hb hg in_Q hown hK hP 0 rfl rfl 1 (by decide) (hg _ gw_44) (fun _ h9 => h9) rfl d_Q_placeOf_1 ?_
  refine lv_iload_n hx hb d_Q_placeOf_4 rfl (lv_at hl 1 rfl) ?_
  refine lv_iadd hx hb d_Q_placeOf_5 ?_
  refine tpi (y := nI (fi + k)) (nI_add _ _) ?_
  refine lv_istore_n (lv' := [(2, .int (nI (fi + k))), (0, .ref h0), (1, .int (nI k))]) hx hb d_Q_placeOf_6 rfl hl (by decide) rfl (fun ls hl => ?_)
  refine lv_iload_n hx hb d_Q_placeOf_7 rfl (lv_at hl 0 rfl) ?_
  refine lv_aload_n hx hb d_Q_placeOf_8 rfl (lv_at hl 1 rfl) ?_
  refine va_get (D := D) (ci := 0) (v := .ref qa) (C := R_Q) (T := T_Q) (N := 3) hx hb hg in_Q hown hK hP 0 rfl rfl 0 (by decide) (hg _ gw_43) (fun _ h9 => h9) rfl d_Q_placeOf_9 ?_
  refine va_alen (v := nI 1000) hx hb hK hP 1 0 rfl rfl rfl d_Q_placeOf_12 ?_
  refine lv_icmp_ge (tgt := 20) hx hb d_Q_placeOf_13 (by decide) (fun c_1 => ?_) (fun c_1 => ?_)
  · skip
    have h1 : 1000 ≤ fi + k := (nI_leI (by omega) (by omega)).mp c_1
    refine lv_iload_n hx hb d_Q_placeOf_20 rfl (lv_at hl 0 rfl) ?_
    refine lv_aload_n hx hb d_Q_placeOf_21 rfl (lv_at hl 1 rfl) ?_
    refine va_get (D := D) (ci := 0) (v := .ref qa) (C := R_Q) (T := T_Q) (N := 3) hx hb hg in_Q hown hK hP 0 rfl rfl 0 (by decide) (hg _ gw_43) (fun _ h9 => h9) rfl d_Q_placeOf_22 ?_
    refine va_alen (v := nI 1000) hx hb hK hP 1 0 rfl rfl rfl d_Q_placeOf_25 ?_
    refine lv_isub hx hb d_Q_placeOf_26 ?_
    refine tpi (y := nI (rpl fi k)) (by rw [show rpl fi k = fi + k - 1000 from if_neg (by omega)]; exact pk_sub h1) ?_
    exact W.iret (v := nI (rpl fi k)) hx hb hr (fun t ht hW => ⟨rfl, ht⟩) (fun q h => by cases h) d_Q_placeOf_27
  · skip
    have h1 : ¬ 1000 ≤ fi + k := fun z => c_1 ((nI_leI (by omega) (by omega)).mpr z)
    refine lv_iload_n hx hb d_Q_placeOf_16 rfl (lv_at hl 0 rfl) ?_
    refine lv_goto (tgt := 27) hx hb d_Q_placeOf_17 (by decide) ?_
    refine tpi (y := nI (rpl fi k)) (by rw [show rpl fi k = fi + k from if_pos (by omega)]) ?_
    exact W.iret (v := nI (rpl fi k)) hx hb hr (fun t ht hW => ⟨rfl, ht⟩) (fun q h => by cases h) d_Q_placeOf_27
set_option maxHeartbeats 4000000 in
set_option maxRecDepth 100000 in
theorem c_Q_look (l : Launch) (D : va_G) (h0 qa : Nat) (cB : ClassId) (fi h : Nat) (f : Nat → Int32) (k : Nat) (hf : fi < 1000) (hh : h ≤ 1000) (hk : k < 2 ^ 31) : Met l y_Q_look (WSY y_Q_look b_Q_look 2 (some .int)) ({ frames := 1, cells := 0, slots := 0, locals := 22 }) (va_Pc [.ref h0, .int (nI k)] (fun U => va_P D CLS [(h0, .inr (0, [.ref qa, .int (nI fi), .int (nI h)])), (qa, .inl (cB, 1000, .inl f))] U.heap ∧ va_K D CLS [(cB, .byte)] U)) (QR (some (.int (qb f fi h k)))) 0 0 (fun _ => False) := by
  refine Met.ofW (cc := b_Q_look) (maxL := 2) (ret := (some .int)) (by decide) rfl ?_
  intro p e s m args below meth c s₁ B hml hv
  obtain ⟨rfl, hP, hK⟩ := hv
  have hx := B.exec
  have hb := B.bytes
  have hr := B.returns
  have hts := atoms_spec (ws := WSY y_Q_look b_Q_look 2 (some .int)) B.pre
  have hg : ∀ w ∈ GW, w.before _ s = true := fun w h => hts w (List.mem_cons_of_mem _ h)
  have hown : s.vm.findClass "LineGolomb$BitQueue" = some m.cls := findClass_of_methodNamed B.named
  have hlocks := B.notSynchronized
  have hS : va_S (fun _ => False) s.heap s.heap [] := va_S.rf
  have hl := lv_entry ([.ref h0, .int (nI k)]) (n := 2) (Nat.le_of_ble_eq_true rfl)
  rw [lg_entry_eq]
  generalize (lg_sl ([.ref h0, .int (nI k)]) ++ List.replicate (2 - (lg_sl ([.ref h0, .int (nI k)])).length) Slot.unset).toArray = ls at hl ⊢
  have hl : lv_has ls 2 [(0, .ref h0), (1, .int (nI k))] := hl
  refine lv_iload_n hx hb d_Q_look_0 rfl (lv_at hl 1 rfl) ?_
  refine lv_if_lt (tgt := 12) hx hb d_Q_look_1 (by decide) (fun c_1 => ?_) (fun c_1 => ?_)
  · skip
    exact absurd c_1 (nI_pos hk)
  · skip
    refine lv_iload_n hx hb d_Q_look_4 rfl (lv_at hl 1 rfl) ?_
    refine lv_aload_n hx hb d_Q_look_5 rfl (lv_at hl 0 rfl) ?_
    refine va_get (D := D) (ci := 0) (v := .int (nI h)) (C := R_Q) (T := T_Q) (N := 3) hx hb hg in_Q hown hK hP 0 rfl rfl 2 (by decide) (hg _ gw_45) (fun _ h9 => h9) rfl d_Q_look_6 ?_
    refine lv_icmp_lt (tgt := 16) hx hb d_Q_look_9 (by decide) (fun c_2 => ?_) (fun c_2 => ?_)
    · skip
      have h1 : k < h := (nI_ltI (by omega) (by omega)).mp c_2
      refine lv_aload_n hx hb d_Q_look_16 rfl (lv_at hl 0 rfl) ?_
      refine va_get (D := D) (ci := 0) (v := .ref qa) (C := R_Q) (T := T_Q) (N := 3) hx hb hg in_Q hown hK hP 0 rfl rfl 0 (by decide) (hg _ gw_43) (fun _ h9 => h9) rfl d_Q_look_17 ?_
      refine lv_aload_n hx hb d_Q_look_20 rfl (lv_at hl 0 rfl) ?_
      refine lv_iload_n hx hb d_Q_look_21 rfl (lv_at hl 1 rfl) ?_
      have hPc := hP.sub (ws' := [(h0, .inr (0, [.ref qa, .int (nI fi), .int (nI h)])), (qa, .inl (cB, 1000, .inl f))]) [0, 1] rfl
      have hKc := hK.sub (tys' := [(cB, .byte)]) [0] rfl
      refine pci (va_runV (As := [.int (nI k)]) (rest := [.ref qa]) ⟨hx, hb, hml, hown, hg⟩ (c_Q_placeOf l D h0 qa cB fi h f k hf (by omega)) (cwV 1 hg (gV gw_180 gw_182 gs_1 gw_3 gw_183) rfl rfl rfl (by decide +kernel) ⟨Nat.le_of_ble_eq_true rfl, Nat.le_of_ble_eq_true rfl⟩) ⟨fun a U g mk q => by obtain ⟨q0, qP, qK⟩ := q; exact ⟨q0, qP, va_K.moved (u := U) (U := U.calling g mk a) (Vm.Alike.refl U.vm) qK⟩, va_recv hKc hPc (ci := 0) (q0 := 0) rfl rfl, fun U hU hW => ⟨rfl, by rw [hU]; exact hPc, va_K.moved hW.alike hKc⟩⟩ rfl rfl hl.1 rfl (lv_room (Nat.le_of_ble_eq_true rfl)) d_Q_look_22 (⟨Nat.le_of_ble_eq_true rfl, Nat.le_of_ble_eq_true rfl⟩)) ?_
      refine va_bald hx hb hK hP 1 0 rfl rfl (vp_in_nI (rpl_lt hf (by omega)) (by omega)) d_Q_look_25 ?_
      refine tpi (y := qb f fi h k) (by rw [qb_in h1, nI_clamp (by have := rpl_lt hf (show k ≤ 1000 by omega); omega)]) ?_
      exact W.iret (v := qb f fi h k) hx hb hr (fun t ht hW => ⟨rfl, ht⟩) (fun q h => by cases h) d_Q_look_26
    · skip
      have h1 : ¬ k < h := fun z => c_2 ((nI_ltI (by omega) (by omega)).mpr z)
      refine lv_iconst (v := 0) hx hb d_Q_look_12 (by decide) ?_
      refine lv_goto (tgt := 26) hx hb d_Q_look_13 (by decide) ?_
      refine tpi (y := qb f fi h k) ((qb_out h1).symm) ?_
      exact W.iret (v := qb f fi h k) hx hb hr (fun t ht hW => ⟨rfl, ht⟩) (fun q h => by cases h) d_Q_look_26
set_option maxHeartbeats 4000000 in
set_option maxRecDepth 100000 in
theorem c_Q_lookNumber (l : Launch) (D : va_G) (h0 qa : Nat) (cB : ClassId) (fi h : Nat) (f : Nat → Int32) (a0 w0 : Nat) (hf : fi < 1000) (hh : h ≤ 1000) (ha : a0 < 2 ^ 30) (hw : w0 < 2 ^ 30) : Met l y_Q_lookNumber (WSY y_Q_lookNumber b_Q_lookNumber 5 (some .int)) ({ frames := 2, cells := 0, slots := 0, locals := 43 }) (va_Pc [.ref h0, .int (nI a0), .int (nI w0)] (fun U => va_P D CLS [(h0, .inr (0, [.ref qa, .int (nI fi), .int (nI h)])), (qa, .inl (cB, 1000, .inl f))] U.heap ∧ va_K D CLS [(cB, .byte)] U)) (QR (some (.int (bnum (qb f fi h) a0 w0)))) 0 0 (fun _ => False) := by
  refine Met.ofW (cc := b_Q_lookNumber) (maxL := 5) (ret := (some .int)) (by decide) rfl ?_
  intro p e s m args below meth c s₁ B hml hv
  obtain ⟨rfl, hP, hK⟩ := hv
  have hx := B.exec
  have hb := B.bytes
  have hr := B.returns
  have hts := atoms_spec (ws := WSY y_Q_lookNumber b_Q_lookNumber 5 (some .int)) B.pre
  have hg : ∀ w ∈ GW, w.before _ s = true := fun w h => hts w (List.mem_cons_of_mem _ h)
  have hown : s.vm.findClass "LineGolomb$BitQueue" = some m.cls := findClass_of_methodNamed B.named
  have hlocks := B.notSynchronized
  have hS : va_S (fun _ => False) s.heap s.heap [] := va_S.rf
  have hl := lv_entry ([.ref h0, .int (nI a0), .int (nI w0)]) (n := 5) (Nat.le_of_ble_eq_true rfl)
  rw [lg_entry_eq]
  generalize (lg_sl ([.ref h0, .int (nI a0), .int (nI w0)]) ++ List.replicate (5 - (lg_sl ([.ref h0, .int (nI a0), .int (nI w0)])).length) Slot.unset).toArray = ls at hl ⊢
  have hl : lv_has ls 5 [(0, .ref h0), (1, .int (nI a0)), (2, .int (nI w0))] := hl
  refine lv_iconst (v := 0) hx hb d_Q_lookNumber_0 (by decide) ?_
  refine lv_istore_n (lv' := [(3, .int 0), (0, .ref h0), (1, .int (nI a0)), (2, .int (nI w0))]) hx hb d_Q_lookNumber_1 rfl hl (by decide) rfl (fun ls hl => ?_)
  refine lv_iconst (v := 0) hx hb d_Q_lookNumber_2 (by decide) ?_
  refine lv_istore (lv' := [(4, .int 0), (3, .int 0), (0, .ref h0), (1, .int (nI a0)), (2, .int (nI w0))]) hx hb d_Q_lookNumber_3 hl (by decide) rfl (fun ls hl => ?_)
  have loop : ∀ (d k : Nat), k + d = w0 → ∀ (ls : Array Slot), lv_has ls 5 [(4, .int (nI k)), (3, .int (bnum (qb f fi h) a0 k)), (0, .ref h0), (1, .int (nI a0)), (2, .int (nI w0))] → W p l e (headSpec (WSY y_Q_lookNumber b_Q_lookNumber 5 (some .int)) ({ frames := 2, cells := 0, slots := 0, locals := 43 })).room s m ([.ref h0, .int (nI a0), .int (nI w0)] : List Value).toArray below meth c s.heap [] 0 0 (MQ below (QR (some (.int (bnum (qb f fi h) a0 w0)))) ([.ref h0, .int (nI a0), .int (nI w0)] : List Value).toArray s 0 0 (fun _ => False)) (F0 m 5 ls []) := by
    intro d
    induction d with
    | zero =>
      intro k hk ls hl
      refine lv_iload hx hb d_Q_lookNumber_5 (lv_at hl 0 rfl) ?_
      refine lv_iload_n hx hb d_Q_lookNumber_7 rfl (lv_at hl 4 rfl) ?_
      refine lv_icmp_ge (tgt := 30) hx hb d_Q_lookNumber_8 (by decide) (fun c_1 => ?_) (fun c_1 => ?_)
      · skip
        refine lv_iload_n hx hb d_Q_lookNumber_30 rfl (lv_at hl 1 rfl) ?_
        obtain rfl : k = w0 := by omega
        exact W.iret (v := bnum (qb f fi h) a0 k) hx hb hr (fun t ht hW => ⟨rfl, ht⟩) (fun q h => by cases h) d_Q_lookNumber_31
      · skip
        exact absurd (nI_le (show w0 ≤ k by omega) (by omega)) c_1
    | succ d ih =>
      intro k hk ls hl
      refine lv_iload hx hb d_Q_lookNumber_5 (lv_at hl 0 rfl) ?_
      refine lv_iload_n hx hb d_Q_lookNumber_7 rfl (lv_at hl 4 rfl) ?_
      refine lv_icmp_ge (tgt := 30) hx hb d_Q_lookNumber_8 (by decide) (fun c_2 => ?_) (fun c_2 => ?_)
      · skip
        exact absurd ((nI_leI (by omega) (by omega)).mp c_2) (by omega)
      · skip
        refine lv_iconst (v := 2) hx hb d_Q_lookNumber_11 (by decide) ?_
        refine lv_iload_n hx hb d_Q_lookNumber_12 rfl (lv_at hl 1 rfl) ?_
        refine lv_imul hx hb d_Q_lookNumber_13 ?_
        refine lv_aload_n hx hb d_Q_lookNumber_14 rfl (lv_at hl 2 rfl) ?_
        refine lv_iload_n hx hb d_Q_lookNumber_15 rfl (lv_at hl 3 rfl) ?_
        refine lv_iload hx hb d_Q_lookNumber_16 (lv_at hl 0 rfl) ?_
        refine lv_iadd hx hb d_Q_lookNumber_18 ?_
        refine tpi (y := nI (a0 + k)) (nI_add _ _) ?_
        have hPc := hP.sub (ws' := [(h0, .inr (0, [.ref qa, .int (nI fi), .int (nI h)])), (qa, .inl (cB, 1000, .inl f))]) [0, 1] rfl
        have hKc := hK.sub (tys' := [(cB, .byte)]) [0] rfl
        refine pci (va_runV (As := [.int (nI (a0 + k))]) (rest := [.int (2 * (bnum (qb f fi h) a0 k))]) ⟨hx, hb, hml, hown, hg⟩ (c_Q_look l D h0 qa cB fi h f (a0 + k) hf hh (by omega)) (cwV 1 hg (gV gw_445 gw_446 gw_447 gw_3 gw_448) rfl rfl rfl (by decide +kernel) ⟨Nat.le_of_ble_eq_true rfl, Nat.le_of_ble_eq_true rfl⟩) ⟨fun a U g mk q => by obtain ⟨q0, qP, qK⟩ := q; exact ⟨q0, qP, va_K.moved (u := U) (U := U.calling g mk a) (Vm.Alike.refl U.vm) qK⟩, va_recv hKc hPc (ci := 0) (q0 := 0) rfl rfl, fun U hU hW => ⟨rfl, by rw [hU]; exact hPc, va_K.moved hW.alike hKc⟩⟩ rfl rfl hl.1 rfl (lv_room (Nat.le_of_ble_eq_true rfl)) d_Q_lookNumber_19 (⟨Nat.le_of_ble_eq_true rfl, Nat.le_of_ble_eq_true rfl⟩)) ?_
        refine lv_iadd hx hb d_Q_lookNumber_22 ?_
        refine tpi (y := bnum (qb f fi h) a0 (k + 1)) (rfl) ?_
        refine lv_istore_n (lv' := [(3, .int (bnum (qb f fi h) a0 (k + 1))), (4, .int (nI k)), (0, .ref h0), (1, .int (nI a0)), (2, .int (nI w0))]) hx hb d_Q_lookNumber_23 rfl hl (by decide) rfl (fun ls hl => ?_)
        refine lv_iinc (v := nI (k + 1)) (lv' := [(4, .int (nI (k + 1))), (3, .int (bnum (qb f fi h) a0 (k + 1))), (0, .ref h0), (1, .int (nI a0)), (2, .int (nI w0))]) hx hb d_Q_lookNumber_24 hl (k := 1) rfl (nI_1 k) (by decide) rfl (fun ls hl => ?_)
        refine lv_goto (tgt := 5) hx hb d_Q_lookNumber_27 (by decide) ?_
        exact ih (k + 1) (by omega) ls (lv_sub hl [0, 1, 2, 3, 4] rfl)
  exact loop w0 0 (by omega) ls hl
set_option maxHeartbeats 4000000 in
set_option maxRecDepth 100000 in
theorem c_Q_zerosAhead (l : Launch) (D : va_G) (h0 qa : Nat) (cB : ClassId) (fi h : Nat) (f : Nat → Int32) (b0 z : Nat) (hf : fi < 1000) (hh : h ≤ 1000) (hb0 : b0 < 2 ^ 30) (hz1 : z ≤ b0) (hz2 : z ≤ h) (hz3 : ∀ j, j < z → qb f fi h j = 0) (hz4 : z = b0 ∨ z = h ∨ qb f fi h z ≠ 0) : Met l y_Q_zerosAhead (WSY y_Q_zerosAhead b_Q_zerosAhead 3 (some .int)) ({ frames := 2, cells := 0, slots := 0, locals := 43 }) (va_Pc [.ref h0, .int (nI b0)] (fun U => va_P D CLS [(h0, .inr (0, [.ref qa, .int (nI fi), .int (nI h)])), (qa, .inl (cB, 1000, .inl f))] U.heap ∧ va_K D CLS [(cB, .byte)] U)) (QR (some (.int (nI z)))) 0 0 (fun _ => False) := by
  refine Met.ofW (cc := b_Q_zerosAhead) (maxL := 3) (ret := (some .int)) (by decide) rfl ?_
  intro p e s m args below meth c s₁ B hml hv
  obtain ⟨rfl, hP, hK⟩ := hv
  have hx := B.exec
  have hb := B.bytes
  have hr := B.returns
  have hts := atoms_spec (ws := WSY y_Q_zerosAhead b_Q_zerosAhead 3 (some .int)) B.pre
  have hg : ∀ w ∈ GW, w.before _ s = true := fun w h => hts w (List.mem_cons_of_mem _ h)
  have hown : s.vm.findClass "LineGolomb$BitQueue" = some m.cls := findClass_of_methodNamed B.named
  have hlocks := B.notSynchronized
  have hS : va_S (fun _ => False) s.heap s.heap [] := va_S.rf
  have hl := lv_entry ([.ref h0, .int (nI b0)]) (n := 3) (Nat.le_of_ble_eq_true rfl)
  rw [lg_entry_eq]
  generalize (lg_sl ([.ref h0, .int (nI b0)]) ++ List.replicate (3 - (lg_sl ([.ref h0, .int (nI b0)])).length) Slot.unset).toArray = ls at hl ⊢
  have hl : lv_has ls 3 [(0, .ref h0), (1, .int (nI b0))] := hl
  refine lv_iconst (v := 0) hx hb d_Q_zerosAhead_0 (by decide) ?_
  refine lv_istore_n (lv' := [(2, .int 0), (0, .ref h0), (1, .int (nI b0))]) hx hb d_Q_zerosAhead_1 rfl hl (by decide) rfl (fun ls hl => ?_)
  have loop : ∀ (d k : Nat), k + d = z → ∀ (ls : Array Slot), lv_has ls 3 [(2, .int (nI k)), (0, .ref h0), (1, .int (nI b0))] → W p l e (headSpec (WSY y_Q_zerosAhead b_Q_zerosAhead 3 (some .int)) ({ frames := 2, cells := 0, slots := 0, locals := 43 })).room s m ([.ref h0, .int (nI b0)] : List Value).toArray below meth c s.heap [] 0 0 (MQ below (QR (some (.int (nI z)))) ([.ref h0, .int (nI b0)] : List Value).toArray s 0 0 (fun _ => False)) (F0 m 2 ls []) := by
    intro d
    induction d with
    | zero =>
      intro k hk ls hl
      obtain rfl : k = z := by omega
      refine lv_iload_n hx hb d_Q_zerosAhead_2 rfl (lv_at hl 0 rfl) ?_
      refine lv_iload_n hx hb d_Q_zerosAhead_3 rfl (lv_at hl 2 rfl) ?_
      refine lv_icmp_ge (tgt := 29) hx hb d_Q_zerosAhead_4 (by decide) (fun c_1 => ?_) (fun c_1 => ?_)
      · skip
        refine lv_iload_n hx hb d_Q_zerosAhead_29 rfl (lv_at hl 0 rfl) ?_
        exact W.iret (v := nI k) hx hb hr (fun t ht hW => ⟨rfl, ht⟩) (fun q h => by cases h) d_Q_zerosAhead_30
      · skip
        refine lv_iload_n hx hb d_Q_zerosAhead_7 rfl (lv_at hl 0 rfl) ?_
        refine lv_aload_n hx hb d_Q_zerosAhead_8 rfl (lv_at hl 1 rfl) ?_
        refine va_get (D := D) (ci := 0) (v := .int (nI h)) (C := R_Q) (T := T_Q) (N := 3) hx hb hg in_Q hown hK hP 0 rfl rfl 2 (by decide) (hg _ gw_45) (fun _ h9 => h9) rfl d_Q_zerosAhead_9 ?_
        refine lv_icmp_ge (tgt := 29) hx hb d_Q_zerosAhead_12 (by decide) (fun c_2 => ?_) (fun c_2 => ?_)
        · skip
          refine lv_iload_n hx hb d_Q_zerosAhead_29 rfl (lv_at hl 0 rfl) ?_
          exact W.iret (v := nI k) hx hb hr (fun t ht hW => ⟨rfl, ht⟩) (fun q h => by cases h) d_Q_zerosAhead_30
        · skip
          refine lv_aload_n hx hb d_Q_zerosAhead_15 rfl (lv_at hl 1 rfl) ?_
          refine lv_iload_n hx hb d_Q_zerosAhead_16 rfl (lv_at hl 0 rfl) ?_
          have hPc := hP.sub (ws' := [(h0, .inr (0, [.ref qa, .int (nI fi), .int (nI h)])), (qa, .inl (cB, 1000, .inl f))]) [0, 1] rfl
          have hKc := hK.sub (tys' := [(cB, .byte)]) [0] rfl
          refine pci (va_runV (As := [.int (nI k)]) (rest := []) ⟨hx, hb, hml, hown, hg⟩ (c_Q_look l D h0 qa cB fi h f k hf hh (by omega)) (cwV 1 hg (gV gw_445 gw_446 gw_447 gw_3 gw_448) rfl rfl rfl (by decide +kernel) ⟨Nat.le_of_ble_eq_true rfl, Nat.le_of_ble_eq_true rfl⟩) ⟨fun a U g mk q => by obtain ⟨q0, qP, qK⟩ := q; exact ⟨q0, qP, va_K.moved (u := U) (U := U.calling g mk a) (Vm.Alike.refl U.vm) qK⟩, va_recv hKc hPc (ci := 0) (q0 := 0) rfl rfl, fun U hU hW => ⟨rfl, by rw [hU]; exact hPc, va_K.moved hW.alike hKc⟩⟩ rfl rfl hl.1 rfl (lv_room (Nat.le_of_ble_eq_true rfl)) d_Q_zerosAhead_17 (⟨Nat.le_of_ble_eq_true rfl, Nat.le_of_ble_eq_true rfl⟩)) ?_
          refine lv_if_ne (tgt := 29) hx hb d_Q_zerosAhead_20 (by decide) (fun c_3 => ?_) (fun c_3 => ?_)
          · skip
            refine lv_iload_n hx hb d_Q_zerosAhead_29 rfl (lv_at hl 0 rfl) ?_
            exact W.iret (v := nI k) hx hb hr (fun t ht hW => ⟨rfl, ht⟩) (fun q h => by cases h) d_Q_zerosAhead_30
          · skip
            exfalso
            rcases hz4 with q | q | q
            · exact c_1 (nI_le (by omega) (by omega))
            · exact c_2 (nI_le (by omega) (by omega))
            · exact q c_3
    | succ d ih =>
      intro k hk ls hl
      refine lv_iload_n hx hb d_Q_zerosAhead_2 rfl (lv_at hl 0 rfl) ?_
      refine lv_iload_n hx hb d_Q_zerosAhead_3 rfl (lv_at hl 2 rfl) ?_
      refine lv_icmp_ge (tgt := 29) hx hb d_Q_zerosAhead_4 (by decide) (fun c_4 => ?_) (fun c_4 => ?_)
      · skip
        exact absurd ((nI_leI (by omega) (by omega)).mp c_4) (by omega)
      · skip
        refine lv_iload_n hx hb d_Q_zerosAhead_7 rfl (lv_at hl 0 rfl) ?_
        refine lv_aload_n hx hb d_Q_zerosAhead_8 rfl (lv_at hl 1 rfl) ?_
        refine va_get (D := D) (ci := 0) (v := .int (nI h)) (C := R_Q) (T := T_Q) (N := 3) hx hb hg in_Q hown hK hP 0 rfl rfl 2 (by decide) (hg _ gw_45) (fun _ h9 => h9) rfl d_Q_zerosAhead_9 ?_
        refine lv_icmp_ge (tgt := 29) hx hb d_Q_zerosAhead_12 (by decide) (fun c_5 => ?_) (fun c_5 => ?_)
        · skip
          exact absurd ((nI_leI (by omega) (by omega)).mp c_5) (by omega)
        · skip
          refine lv_aload_n hx hb d_Q_zerosAhead_15 rfl (lv_at hl 1 rfl) ?_
          refine lv_iload_n hx hb d_Q_zerosAhead_16 rfl (lv_at hl 0 rfl) ?_
          have hPc := hP.sub (ws' := [(h0, .inr (0, [.ref qa, .int (nI fi), .int (nI h)])), (qa, .inl (cB, 1000, .inl f))]) [0, 1] rfl
          have hKc := hK.sub (tys' := [(cB, .byte)]) [0] rfl
          refine pci (va_runV (As := [.int (nI k)]) (rest := []) ⟨hx, hb, hml, hown, hg⟩ (c_Q_look l D h0 qa cB fi h f k hf hh (by omega)) (cwV 1 hg (gV gw_445 gw_446 gw_447 gw_3 gw_448) rfl rfl rfl (by decide +kernel) ⟨Nat.le_of_ble_eq_true rfl, Nat.le_of_ble_eq_true rfl⟩) ⟨fun a U g mk q => by obtain ⟨q0, qP, qK⟩ := q; exact ⟨q0, qP, va_K.moved (u := U) (U := U.calling g mk a) (Vm.Alike.refl U.vm) qK⟩, va_recv hKc hPc (ci := 0) (q0 := 0) rfl rfl, fun U hU hW => ⟨rfl, by rw [hU]; exact hPc, va_K.moved hW.alike hKc⟩⟩ rfl rfl hl.1 rfl (lv_room (Nat.le_of_ble_eq_true rfl)) d_Q_zerosAhead_17 (⟨Nat.le_of_ble_eq_true rfl, Nat.le_of_ble_eq_true rfl⟩)) ?_
          refine lv_if_ne (tgt := 29) hx hb d_Q_zerosAhead_20 (by decide) (fun c_6 => ?_) (fun c_6 => ?_)
          · skip
            exact absurd (hz3 k (by omega)) c_6
          · skip
            refine lv_iinc (v := nI (k + 1)) (lv' := [(2, .int (nI (k + 1))), (0, .ref h0), (1, .int (nI b0))]) hx hb d_Q_zerosAhead_23 hl (k := 0) rfl (nI_1 k) (by decide) rfl (fun ls hl => ?_)
            refine lv_goto (tgt := 2) hx hb d_Q_zerosAhead_26 (by decide) ?_
            exact ih (k + 1) (by omega) ls (lv_sub hl [0, 1, 2] rfl)
  exact loop z 0 (by omega) ls hl
set_option maxHeartbeats 4000000 in
set_option maxRecDepth 100000 in
theorem c_B_hasRoom (l : Launch) (D : va_G) (h0 ra : Nat) (cB : ClassId) (u : Nat) (f : Nat → Int32) (k : Nat) (hu : u ≤ 6000) (hk : k < 2 ^ 31) : Met l y_B_hasRoom (WSY y_B_hasRoom b_B_hasRoom 2 (some .boolean)) ({ frames := 0, cells := 0, slots := 0, locals := 0 }) (va_Pc [.ref h0, .int (nI k)] (fun U => va_P D CLS [(h0, .inr (1, [.ref ra, .int (nI u)])), (ra, .inl (cB, 6000, .inl f))] U.heap ∧ va_K D CLS [(cB, .byte)] U)) (QR (some (.int (if u + k ≤ 6000 then 1 else 0)))) 0 0 (fun _ => False) := by
  refine Met.ofW (cc := b_B_hasRoom) (maxL := 2) (ret := (some .boolean)) (by decide) rfl ?_
  intro p e s m args below meth c s₁ B hml hv
  obtain ⟨rfl, hP, hK⟩ := hv
  have hx := B.exec
  have hb := B.bytes
  have hr := B.returns
  have hts := atoms_spec (ws := WSY y_B_hasRoom b_B_hasRoom 2 (some .boolean)) B.pre
  have hg : ∀ w ∈ GW, w.before _ s = true := fun w h => hts w (List.mem_cons_of_mem _ h)
  have hown : s.vm.findClass "LineGolomb$BitRow" = some m.cls := findClass_of_methodNamed B.named
  have hlocks := B.notSynchronized
  have hS : va_S (fun _ => False) s.heap s.heap [] := va_S.rf
  have hl := lv_entry ([.ref h0, .int (nI k)]) (n := 2) (Nat.le_of_ble_eq_true rfl)
  rw [lg_entry_eq]
  generalize (lg_sl ([.ref h0, .int (nI k)]) ++ List.replicate (2 - (lg_sl ([.ref h0, .int (nI k)])).length) Slot.unset).toArray = ls at hl ⊢
  have hl : lv_has ls 2 [(0, .ref h0), (1, .int (nI k))] := hl
  refine lv_iload_n hx hb d_B_hasRoom_0 rfl (lv_at hl 1 rfl) ?_
  refine lv_aload_n hx hb d_B_hasRoom_1 rfl (lv_at hl 0 rfl) ?_
  refine va_get (D := D) (ci := 1) (v := .ref ra) (C := R_B) (T := T_B) (N := 2) hx hb hg in_B hown hK hP 0 rfl rfl 0 (by decide) (hg _ gw_28) (fun _ h9 => h9) rfl d_B_hasRoom_2 ?_
  refine va_alen (v := nI 6000) hx hb hK hP 1 0 rfl rfl rfl d_B_hasRoom_5 ?_
  refine lv_aload_n hx hb d_B_hasRoom_6 rfl (lv_at hl 0 rfl) ?_
  refine va_get (D := D) (ci := 1) (v := .int (nI u)) (C := R_B) (T := T_B) (N := 2) hx hb hg in_B hown hK hP 0 rfl rfl 1 (by decide) (hg _ gw_29) (fun _ h9 => h9) rfl d_B_hasRoom_7 ?_
  refine lv_isub hx hb d_B_hasRoom_10 ?_
  refine tpi (y := nI (6000 - u)) (pk_sub hu) ?_
  refine lv_icmp_gt (tgt := 18) hx hb d_B_hasRoom_11 (by decide) (fun c_1 => ?_) (fun c_1 => ?_)
  · skip
    have h1 : 6000 - u < k := (nI_ltI (by omega) (by omega)).mp c_1
    refine lv_iconst (v := 0) hx hb d_B_hasRoom_18 (by decide) ?_
    refine tpi (y := if u + k ≤ 6000 then 1 else 0) ((if_neg (by omega)).symm) ?_
    exact W.zret (v := if u + k ≤ 6000 then 1 else 0) hx hb hr (by rw [if_neg (by omega)]; rfl) (fun t ht hW => ⟨rfl, ht⟩) (fun q h => by cases h) d_B_hasRoom_19
  · skip
    have h1 : ¬ 6000 - u < k := fun z => c_1 ((nI_ltI (by omega) (by omega)).mpr z)
    refine lv_iconst (v := 1) hx hb d_B_hasRoom_14 (by decide) ?_
    refine lv_goto (tgt := 19) hx hb d_B_hasRoom_15 (by decide) ?_
    refine tpi (y := if u + k ≤ 6000 then 1 else 0) ((if_pos (by omega)).symm) ?_
    exact W.zret (v := if u + k ≤ 6000 then 1 else 0) hx hb hr (by rw [if_pos (by omega)]; rfl) (fun t ht hW => ⟨rfl, ht⟩) (fun q h => by cases h) d_B_hasRoom_19
set_option maxHeartbeats 4000000 in
set_option maxRecDepth 100000 in
theorem c_B_get (l : Launch) (D : va_G) (h0 ra : Nat) (cB : ClassId) (u : Nat) (f : Nat → Int32) (k : Nat) (hu : u ≤ 6000) (hk : k < u) : Met l y_B_get (WSY y_B_get b_B_get 2 (some .int)) ({ frames := 0, cells := 0, slots := 0, locals := 0 }) (va_Pc [.ref h0, .int (nI k)] (fun U => va_P D CLS [(h0, .inr (1, [.ref ra, .int (nI u)])), (ra, .inl (cB, 6000, .inl f))] U.heap ∧ va_K D CLS [(cB, .byte)] U)) (QR (some (.int (f k)))) 0 0 (fun _ => False) := by
  refine Met.ofW (cc := b_B_get) (maxL := 2) (ret := (some .int)) (by decide) rfl ?_
  intro p e s m args below meth c s₁ B hml hv
  obtain ⟨rfl, hP, hK⟩ := hv
  have hx := B.exec
  have hb := B.bytes
  have hr := B.returns
  have hts := atoms_spec (ws := WSY y_B_get b_B_get 2 (some .int)) B.pre
  have hg : ∀ w ∈ GW, w.before _ s = true := fun w h => hts w (List.mem_cons_of_mem _ h)
  have hown : s.vm.findClass "LineGolomb$BitRow" = some m.cls := findClass_of_methodNamed B.named
  have hlocks := B.notSynchronized
  have hS : va_S (fun _ => False) s.heap s.heap [] := va_S.rf
  have hl := lv_entry ([.ref h0, .int (nI k)]) (n := 2) (Nat.le_of_ble_eq_true rfl)
  rw [lg_entry_eq]
  generalize (lg_sl ([.ref h0, .int (nI k)]) ++ List.replicate (2 - (lg_sl ([.ref h0, .int (nI k)])).length) Slot.unset).toArray = ls at hl ⊢
  have hl : lv_has ls 2 [(0, .ref h0), (1, .int (nI k))] := hl
  refine lv_iload_n hx hb d_B_get_0 rfl (lv_at hl 1 rfl) ?_
  refine lv_if_lt (tgt := 12) hx hb d_B_get_1 (by decide) (fun c_1 => ?_) (fun c_1 => ?_)
  · skip
    exact absurd c_1 (nI_pos (by omega))
  · skip
    refine lv_iload_n hx hb d_B_get_4 rfl (lv_at hl 1 rfl) ?_
    refine lv_aload_n hx hb d_B_get_5 rfl (lv_at hl 0 rfl) ?_
    refine va_get (D := D) (ci := 1) (v := .int (nI u)) (C := R_B) (T := T_B) (N := 2) hx hb hg in_B hown hK hP 0 rfl rfl 1 (by decide) (hg _ gw_29) (fun _ h9 => h9) rfl d_B_get_6 ?_
    refine lv_icmp_lt (tgt := 16) hx hb d_B_get_9 (by decide) (fun c_2 => ?_) (fun c_2 => ?_)
    · skip
      refine lv_aload_n hx hb d_B_get_16 rfl (lv_at hl 0 rfl) ?_
      refine va_get (D := D) (ci := 1) (v := .ref ra) (C := R_B) (T := T_B) (N := 2) hx hb hg in_B hown hK hP 0 rfl rfl 0 (by decide) (hg _ gw_28) (fun _ h9 => h9) rfl d_B_get_17 ?_
      refine lv_iload_n hx hb d_B_get_20 rfl (lv_at hl 1 rfl) ?_
      refine va_bald hx hb hK hP 1 0 rfl rfl (vp_in_nI (by omega) (by omega)) d_B_get_21 ?_
      refine tpi (y := f k) (by rw [nI_clamp (by omega)]) ?_
      exact W.iret (v := f k) hx hb hr (fun t ht hW => ⟨rfl, ht⟩) (fun q h => by cases h) d_B_get_22
    · skip
      exact absurd (nI_lt hk (by omega)) c_2
