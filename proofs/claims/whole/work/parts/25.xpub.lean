/-! LineGolomb: public methods, where they return -/
set_option maxHeartbeats 4000000 in
set_option maxRecDepth 100000 in
theorem c_X_size (l : Launch) (D : va_G) (x sw sr br bq bi ne li sp q : Nat) (lb : Int32) (ra u tw : Nat) : Met l y_X_size (WSY y_X_size b_X_size 1 (some .int)) ({ frames := 0, cells := 0, slots := 0, locals := 0 }) (va_Pc [.ref x] (fun U => va_P D CLS [(x, .inr (4, [.int (nI bi), .int (nI ne), .int (nI li), .int (nI sp), .int (nI q), .ref sw, .ref sr, .ref br, .ref bq, .int lb])), (br, .inr (1, [.ref ra, .int (nI u)]))] U.heap ∧ va_K D CLS [] U ∧ EV (fun _ => False) tw U)) (QR (some (.int (nI u)))) 0 0 (fun _ => False) := by
  refine Met.ofW (cc := b_X_size) (maxL := 1) (ret := (some .int)) (by decide) rfl ?_
  intro p e s m args below meth c s₁ B hml hv
  obtain ⟨rfl, hP, hK, hE⟩ := hv
  have hx := B.exec
  have hb := B.bytes
  have hr := B.returns
  have hts := atoms_spec (ws := WSY y_X_size b_X_size 1 (some .int)) B.pre
  have hg : ∀ w ∈ GW, w.before _ s = true := fun w h => hts w (List.mem_cons_of_mem _ h)
  have hown : s.vm.findClass "LineGolomb" = some m.cls := findClass_of_methodNamed B.named
  have hlocks := B.notSynchronized
  have hS : va_S (fun _ => False) s.heap s.heap [] := va_S.rf
  have hl := lv_entry ([.ref x]) (n := 1) (Nat.le_of_ble_eq_true rfl)
  rw [lg_entry_eq]
  generalize (lg_sl ([.ref x]) ++ List.replicate (1 - (lg_sl ([.ref x])).length) Slot.unset).toArray = ls at hl ⊢
  have hl : lv_has ls 1 [(0, .ref x)] := hl
  refine lv_aload_n hx hb d_X_size_0 rfl (lv_at hl 0 rfl) ?_
  refine va_get (D := D) (ci := 4) (v := .ref br) (C := R_X) (T := T_X) (N := 10) hx hb hg in_X hown hK hP 0 rfl rfl 7 (by decide) (hg _ gw_123) (fun _ h9 => h9) rfl d_X_size_1 ?_
  refine va_getN (D := D) (ci := 1) (v := .int (nI u)) (C := R_B) (T := T_B) (N := 2) hx hb hg in_B hown hK hP 1 rfl rfl 1 (by decide) (va_Nw.use rfl (hE.nw nw_30)) (fun _ h9 => h9) rfl d_X_size_4 ?_
  exact W.iret (v := nI u) hx hb hr (fun t ht hW => ⟨rfl, ht⟩) (fun q h => by cases h) d_X_size_7
set_option maxHeartbeats 4000000 in
set_option maxRecDepth 100000 in
theorem c_X_wasEnded (l : Launch) (D : va_G) (x sw sr br bq bi ne li sp q : Nat) (lb : Int32) (hlb : lb = 0 ∨ lb = 1) : Met l y_X_wasEnded (WSY y_X_wasEnded b_X_wasEnded 1 (some .boolean)) ({ frames := 0, cells := 0, slots := 0, locals := 0 }) (va_Pc [.ref x] (fun U => va_P D CLS [(x, .inr (4, [.int (nI bi), .int (nI ne), .int (nI li), .int (nI sp), .int (nI q), .ref sw, .ref sr, .ref br, .ref bq, .int lb]))] U.heap ∧ va_K D CLS [] U)) (QR (some (.int lb))) 0 0 (fun _ => False) := by
  refine Met.ofW (cc := b_X_wasEnded) (maxL := 1) (ret := (some .boolean)) (by decide) rfl ?_
  intro p e s m args below meth c s₁ B hml hv
  obtain ⟨rfl, hP, hK⟩ := hv
  have hx := B.exec
  have hb := B.bytes
  have hr := B.returns
  have hts := atoms_spec (ws := WSY y_X_wasEnded b_X_wasEnded 1 (some .boolean)) B.pre
  have hg : ∀ w ∈ GW, w.before _ s = true := fun w h => hts w (List.mem_cons_of_mem _ h)
  have hown : s.vm.findClass "LineGolomb" = some m.cls := findClass_of_methodNamed B.named
  have hlocks := B.notSynchronized
  have hS : va_S (fun _ => False) s.heap s.heap [] := va_S.rf
  have hl := lv_entry ([.ref x]) (n := 1) (Nat.le_of_ble_eq_true rfl)
  rw [lg_entry_eq]
  generalize (lg_sl ([.ref x]) ++ List.replicate (1 - (lg_sl ([.ref x])).length) Slot.unset).toArray = ls at hl ⊢
  have hl : lv_has ls 1 [(0, .ref x)] := hl
  refine lv_aload_n hx hb d_X_wasEnded_0 rfl (lv_at hl 0 rfl) ?_
  refine va_get (D := D) (ci := 4) (v := .int lb) (C := R_X) (T := T_X) (N := 10) hx hb hg in_X hown hK hP 0 rfl rfl 9 (by decide) (hg _ gw_125) (fun _ h9 => h9) rfl d_X_wasEnded_1 ?_
  exact W.zret (v := lb) hx hb hr (by rcases hlb with rfl | rfl <;> rfl) (fun t ht hW => ⟨rfl, ht⟩) (fun q h => by cases h) d_X_wasEnded_4
set_option maxHeartbeats 4000000 in
set_option maxRecDepth 100000 in
theorem c_X_waiting (l : Launch) (D : va_G) (x sw sr br bq bi ne li sp q : Nat) (lb : Int32) (qa fi h tw : Nat) : Met l y_X_waiting (WSY y_X_waiting b_X_waiting 1 (some .int)) ({ frames := 0, cells := 0, slots := 0, locals := 0 }) (va_Pc [.ref x] (fun U => va_P D CLS [(x, .inr (4, [.int (nI bi), .int (nI ne), .int (nI li), .int (nI sp), .int (nI q), .ref sw, .ref sr, .ref br, .ref bq, .int lb])), (bq, .inr (0, [.ref qa, .int (nI fi), .int (nI h)]))] U.heap ∧ va_K D CLS [] U ∧ EV (fun _ => False) tw U)) (QR (some (.int (nI h)))) 0 0 (fun _ => False) := by
  refine Met.ofW (cc := b_X_waiting) (maxL := 1) (ret := (some .int)) (by decide) rfl ?_
  intro p e s m args below meth c s₁ B hml hv
  obtain ⟨rfl, hP, hK, hE⟩ := hv
  have hx := B.exec
  have hb := B.bytes
  have hr := B.returns
  have hts := atoms_spec (ws := WSY y_X_waiting b_X_waiting 1 (some .int)) B.pre
  have hg : ∀ w ∈ GW, w.before _ s = true := fun w h => hts w (List.mem_cons_of_mem _ h)
  have hown : s.vm.findClass "LineGolomb" = some m.cls := findClass_of_methodNamed B.named
  have hlocks := B.notSynchronized
  have hS : va_S (fun _ => False) s.heap s.heap [] := va_S.rf
  have hl := lv_entry ([.ref x]) (n := 1) (Nat.le_of_ble_eq_true rfl)
  rw [lg_entry_eq]
  generalize (lg_sl ([.ref x]) ++ List.replicate (1 - (lg_sl ([.ref x])).length) Slot.unset).toArray = ls at hl ⊢
  have hl : lv_has ls 1 [(0, .ref x)] := hl
  refine lv_aload_n hx hb d_X_waiting_0 rfl (lv_at hl 0 rfl) ?_
  refine va_get (D := D) (ci := 4) (v := .ref bq) (C := R_X) (T := T_X) (N := 10) hx hb hg in_X hown hK hP 0 rfl rfl 8 (by decide) (hg _ gw_124) (fun _ h9 => h9) rfl d_X_waiting_1 ?_
  refine va_getN (D := D) (ci := 0) (v := .int (nI h)) (C := R_Q) (T := T_Q) (N := 3) hx hb hg in_Q hown hK hP 1 rfl rfl 2 (by decide) (va_Nw.use rfl (hE.nw nw_46)) (fun _ h9 => h9) rfl d_X_waiting_4 ?_
  exact W.iret (v := nI h) hx hb hr (fun t ht hW => ⟨rfl, ht⟩) (fun q h => by cases h) d_X_waiting_7
set_option maxHeartbeats 4000000 in
set_option maxRecDepth 100000 in
theorem c_X_step0 (l : Launch) (D : va_G) (x sw sr br bq bi ne li sp q : Nat) (lb : Int32) (e0 e1 pl rw tw : Nat) : Met l y_X_step (WSY y_X_step b_X_step 2 (some .int)) ({ frames := 1, cells := 0, slots := 0, locals := 21 }) (va_Pc [.ref x, .int 0] (fun U => va_P D CLS [(x, .inr (4, [.int (nI bi), .int (nI ne), .int (nI li), .int (nI sp), .int (nI q), .ref sw, .ref sr, .ref br, .ref bq, .int lb])), (sw, .inr (3, [.ref e0, .ref e1, .int (nI pl), .int (nI rw)]))] U.heap ∧ va_K D CLS [] U ∧ EV (fun _ => False) tw U)) (QR (some (.int (nI pl)))) 0 0 (fun _ => False) := by
  refine Met.ofW (cc := b_X_step) (maxL := 2) (ret := (some .int)) (by decide) rfl ?_
  intro p e s m args below meth c s₁ B hml hv
  obtain ⟨rfl, hP, hK, hE⟩ := hv
  have hx := B.exec
  have hb := B.bytes
  have hr := B.returns
  have hts := atoms_spec (ws := WSY y_X_step b_X_step 2 (some .int)) B.pre
  have hg : ∀ w ∈ GW, w.before _ s = true := fun w h => hts w (List.mem_cons_of_mem _ h)
  have hown : s.vm.findClass "LineGolomb" = some m.cls := findClass_of_methodNamed B.named
  have hlocks := B.notSynchronized
  have hS : va_S (fun _ => False) s.heap s.heap [] := va_S.rf
  have hl := lv_entry ([.ref x, .int 0]) (n := 2) (Nat.le_of_ble_eq_true rfl)
  rw [lg_entry_eq]
  generalize (lg_sl ([.ref x, .int 0]) ++ List.replicate (2 - (lg_sl ([.ref x, .int 0])).length) Slot.unset).toArray = ls at hl ⊢
  have hl : lv_has ls 2 [(0, .ref x), (1, .int 0)] := hl
  refine lv_aload_n hx hb d_X_step_0 rfl (lv_at hl 0 rfl) ?_
  refine lv_iload_n hx hb d_X_step_1 rfl (lv_at hl 1 rfl) ?_
  have hPc := hP.sub (ws' := [(x, .inr (4, [.int (nI bi), .int (nI ne), .int (nI li), .int (nI sp), .int (nI q), .ref sw, .ref sr, .ref br, .ref bq, .int lb]))]) [0] rfl
  have hKc := hK.sub (tys' := []) [] rfl
  refine pcr (va_runV (As := [.int 0]) (rest := []) ⟨hx, hb, hml, hown, hg⟩ (c_X_sideOf0 l D x sw sr br bq bi ne li sp q lb) (cwV 1 hg (gV gw_163 gw_165 gs_0 gw_1 gw_166) rfl rfl rfl (by decide +kernel) ⟨Nat.le_of_ble_eq_true rfl, Nat.le_of_ble_eq_true rfl⟩) ⟨fun a U g mk q => by obtain ⟨q0, qP, qK⟩ := q; exact ⟨q0, qP, va_K.moved (u := U) (U := U.calling g mk a) (Vm.Alike.refl U.vm) qK⟩, va_recv hKc hPc (ci := 4) (q0 := 0) rfl rfl, fun U hU hW => ⟨rfl, by rw [hU]; exact hPc, va_K.moved hW.alike hKc⟩⟩ rfl rfl hl.1 rfl (lv_room (Nat.le_of_ble_eq_true rfl)) d_X_step_2 (⟨Nat.le_of_ble_eq_true rfl, Nat.le_of_ble_eq_true rfl⟩)) ?_
  refine va_getN (D := D) (ci := 3) (v := .int (nI pl)) (C := R_S) (T := T_S) (N := 4) hx hb hg in_S hown hK hP 1 rfl rfl 2 (by decide) (va_Nw.use rfl (hE.nw nw_104)) (fun _ h9 => h9) rfl d_X_step_5 ?_
  exact W.iret (v := nI pl) hx hb hr (fun t ht hW => ⟨rfl, ht⟩) (fun q h => by cases h) d_X_step_8
set_option maxHeartbeats 4000000 in
set_option maxRecDepth 100000 in
theorem c_X_step1 (l : Launch) (D : va_G) (x sw sr br bq bi ne li sp q : Nat) (lb : Int32) (e0 e1 pl rw tw : Nat) : Met l y_X_step (WSY y_X_step b_X_step 2 (some .int)) ({ frames := 1, cells := 0, slots := 0, locals := 21 }) (va_Pc [.ref x, .int 1] (fun U => va_P D CLS [(x, .inr (4, [.int (nI bi), .int (nI ne), .int (nI li), .int (nI sp), .int (nI q), .ref sw, .ref sr, .ref br, .ref bq, .int lb])), (sr, .inr (3, [.ref e0, .ref e1, .int (nI pl), .int (nI rw)]))] U.heap ∧ va_K D CLS [] U ∧ EV (fun _ => False) tw U)) (QR (some (.int (nI pl)))) 0 0 (fun _ => False) := by
  refine Met.ofW (cc := b_X_step) (maxL := 2) (ret := (some .int)) (by decide) rfl ?_
  intro p e s m args below meth c s₁ B hml hv
  obtain ⟨rfl, hP, hK, hE⟩ := hv
  have hx := B.exec
  have hb := B.bytes
  have hr := B.returns
  have hts := atoms_spec (ws := WSY y_X_step b_X_step 2 (some .int)) B.pre
  have hg : ∀ w ∈ GW, w.before _ s = true := fun w h => hts w (List.mem_cons_of_mem _ h)
  have hown : s.vm.findClass "LineGolomb" = some m.cls := findClass_of_methodNamed B.named
  have hlocks := B.notSynchronized
  have hS : va_S (fun _ => False) s.heap s.heap [] := va_S.rf
  have hl := lv_entry ([.ref x, .int 1]) (n := 2) (Nat.le_of_ble_eq_true rfl)
  rw [lg_entry_eq]
  generalize (lg_sl ([.ref x, .int 1]) ++ List.replicate (2 - (lg_sl ([.ref x, .int 1])).length) Slot.unset).toArray = ls at hl ⊢
  have hl : lv_has ls 2 [(0, .ref x), (1, .int 1)] := hl
  refine lv_aload_n hx hb d_X_step_0 rfl (lv_at hl 0 rfl) ?_
  refine lv_iload_n hx hb d_X_step_1 rfl (lv_at hl 1 rfl) ?_
  have hPc := hP.sub (ws' := [(x, .inr (4, [.int (nI bi), .int (nI ne), .int (nI li), .int (nI sp), .int (nI q), .ref sw, .ref sr, .ref br, .ref bq, .int lb]))]) [0] rfl
  have hKc := hK.sub (tys' := []) [] rfl
  refine pcr (va_runV (As := [.int 1]) (rest := []) ⟨hx, hb, hml, hown, hg⟩ (c_X_sideOf1 l D x sw sr br bq bi ne li sp q lb) (cwV 1 hg (gV gw_163 gw_165 gs_0 gw_1 gw_166) rfl rfl rfl (by decide +kernel) ⟨Nat.le_of_ble_eq_true rfl, Nat.le_of_ble_eq_true rfl⟩) ⟨fun a U g mk q => by obtain ⟨q0, qP, qK⟩ := q; exact ⟨q0, qP, va_K.moved (u := U) (U := U.calling g mk a) (Vm.Alike.refl U.vm) qK⟩, va_recv hKc hPc (ci := 4) (q0 := 0) rfl rfl, fun U hU hW => ⟨rfl, by rw [hU]; exact hPc, va_K.moved hW.alike hKc⟩⟩ rfl rfl hl.1 rfl (lv_room (Nat.le_of_ble_eq_true rfl)) d_X_step_2 (⟨Nat.le_of_ble_eq_true rfl, Nat.le_of_ble_eq_true rfl⟩)) ?_
  refine va_getN (D := D) (ci := 3) (v := .int (nI pl)) (C := R_S) (T := T_S) (N := 4) hx hb hg in_S hown hK hP 1 rfl rfl 2 (by decide) (va_Nw.use rfl (hE.nw nw_104)) (fun _ h9 => h9) rfl d_X_step_5 ?_
  exact W.iret (v := nI pl) hx hb hr (fun t ht hW => ⟨rfl, ht⟩) (fun q h => by cases h) d_X_step_8
set_option maxHeartbeats 4000000 in
set_option maxRecDepth 100000 in
theorem c_X_told (l : Launch) (D : va_G) (x sw sr br bq bi ne li sp q : Nat) (lb : Int32) (wh : Int32) : Met l y_X_told (WSY y_X_told b_X_told 2 (some .int)) ({ frames := 0, cells := 0, slots := 0, locals := 0 }) (va_Pc [.ref x, .int wh] (fun U => va_P D CLS [(x, .inr (4, [.int (nI bi), .int (nI ne), .int (nI li), .int (nI sp), .int (nI q), .ref sw, .ref sr, .ref br, .ref bq, .int lb]))] U.heap ∧ va_K D CLS [] U)) (QR (some (.int (if wh = 0 then nI bi else if wh = 1 then nI ne else if wh = 2 then nI li else if wh = 3 then nI sp else if wh = 4 then nI q else -2)))) 0 0 (fun _ => False) := by
  refine Met.ofW (cc := b_X_told) (maxL := 2) (ret := (some .int)) (by decide) rfl ?_
  intro p e s m args below meth c s₁ B hml hv
  obtain ⟨rfl, hP, hK⟩ := hv
  have hx := B.exec
  have hb := B.bytes
  have hr := B.returns
  have hts := atoms_spec (ws := WSY y_X_told b_X_told 2 (some .int)) B.pre
  have hg : ∀ w ∈ GW, w.before _ s = true := fun w h => hts w (List.mem_cons_of_mem _ h)
  have hown : s.vm.findClass "LineGolomb" = some m.cls := findClass_of_methodNamed B.named
  have hlocks := B.notSynchronized
  have hS : va_S (fun _ => False) s.heap s.heap [] := va_S.rf
  have hl := lv_entry ([.ref x, .int wh]) (n := 2) (Nat.le_of_ble_eq_true rfl)
  rw [lg_entry_eq]
  generalize (lg_sl ([.ref x, .int wh]) ++ List.replicate (2 - (lg_sl ([.ref x, .int wh])).length) Slot.unset).toArray = ls at hl ⊢
  have hl : lv_has ls 2 [(0, .ref x), (1, .int wh)] := hl
  refine lv_iload_n hx hb d_X_told_0 rfl (lv_at hl 1 rfl) ?_
  by_cases h0 : wh = 0
  · skip
    refine lv_tableIn (off := 35) (tgt := 36) hx hb d_X_told_1 (by rw [h0]; decide) (by rw [h0]; decide) (by rw [h0]; rfl) (by decide) ?_
    refine lv_aload_n hx hb d_X_told_36 rfl (lv_at hl 0 rfl) ?_
    refine va_get (D := D) (ci := 4) (v := .int (nI bi)) (C := R_X) (T := T_X) (N := 10) hx hb hg in_X hown hK hP 0 rfl rfl 0 (by decide) (hg _ gw_116) (fun _ h9 => h9) rfl d_X_told_37 ?_
    refine tpi (y := if wh = 0 then nI bi else if wh = 1 then nI ne else if wh = 2 then nI li else if wh = 3 then nI sp else if wh = 4 then nI q else -2) (by rw [if_pos h0]) ?_
    exact W.iret (v := if wh = 0 then nI bi else if wh = 1 then nI ne else if wh = 2 then nI li else if wh = 3 then nI sp else if wh = 4 then nI q else -2) hx hb hr (fun t ht hW => ⟨rfl, ht⟩) (fun q h => by cases h) d_X_told_40
  · skip
    by_cases h1 : wh = 1
    · skip
      refine lv_tableIn (off := 40) (tgt := 41) hx hb d_X_told_1 (by rw [h1]; decide) (by rw [h1]; decide) (by rw [h1]; rfl) (by decide) ?_
      refine lv_aload_n hx hb d_X_told_41 rfl (lv_at hl 0 rfl) ?_
      refine va_get (D := D) (ci := 4) (v := .int (nI ne)) (C := R_X) (T := T_X) (N := 10) hx hb hg in_X hown hK hP 0 rfl rfl 1 (by decide) (hg _ gw_117) (fun _ h9 => h9) rfl d_X_told_42 ?_
      refine tpi (y := if wh = 0 then nI bi else if wh = 1 then nI ne else if wh = 2 then nI li else if wh = 3 then nI sp else if wh = 4 then nI q else -2) (by rw [if_neg h0, if_pos h1]) ?_
      exact W.iret (v := if wh = 0 then nI bi else if wh = 1 then nI ne else if wh = 2 then nI li else if wh = 3 then nI sp else if wh = 4 then nI q else -2) hx hb hr (fun t ht hW => ⟨rfl, ht⟩) (fun q h => by cases h) d_X_told_45
    · skip
      by_cases h2 : wh = 2
      · skip
        refine lv_tableIn (off := 45) (tgt := 46) hx hb d_X_told_1 (by rw [h2]; decide) (by rw [h2]; decide) (by rw [h2]; rfl) (by decide) ?_
        refine lv_aload_n hx hb d_X_told_46 rfl (lv_at hl 0 rfl) ?_
        refine va_get (D := D) (ci := 4) (v := .int (nI li)) (C := R_X) (T := T_X) (N := 10) hx hb hg in_X hown hK hP 0 rfl rfl 2 (by decide) (hg _ gw_118) (fun _ h9 => h9) rfl d_X_told_47 ?_
        refine tpi (y := if wh = 0 then nI bi else if wh = 1 then nI ne else if wh = 2 then nI li else if wh = 3 then nI sp else if wh = 4 then nI q else -2) (by rw [if_neg h0, if_neg h1, if_pos h2]) ?_
        exact W.iret (v := if wh = 0 then nI bi else if wh = 1 then nI ne else if wh = 2 then nI li else if wh = 3 then nI sp else if wh = 4 then nI q else -2) hx hb hr (fun t ht hW => ⟨rfl, ht⟩) (fun q h => by cases h) d_X_told_50
      · skip
        by_cases h3 : wh = 3
        · skip
          refine lv_tableIn (off := 50) (tgt := 51) hx hb d_X_told_1 (by rw [h3]; decide) (by rw [h3]; decide) (by rw [h3]; rfl) (by decide) ?_
          refine lv_aload_n hx hb d_X_told_51 rfl (lv_at hl 0 rfl) ?_
          refine va_get (D := D) (ci := 4) (v := .int (nI sp)) (C := R_X) (T := T_X) (N := 10) hx hb hg in_X hown hK hP 0 rfl rfl 3 (by decide) (hg _ gw_119) (fun _ h9 => h9) rfl d_X_told_52 ?_
          refine tpi (y := if wh = 0 then nI bi else if wh = 1 then nI ne else if wh = 2 then nI li else if wh = 3 then nI sp else if wh = 4 then nI q else -2) (by rw [if_neg h0, if_neg h1, if_neg h2, if_pos h3]) ?_
          exact W.iret (v := if wh = 0 then nI bi else if wh = 1 then nI ne else if wh = 2 then nI li else if wh = 3 then nI sp else if wh = 4 then nI q else -2) hx hb hr (fun t ht hW => ⟨rfl, ht⟩) (fun q h => by cases h) d_X_told_55
        · skip
          by_cases h4 : wh = 4
          · skip
            refine lv_tableIn (off := 55) (tgt := 56) hx hb d_X_told_1 (by rw [h4]; decide) (by rw [h4]; decide) (by rw [h4]; rfl) (by decide) ?_
            refine lv_aload_n hx hb d_X_told_56 rfl (lv_at hl 0 rfl) ?_
            refine va_get (D := D) (ci := 4) (v := .int (nI q)) (C := R_X) (T := T_X) (N := 10) hx hb hg in_X hown hK hP 0 rfl rfl 4 (by decide) (hg _ gw_120) (fun _ h9 => h9) rfl d_X_told_57 ?_
            refine tpi (y := if wh = 0 then nI bi else if wh = 1 then nI ne else if wh = 2 then nI li else if wh = 3 then nI sp else if wh = 4 then nI q else -2) (by rw [if_neg h0, if_neg h1, if_neg h2, if_neg h3, if_pos h4]) ?_
            exact W.iret (v := if wh = 0 then nI bi else if wh = 1 then nI ne else if wh = 2 then nI li else if wh = 3 then nI sp else if wh = 4 then nI q else -2) hx hb hr (fun t ht hW => ⟨rfl, ht⟩) (fun q h => by cases h) d_X_told_60
          · skip
            have g0 : ¬ wh.toInt = 0 := fun z => h0 (eqT.mpr z)
            have g1 : ¬ wh.toInt = 1 := fun z => h1 (eqT.mpr z)
            have g2 : ¬ wh.toInt = 2 := fun z => h2 (eqT.mpr z)
            have g3 : ¬ wh.toInt = 3 := fun z => h3 (eqT.mpr z)
            have g4 : ¬ wh.toInt = 4 := fun z => h4 (eqT.mpr z)
            refine lv_tableOut (tgt := 61) hx hb d_X_told_1 (by omega) (by decide) ?_
            refine lv_bipush (v := (-2)) hx hb d_X_told_61 (by decide) ?_
            refine tpi (y := if wh = 0 then nI bi else if wh = 1 then nI ne else if wh = 2 then nI li else if wh = 3 then nI sp else if wh = 4 then nI q else -2) (by rw [if_neg h0, if_neg h1, if_neg h2, if_neg h3, if_neg h4]) ?_
            exact W.iret (v := if wh = 0 then nI bi else if wh = 1 then nI ne else if wh = 2 then nI li else if wh = 3 then nI sp else if wh = 4 then nI q else -2) hx hb hr (fun t ht hW => ⟨rfl, ht⟩) (fun q h => by cases h) d_X_told_63
set_option maxHeartbeats 4000000 in
set_option maxRecDepth 100000 in
theorem c_X_clear (l : Launch) (D : va_G) (x sw sr br bq bi ne li sp q : Nat) (lb : Int32) (a0 a1 a2 a3 pw ww pr wr fs s0 c0 n0 s1 c1 n1 s2 c2 n2 s3 c3 n3 ra u qa : Nat) (cB : ClassId) (fi h : Nat) (g : Nat → Int32) (tw : Nat) (hf : fi < 1000) (hh : h ≤ 1000) : Met l y_X_clear (WSY y_X_clear b_X_clear 1 none) ({ frames := 2, cells := 0, slots := 0, locals := 46 }) (va_Pc [.ref x] (fun U => va_P D CLS [(x, .inr (4, [.int (nI bi), .int (nI ne), .int (nI li), .int (nI sp), .int (nI q), .ref sw, .ref sr, .ref br, .ref bq, .int lb])), (sw, .inr (3, [.ref a0, .ref a1, .int (nI pw), .int (nI ww)])), (sr, .inr (3, [.ref a2, .ref a3, .int (nI pr), .int (nI wr)])), (a0, .inr (2, [.int 0, .int (nI fs), .int (nI s0), .int (nI c0), .int (nI n0)])), (a1, .inr (2, [.int 1, .int (nI fs), .int (nI s1), .int (nI c1), .int (nI n1)])), (a2, .inr (2, [.int 0, .int (nI fs), .int (nI s2), .int (nI c2), .int (nI n2)])), (a3, .inr (2, [.int 1, .int (nI fs), .int (nI s3), .int (nI c3), .int (nI n3)])), (br, .inr (1, [.ref ra, .int (nI u)])), (bq, .inr (0, [.ref qa, .int (nI fi), .int (nI h)])), (qa, .inl (cB, 1000, .inl g))] U.heap ∧ va_K D CLS [(cB, .byte)] U ∧ va_D (fun _ => True) [(x, .inr (4, [.int (nI bi), .int (nI ne), .int (nI li), .int (nI sp), .int (nI q), .ref sw, .ref sr, .ref br, .ref bq, .int lb])), (sw, .inr (3, [.ref a0, .ref a1, .int (nI pw), .int (nI ww)])), (sr, .inr (3, [.ref a2, .ref a3, .int (nI pr), .int (nI wr)])), (a0, .inr (2, [.int 0, .int (nI fs), .int (nI s0), .int (nI c0), .int (nI n0)])), (a1, .inr (2, [.int 1, .int (nI fs), .int (nI s1), .int (nI c1), .int (nI n1)])), (a2, .inr (2, [.int 0, .int (nI fs), .int (nI s2), .int (nI c2), .int (nI n2)])), (a3, .inr (2, [.int 1, .int (nI fs), .int (nI s3), .int (nI c3), .int (nI n3)])), (br, .inr (1, [.ref ra, .int (nI u)])), (bq, .inr (0, [.ref qa, .int (nI fi), .int (nI h)])), (qa, .inl (cB, 1000, .inl g))] ∧ EV (ad [(x, .inr (4, [.int (nI bi), .int (nI ne), .int (nI li), .int (nI sp), .int (nI q), .ref sw, .ref sr, .ref br, .ref bq, .int lb])), (sw, .inr (3, [.ref a0, .ref a1, .int (nI pw), .int (nI ww)])), (sr, .inr (3, [.ref a2, .ref a3, .int (nI pr), .int (nI wr)])), (a0, .inr (2, [.int 0, .int (nI fs), .int (nI s0), .int (nI c0), .int (nI n0)])), (a1, .inr (2, [.int 1, .int (nI fs), .int (nI s1), .int (nI c1), .int (nI n1)])), (a2, .inr (2, [.int 0, .int (nI fs), .int (nI s2), .int (nI c2), .int (nI n2)])), (a3, .inr (2, [.int 1, .int (nI fs), .int (nI s3), .int (nI c3), .int (nI n3)])), (br, .inr (1, [.ref ra, .int (nI u)])), (bq, .inr (0, [.ref qa, .int (nI fi), .int (nI h)])), (qa, .inl (cB, 1000, .inl g))]) tw U)) (QM none [(x, .inr (4, [.int (nI bi), .int (nI ne), .int (nI li), .int (nI sp), .int (nI q), .ref sw, .ref sr, .ref br, .ref bq, .int lb])), (sw, .inr (3, [.ref a0, .ref a1, .int (nI pw), .int (nI ww)])), (sr, .inr (3, [.ref a2, .ref a3, .int (nI pr), .int (nI wr)])), (a0, .inr (2, [.int 0, .int (nI fs), .int (nI s0), .int (nI c0), .int (nI n0)])), (a1, .inr (2, [.int 1, .int (nI fs), .int (nI s1), .int (nI c1), .int (nI n1)])), (a2, .inr (2, [.int 0, .int (nI fs), .int (nI s2), .int (nI c2), .int (nI n2)])), (a3, .inr (2, [.int 1, .int (nI fs), .int (nI s3), .int (nI c3), .int (nI n3)])), (br, .inr (1, [.ref ra, .int (nI u)])), (bq, .inr (0, [.ref qa, .int (nI fi), .int (nI h)])), (qa, .inl (cB, 1000, .inl g))] [(x, .inr (4, [.int (nI bi), .int (nI ne), .int (nI li), .int (nI sp), .int (nI q), .ref sw, .ref sr, .ref br, .ref bq, .int 0])), (sw, .inr (3, [.ref a0, .ref a1, .int (nI 0), .int (nI 0)])), (sr, .inr (3, [.ref a2, .ref a3, .int (nI 0), .int (nI 0)])), (a0, .inr (2, [.int 0, .int (nI fs), .int (nI fs), .int (nI 1), .int (nI 0)])), (a1, .inr (2, [.int 1, .int (nI fs), .int (nI fs), .int (nI 1), .int (nI 0)])), (a2, .inr (2, [.int 0, .int (nI fs), .int (nI fs), .int (nI 1), .int (nI 0)])), (a3, .inr (2, [.int 1, .int (nI fs), .int (nI fs), .int (nI 1), .int (nI 0)])), (br, .inr (1, [.ref ra, .int (nI 0)])), (bq, .inr (0, [.ref qa, .int (nI (rpl fi h)), .int (nI 0)])), (qa, .inl (cB, 1000, .inl g))] D) 0 0 (ad [(x, .inr (4, [.int (nI bi), .int (nI ne), .int (nI li), .int (nI sp), .int (nI q), .ref sw, .ref sr, .ref br, .ref bq, .int lb])), (sw, .inr (3, [.ref a0, .ref a1, .int (nI pw), .int (nI ww)])), (sr, .inr (3, [.ref a2, .ref a3, .int (nI pr), .int (nI wr)])), (a0, .inr (2, [.int 0, .int (nI fs), .int (nI s0), .int (nI c0), .int (nI n0)])), (a1, .inr (2, [.int 1, .int (nI fs), .int (nI s1), .int (nI c1), .int (nI n1)])), (a2, .inr (2, [.int 0, .int (nI fs), .int (nI s2), .int (nI c2), .int (nI n2)])), (a3, .inr (2, [.int 1, .int (nI fs), .int (nI s3), .int (nI c3), .int (nI n3)])), (br, .inr (1, [.ref ra, .int (nI u)])), (bq, .inr (0, [.ref qa, .int (nI fi), .int (nI h)])), (qa, .inl (cB, 1000, .inl g))]) := by
  refine Met.ofW (cc := b_X_clear) (maxL := 1) (ret := none) (by decide) rfl ?_
  intro p e s m args below meth c s₁ B hml hv
  obtain ⟨rfl, hP, hK, hD0, hE⟩ := hv
  have hx := B.exec
  have hb := B.bytes
  have hr := B.returns
  have hts := atoms_spec (ws := WSY y_X_clear b_X_clear 1 none) B.pre
  have hg : ∀ w ∈ GW, w.before _ s = true := fun w h => hts w (List.mem_cons_of_mem _ h)
  have hown : s.vm.findClass "LineGolomb" = some m.cls := findClass_of_methodNamed B.named
  have hlocks := B.notSynchronized
  obtain ⟨A, hAe⟩ : ∃ A, A = ad [(x, .inr (4, [.int (nI bi), .int (nI ne), .int (nI li), .int (nI sp), .int (nI q), .ref sw, .ref sr, .ref br, .ref bq, .int lb])), (sw, .inr (3, [.ref a0, .ref a1, .int (nI pw), .int (nI ww)])), (sr, .inr (3, [.ref a2, .ref a3, .int (nI pr), .int (nI wr)])), (a0, .inr (2, [.int 0, .int (nI fs), .int (nI s0), .int (nI c0), .int (nI n0)])), (a1, .inr (2, [.int 1, .int (nI fs), .int (nI s1), .int (nI c1), .int (nI n1)])), (a2, .inr (2, [.int 0, .int (nI fs), .int (nI s2), .int (nI c2), .int (nI n2)])), (a3, .inr (2, [.int 1, .int (nI fs), .int (nI s3), .int (nI c3), .int (nI n3)])), (br, .inr (1, [.ref ra, .int (nI u)])), (bq, .inr (0, [.ref qa, .int (nI fi), .int (nI h)])), (qa, .inl (cB, 1000, .inl g))] := ⟨_, rfl⟩
  have hD : va_D A [(x, .inr (4, [.int (nI bi), .int (nI ne), .int (nI li), .int (nI sp), .int (nI q), .ref sw, .ref sr, .ref br, .ref bq, .int lb])), (sw, .inr (3, [.ref a0, .ref a1, .int (nI pw), .int (nI ww)])), (sr, .inr (3, [.ref a2, .ref a3, .int (nI pr), .int (nI wr)])), (a0, .inr (2, [.int 0, .int (nI fs), .int (nI s0), .int (nI c0), .int (nI n0)])), (a1, .inr (2, [.int 1, .int (nI fs), .int (nI s1), .int (nI c1), .int (nI n1)])), (a2, .inr (2, [.int 0, .int (nI fs), .int (nI s2), .int (nI c2), .int (nI n2)])), (a3, .inr (2, [.int 1, .int (nI fs), .int (nI s3), .int (nI c3), .int (nI n3)])), (br, .inr (1, [.ref ra, .int (nI u)])), (bq, .inr (0, [.ref qa, .int (nI fi), .int (nI h)])), (qa, .inl (cB, 1000, .inl g))] := by rw [hAe]; exact va_D_ad hD0
  have hS : va_S A s.heap s.heap [] := va_S.rf
  rw [← hAe] at hE
  have hl := lv_entry ([.ref x]) (n := 1) (Nat.le_of_ble_eq_true rfl)
  rw [lg_entry_eq]
  generalize (lg_sl ([.ref x]) ++ List.replicate (1 - (lg_sl ([.ref x])).length) Slot.unset).toArray = ls at hl ⊢
  have hl : lv_has ls 1 [(0, .ref x)] := hl
  refine lv_aload_n hx hb d_X_clear_0 rfl (lv_at hl 0 rfl) ?_
  refine va_get (D := D) (ci := 4) (v := .ref br) (C := R_X) (T := T_X) (N := 10) hx hb hg in_X hown hK hP 0 rfl rfl 7 (by decide) (hg _ gw_123) (fun _ h9 => h9) rfl d_X_clear_1 ?_
  refine lv_iconst (v := 0) hx hb d_X_clear_4 (by decide) ?_
  refine tpi (y := nI 0) (rfl) ?_
  refine va_putN (D := D) (ci := 1) (v := .int (nI 0)) (ty := .int) (C := R_B) (T := T_B) (N := 2) hx hb hg in_B ty_B tok_B nm_B hown hK hP hD hS 7 rfl rfl 1 (by decide) (va_Nw.use rfl (hE.nw nw_30)) (fun _ h9 => h9) rfl (by decide +kernel) (rfl) (rfl) (Nat.le_of_ble_eq_true rfl) d_X_clear_5 (fun H locs hP hD hS => ?_)
  have hP : va_P D CLS [(x, .inr (4, [.int (nI bi), .int (nI ne), .int (nI li), .int (nI sp), .int (nI q), .ref sw, .ref sr, .ref br, .ref bq, .int lb])), (sw, .inr (3, [.ref a0, .ref a1, .int (nI pw), .int (nI ww)])), (sr, .inr (3, [.ref a2, .ref a3, .int (nI pr), .int (nI wr)])), (a0, .inr (2, [.int 0, .int (nI fs), .int (nI s0), .int (nI c0), .int (nI n0)])), (a1, .inr (2, [.int 1, .int (nI fs), .int (nI s1), .int (nI c1), .int (nI n1)])), (a2, .inr (2, [.int 0, .int (nI fs), .int (nI s2), .int (nI c2), .int (nI n2)])), (a3, .inr (2, [.int 1, .int (nI fs), .int (nI s3), .int (nI c3), .int (nI n3)])), (br, .inr (1, [.ref ra, .int (nI 0)])), (bq, .inr (0, [.ref qa, .int (nI fi), .int (nI h)])), (qa, .inl (cB, 1000, .inl g))] H := hP
  have hD : va_D A [(x, .inr (4, [.int (nI bi), .int (nI ne), .int (nI li), .int (nI sp), .int (nI q), .ref sw, .ref sr, .ref br, .ref bq, .int lb])), (sw, .inr (3, [.ref a0, .ref a1, .int (nI pw), .int (nI ww)])), (sr, .inr (3, [.ref a2, .ref a3, .int (nI pr), .int (nI wr)])), (a0, .inr (2, [.int 0, .int (nI fs), .int (nI s0), .int (nI c0), .int (nI n0)])), (a1, .inr (2, [.int 1, .int (nI fs), .int (nI s1), .int (nI c1), .int (nI n1)])), (a2, .inr (2, [.int 0, .int (nI fs), .int (nI s2), .int (nI c2), .int (nI n2)])), (a3, .inr (2, [.int 1, .int (nI fs), .int (nI s3), .int (nI c3), .int (nI n3)])), (br, .inr (1, [.ref ra, .int (nI 0)])), (bq, .inr (0, [.ref qa, .int (nI fi), .int (nI h)])), (qa, .inl (cB, 1000, .inl g))] := hD
  refine lv_aload_n hx hb d_X_clear_8 rfl (lv_at hl 0 rfl) ?_
  refine va_get (D := D) (ci := 4) (v := .ref bq) (C := R_X) (T := T_X) (N := 10) hx hb hg in_X hown hK hP 0 rfl rfl 8 (by decide) (hg _ gw_124) (fun _ h9 => h9) rfl d_X_clear_9 ?_
  refine lv_aload_n hx hb d_X_clear_12 rfl (lv_at hl 0 rfl) ?_
  refine va_get (D := D) (ci := 4) (v := .ref bq) (C := R_X) (T := T_X) (N := 10) hx hb hg in_X hown hK hP 0 rfl rfl 8 (by decide) (hg _ gw_124) (fun _ h9 => h9) rfl d_X_clear_13 ?_
  refine va_getN (D := D) (ci := 0) (v := .int (nI h)) (C := R_Q) (T := T_Q) (N := 3) hx hb hg in_Q hown hK hP 8 rfl rfl 2 (by decide) (va_Nw.use rfl (hE.nw nw_46)) (fun _ h9 => h9) rfl d_X_clear_16 ?_
  have hPc := hP.sub (ws' := [(bq, .inr (0, [.ref qa, .int (nI fi), .int (nI h)])), (qa, .inl (cB, 1000, .inl g))]) [8, 9] rfl
  have hDc := hD.sub (ws' := [(bq, .inr (0, [.ref qa, .int (nI fi), .int (nI h)])), (qa, .inl (cB, 1000, .inl g))]) [8, 9] (by decide) rfl
  have hKc := hK.sub (tys' := [(cB, .byte)]) [0] rfl
  refine mcv (va_runV (As := [.int (nI h)]) (rest := []) ⟨hx, hb, hml, hown, hg⟩ (c_Q_drop l D bq qa cB fi h g h hf hh (Nat.le_refl _)) (cwV 1 hg (gV gw_175 gw_176 gw_177 gw_3 gw_178) rfl rfl rfl (by decide +kernel) ⟨Nat.le_of_ble_eq_true rfl, Nat.le_of_ble_eq_true rfl⟩) ⟨fun a U g mk q => by obtain ⟨q0, qP, qK, qD⟩ := q; exact ⟨q0, qP, va_K.moved (u := U) (U := U.calling g mk a) (Vm.Alike.refl U.vm) qK, qD⟩, va_recv hKc hPc (ci := 0) (q0 := 0) rfl rfl, fun U hU hW => ⟨rfl, by rw [hU]; exact hPc, va_K.moved hW.alike hKc, hDc.weaken (fun _ _ _ _ => trivial)⟩⟩ rfl rfl hl.1 rfl (lv_room (Nat.le_of_ble_eq_true rfl)) d_X_clear_19 (⟨Nat.le_of_ble_eq_true rfl, Nat.le_of_ble_eq_true rfl⟩)) hS hP hD [8, 9] rfl rfl rfl (fun H locs hP hD hS => ?_)
  have hP : va_P D CLS [(x, .inr (4, [.int (nI bi), .int (nI ne), .int (nI li), .int (nI sp), .int (nI q), .ref sw, .ref sr, .ref br, .ref bq, .int lb])), (sw, .inr (3, [.ref a0, .ref a1, .int (nI pw), .int (nI ww)])), (sr, .inr (3, [.ref a2, .ref a3, .int (nI pr), .int (nI wr)])), (a0, .inr (2, [.int 0, .int (nI fs), .int (nI s0), .int (nI c0), .int (nI n0)])), (a1, .inr (2, [.int 1, .int (nI fs), .int (nI s1), .int (nI c1), .int (nI n1)])), (a2, .inr (2, [.int 0, .int (nI fs), .int (nI s2), .int (nI c2), .int (nI n2)])), (a3, .inr (2, [.int 1, .int (nI fs), .int (nI s3), .int (nI c3), .int (nI n3)])), (br, .inr (1, [.ref ra, .int (nI 0)])), (bq, .inr (0, [.ref qa, .int (nI (rpl fi h)), .int (nI (h - h))])), (qa, .inl (cB, 1000, .inl g))] H := hP
  have hD : va_D A [(x, .inr (4, [.int (nI bi), .int (nI ne), .int (nI li), .int (nI sp), .int (nI q), .ref sw, .ref sr, .ref br, .ref bq, .int lb])), (sw, .inr (3, [.ref a0, .ref a1, .int (nI pw), .int (nI ww)])), (sr, .inr (3, [.ref a2, .ref a3, .int (nI pr), .int (nI wr)])), (a0, .inr (2, [.int 0, .int (nI fs), .int (nI s0), .int (nI c0), .int (nI n0)])), (a1, .inr (2, [.int 1, .int (nI fs), .int (nI s1), .int (nI c1), .int (nI n1)])), (a2, .inr (2, [.int 0, .int (nI fs), .int (nI s2), .int (nI c2), .int (nI n2)])), (a3, .inr (2, [.int 1, .int (nI fs), .int (nI s3), .int (nI c3), .int (nI n3)])), (br, .inr (1, [.ref ra, .int (nI 0)])), (bq, .inr (0, [.ref qa, .int (nI (rpl fi h)), .int (nI (h - h))])), (qa, .inl (cB, 1000, .inl g))] := hD
  rw [Nat.sub_self] at hP hD
  have hP : va_P D CLS [(x, .inr (4, [.int (nI bi), .int (nI ne), .int (nI li), .int (nI sp), .int (nI q), .ref sw, .ref sr, .ref br, .ref bq, .int lb])), (sw, .inr (3, [.ref a0, .ref a1, .int (nI pw), .int (nI ww)])), (sr, .inr (3, [.ref a2, .ref a3, .int (nI pr), .int (nI wr)])), (a0, .inr (2, [.int 0, .int (nI fs), .int (nI s0), .int (nI c0), .int (nI n0)])), (a1, .inr (2, [.int 1, .int (nI fs), .int (nI s1), .int (nI c1), .int (nI n1)])), (a2, .inr (2, [.int 0, .int (nI fs), .int (nI s2), .int (nI c2), .int (nI n2)])), (a3, .inr (2, [.int 1, .int (nI fs), .int (nI s3), .int (nI c3), .int (nI n3)])), (br, .inr (1, [.ref ra, .int (nI 0)])), (bq, .inr (0, [.ref qa, .int (nI (rpl fi h)), .int (nI 0)])), (qa, .inl (cB, 1000, .inl g))] H := hP
  have hD : va_D A [(x, .inr (4, [.int (nI bi), .int (nI ne), .int (nI li), .int (nI sp), .int (nI q), .ref sw, .ref sr, .ref br, .ref bq, .int lb])), (sw, .inr (3, [.ref a0, .ref a1, .int (nI pw), .int (nI ww)])), (sr, .inr (3, [.ref a2, .ref a3, .int (nI pr), .int (nI wr)])), (a0, .inr (2, [.int 0, .int (nI fs), .int (nI s0), .int (nI c0), .int (nI n0)])), (a1, .inr (2, [.int 1, .int (nI fs), .int (nI s1), .int (nI c1), .int (nI n1)])), (a2, .inr (2, [.int 0, .int (nI fs), .int (nI s2), .int (nI c2), .int (nI n2)])), (a3, .inr (2, [.int 1, .int (nI fs), .int (nI s3), .int (nI c3), .int (nI n3)])), (br, .inr (1, [.ref ra, .int (nI 0)])), (bq, .inr (0, [.ref qa, .int (nI (rpl fi h)), .int (nI 0)])), (qa, .inl (cB, 1000, .inl g))] := hD
  refine lv_aload_n hx hb d_X_clear_22 rfl (lv_at hl 0 rfl) ?_
  refine va_get (D := D) (ci := 4) (v := .ref sw) (C := R_X) (T := T_X) (N := 10) hx hb hg in_X hown hK hP 0 rfl rfl 5 (by decide) (hg _ gw_121) (fun _ h9 => h9) rfl d_X_clear_23 ?_
  have hPc := hP.sub (ws' := [(sw, .inr (3, [.ref a0, .ref a1, .int (nI pw), .int (nI ww)])), (a0, .inr (2, [.int 0, .int (nI fs), .int (nI s0), .int (nI c0), .int (nI n0)])), (a1, .inr (2, [.int 1, .int (nI fs), .int (nI s1), .int (nI c1), .int (nI n1)]))]) [1, 3, 4] rfl
  have hDc := hD.sub (ws' := [(sw, .inr (3, [.ref a0, .ref a1, .int (nI pw), .int (nI ww)])), (a0, .inr (2, [.int 0, .int (nI fs), .int (nI s0), .int (nI c0), .int (nI n0)])), (a1, .inr (2, [.int 1, .int (nI fs), .int (nI s1), .int (nI c1), .int (nI n1)]))]) [1, 3, 4] (by decide) rfl
  have hKc := hK.sub (tys' := []) [] rfl
  refine mcv (va_runV (As := []) (rest := []) ⟨hx, hb, hml, hown, hg⟩ (c_S_restart l D sw a0 a1 pw ww fs s0 c0 n0 s1 c1 n1) (cwV 0 hg (gV gw_184 gw_185 gw_186 gw_5 gw_187) rfl rfl rfl (by decide +kernel) ⟨Nat.le_of_ble_eq_true rfl, Nat.le_of_ble_eq_true rfl⟩) ⟨fun a U g mk q => by obtain ⟨q0, qP, qK, qD⟩ := q; exact ⟨q0, qP, va_K.moved (u := U) (U := U.calling g mk a) (Vm.Alike.refl U.vm) qK, qD⟩, va_recv hKc hPc (ci := 3) (q0 := 0) rfl rfl, fun U hU hW => ⟨rfl, by rw [hU]; exact hPc, va_K.moved hW.alike hKc, hDc.weaken (fun _ _ _ _ => trivial)⟩⟩ rfl rfl hl.1 rfl (lv_room (Nat.le_of_ble_eq_true rfl)) d_X_clear_26 (⟨Nat.le_of_ble_eq_true rfl, Nat.le_of_ble_eq_true rfl⟩)) hS hP hD [1, 3, 4] rfl rfl rfl (fun H locs hP hD hS => ?_)
  have hP : va_P D CLS [(x, .inr (4, [.int (nI bi), .int (nI ne), .int (nI li), .int (nI sp), .int (nI q), .ref sw, .ref sr, .ref br, .ref bq, .int lb])), (sw, .inr (3, [.ref a0, .ref a1, .int (nI 0), .int (nI 0)])), (sr, .inr (3, [.ref a2, .ref a3, .int (nI pr), .int (nI wr)])), (a0, .inr (2, [.int 0, .int (nI fs), .int (nI fs), .int (nI 1), .int (nI 0)])), (a1, .inr (2, [.int 1, .int (nI fs), .int (nI fs), .int (nI 1), .int (nI 0)])), (a2, .inr (2, [.int 0, .int (nI fs), .int (nI s2), .int (nI c2), .int (nI n2)])), (a3, .inr (2, [.int 1, .int (nI fs), .int (nI s3), .int (nI c3), .int (nI n3)])), (br, .inr (1, [.ref ra, .int (nI 0)])), (bq, .inr (0, [.ref qa, .int (nI (rpl fi h)), .int (nI 0)])), (qa, .inl (cB, 1000, .inl g))] H := hP
  have hD : va_D A [(x, .inr (4, [.int (nI bi), .int (nI ne), .int (nI li), .int (nI sp), .int (nI q), .ref sw, .ref sr, .ref br, .ref bq, .int lb])), (sw, .inr (3, [.ref a0, .ref a1, .int (nI 0), .int (nI 0)])), (sr, .inr (3, [.ref a2, .ref a3, .int (nI pr), .int (nI wr)])), (a0, .inr (2, [.int 0, .int (nI fs), .int (nI fs), .int (nI 1), .int (nI 0)])), (a1, .inr (2, [.int 1, .int (nI fs), .int (nI fs), .int (nI 1), .int (nI 0)])), (a2, .inr (2, [.int 0, .int (nI fs), .int (nI s2), .int (nI c2), .int (nI n2)])), (a3, .inr (2, [.int 1, .int (nI fs), .int (nI s3), .int (nI c3), .int (nI n3)])), (br, .inr (1, [.ref ra, .int (nI 0)])), (bq, .inr (0, [.ref qa, .int (nI (rpl fi h)), .int (nI 0)])), (qa, .inl (cB, 1000, .inl g))] := hD
  refine lv_aload_n hx hb d_X_clear_29 rfl (lv_at hl 0 rfl) ?_
  refine va_get (D := D) (ci := 4) (v := .ref sr) (C := R_X) (T := T_X) (N := 10) hx hb hg in_X hown hK hP 0 rfl rfl 6 (by decide) (hg _ gw_122) (fun _ h9 => h9) rfl d_X_clear_30 ?_
  have hPc := hP.sub (ws' := [(sr, .inr (3, [.ref a2, .ref a3, .int (nI pr), .int (nI wr)])), (a2, .inr (2, [.int 0, .int (nI fs), .int (nI s2), .int (nI c2), .int (nI n2)])), (a3, .inr (2, [.int 1, .int (nI fs), .int (nI s3), .int (nI c3), .int (nI n3)]))]) [2, 5, 6] rfl
  have hDc := hD.sub (ws' := [(sr, .inr (3, [.ref a2, .ref a3, .int (nI pr), .int (nI wr)])), (a2, .inr (2, [.int 0, .int (nI fs), .int (nI s2), .int (nI c2), .int (nI n2)])), (a3, .inr (2, [.int 1, .int (nI fs), .int (nI s3), .int (nI c3), .int (nI n3)]))]) [2, 5, 6] (by decide) rfl
  have hKc := hK.sub (tys' := []) [] rfl
  refine mcv (va_runV (As := []) (rest := []) ⟨hx, hb, hml, hown, hg⟩ (c_S_restart l D sr a2 a3 pr wr fs s2 c2 n2 s3 c3 n3) (cwV 0 hg (gV gw_184 gw_185 gw_186 gw_5 gw_187) rfl rfl rfl (by decide +kernel) ⟨Nat.le_of_ble_eq_true rfl, Nat.le_of_ble_eq_true rfl⟩) ⟨fun a U g mk q => by obtain ⟨q0, qP, qK, qD⟩ := q; exact ⟨q0, qP, va_K.moved (u := U) (U := U.calling g mk a) (Vm.Alike.refl U.vm) qK, qD⟩, va_recv hKc hPc (ci := 3) (q0 := 0) rfl rfl, fun U hU hW => ⟨rfl, by rw [hU]; exact hPc, va_K.moved hW.alike hKc, hDc.weaken (fun _ _ _ _ => trivial)⟩⟩ rfl rfl hl.1 rfl (lv_room (Nat.le_of_ble_eq_true rfl)) d_X_clear_33 (⟨Nat.le_of_ble_eq_true rfl, Nat.le_of_ble_eq_true rfl⟩)) hS hP hD [2, 5, 6] rfl rfl rfl (fun H locs hP hD hS => ?_)
  have hP : va_P D CLS [(x, .inr (4, [.int (nI bi), .int (nI ne), .int (nI li), .int (nI sp), .int (nI q), .ref sw, .ref sr, .ref br, .ref bq, .int lb])), (sw, .inr (3, [.ref a0, .ref a1, .int (nI 0), .int (nI 0)])), (sr, .inr (3, [.ref a2, .ref a3, .int (nI 0), .int (nI 0)])), (a0, .inr (2, [.int 0, .int (nI fs), .int (nI fs), .int (nI 1), .int (nI 0)])), (a1, .inr (2, [.int 1, .int (nI fs), .int (nI fs), .int (nI 1), .int (nI 0)])), (a2, .inr (2, [.int 0, .int (nI fs), .int (nI fs), .int (nI 1), .int (nI 0)])), (a3, .inr (2, [.int 1, .int (nI fs), .int (nI fs), .int (nI 1), .int (nI 0)])), (br, .inr (1, [.ref ra, .int (nI 0)])), (bq, .inr (0, [.ref qa, .int (nI (rpl fi h)), .int (nI 0)])), (qa, .inl (cB, 1000, .inl g))] H := hP
  have hD : va_D A [(x, .inr (4, [.int (nI bi), .int (nI ne), .int (nI li), .int (nI sp), .int (nI q), .ref sw, .ref sr, .ref br, .ref bq, .int lb])), (sw, .inr (3, [.ref a0, .ref a1, .int (nI 0), .int (nI 0)])), (sr, .inr (3, [.ref a2, .ref a3, .int (nI 0), .int (nI 0)])), (a0, .inr (2, [.int 0, .int (nI fs), .int (nI fs), .int (nI 1), .int (nI 0)])), (a1, .inr (2, [.int 1, .int (nI fs), .int (nI fs), .int (nI 1), .int (nI 0)])), (a2, .inr (2, [.int 0, .int (nI fs), .int (nI fs), .int (nI 1), .int (nI 0)])), (a3, .inr (2, [.int 1, .int (nI fs), .int (nI fs), .int (nI 1), .int (nI 0)])), (br, .inr (1, [.ref ra, .int (nI 0)])), (bq, .inr (0, [.ref qa, .int (nI (rpl fi h)), .int (nI 0)])), (qa, .inl (cB, 1000, .inl g))] := hD
  refine lv_aload_n hx hb d_X_clear_36 rfl (lv_at hl 0 rfl) ?_
  refine lv_iconst (v := 0) hx hb d_X_clear_37 (by decide) ?_
  refine va_put (D := D) (ci := 4) (v := .int 0) (ty := .boolean) (C := R_X) (T := T_X) (N := 10) hx hb hg in_X ty_X tok_X nm_X hown hK hP hD hS 0 rfl rfl 9 (by decide) (hg _ gw_125) (fun _ h9 => h9) rfl (by decide +kernel) (rfl) (rfl) (Nat.le_of_ble_eq_true rfl) d_X_clear_38 (fun H locs hP hD hS => ?_)
  have hP : va_P D CLS [(x, .inr (4, [.int (nI bi), .int (nI ne), .int (nI li), .int (nI sp), .int (nI q), .ref sw, .ref sr, .ref br, .ref bq, .int 0])), (sw, .inr (3, [.ref a0, .ref a1, .int (nI 0), .int (nI 0)])), (sr, .inr (3, [.ref a2, .ref a3, .int (nI 0), .int (nI 0)])), (a0, .inr (2, [.int 0, .int (nI fs), .int (nI fs), .int (nI 1), .int (nI 0)])), (a1, .inr (2, [.int 1, .int (nI fs), .int (nI fs), .int (nI 1), .int (nI 0)])), (a2, .inr (2, [.int 0, .int (nI fs), .int (nI fs), .int (nI 1), .int (nI 0)])), (a3, .inr (2, [.int 1, .int (nI fs), .int (nI fs), .int (nI 1), .int (nI 0)])), (br, .inr (1, [.ref ra, .int (nI 0)])), (bq, .inr (0, [.ref qa, .int (nI (rpl fi h)), .int (nI 0)])), (qa, .inl (cB, 1000, .inl g))] H := hP
  have hD : va_D A [(x, .inr (4, [.int (nI bi), .int (nI ne), .int (nI li), .int (nI sp), .int (nI q), .ref sw, .ref sr, .ref br, .ref bq, .int 0])), (sw, .inr (3, [.ref a0, .ref a1, .int (nI 0), .int (nI 0)])), (sr, .inr (3, [.ref a2, .ref a3, .int (nI 0), .int (nI 0)])), (a0, .inr (2, [.int 0, .int (nI fs), .int (nI fs), .int (nI 1), .int (nI 0)])), (a1, .inr (2, [.int 1, .int (nI fs), .int (nI fs), .int (nI 1), .int (nI 0)])), (a2, .inr (2, [.int 0, .int (nI fs), .int (nI fs), .int (nI 1), .int (nI 0)])), (a3, .inr (2, [.int 1, .int (nI fs), .int (nI fs), .int (nI 1), .int (nI 0)])), (br, .inr (1, [.ref ra, .int (nI 0)])), (bq, .inr (0, [.ref qa, .int (nI (rpl fi h)), .int (nI 0)])), (qa, .inl (cB, 1000, .inl g))] := hD
  exact W.vret hx hb hr (fun t ht hW => ⟨rfl, by rw [ht]; exact hP, (hAe ▸ hS).F ht⟩) (hAe ▸ hS).2.2 d_X_clear_41
set_option maxHeartbeats 4000000 in
set_option maxRecDepth 100000 in
theorem c_X_bitAt (l : Launch) (D : va_G) (x sw sr br bq bi ne li sp q : Nat) (lb : Int32) (ra : Nat) (cB : ClassId) (u : Nat) (f : Nat → Int32) (tw k : Nat) (hu : u ≤ 6000) (hk : k < u) : Met l y_X_bitAt (WSY y_X_bitAt b_X_bitAt 2 (some .int)) ({ frames := 1, cells := 0, slots := 0, locals := 21 }) (va_Pc [.ref x, .int (nI k)] (fun U => va_P D CLS [(x, .inr (4, [.int (nI bi), .int (nI ne), .int (nI li), .int (nI sp), .int (nI q), .ref sw, .ref sr, .ref br, .ref bq, .int lb])), (br, .inr (1, [.ref ra, .int (nI u)])), (ra, .inl (cB, 6000, .inl f))] U.heap ∧ va_K D CLS [(cB, .byte)] U ∧ EV (fun _ => False) tw U)) (QR (some (.int (f k)))) 0 0 (fun _ => False) := by
  refine Met.ofW (cc := b_X_bitAt) (maxL := 2) (ret := (some .int)) (by decide) rfl ?_
  intro p e s m args below meth c s₁ B hml hv
  obtain ⟨rfl, hP, hK, hE⟩ := hv
  have hx := B.exec
  have hb := B.bytes
  have hr := B.returns
  have hts := atoms_spec (ws := WSY y_X_bitAt b_X_bitAt 2 (some .int)) B.pre
  have hg : ∀ w ∈ GW, w.before _ s = true := fun w h => hts w (List.mem_cons_of_mem _ h)
  have hown : s.vm.findClass "LineGolomb" = some m.cls := findClass_of_methodNamed B.named
  have hlocks := B.notSynchronized
  have hS : va_S (fun _ => False) s.heap s.heap [] := va_S.rf
  have hl := lv_entry ([.ref x, .int (nI k)]) (n := 2) (Nat.le_of_ble_eq_true rfl)
  rw [lg_entry_eq]
  generalize (lg_sl ([.ref x, .int (nI k)]) ++ List.replicate (2 - (lg_sl ([.ref x, .int (nI k)])).length) Slot.unset).toArray = ls at hl ⊢
  have hl : lv_has ls 2 [(0, .ref x), (1, .int (nI k))] := hl
  refine lv_iload_n hx hb d_X_bitAt_0 rfl (lv_at hl 1 rfl) ?_
  refine lv_if_lt (tgt := 15) hx hb d_X_bitAt_1 (by decide) (fun c_1 => ?_) (fun c_1 => ?_)
  · skip
    exact absurd c_1 (nI_pos (by omega))
  · skip
    refine lv_iload_n hx hb d_X_bitAt_4 rfl (lv_at hl 1 rfl) ?_
    refine lv_aload_n hx hb d_X_bitAt_5 rfl (lv_at hl 0 rfl) ?_
    refine va_get (D := D) (ci := 4) (v := .ref br) (C := R_X) (T := T_X) (N := 10) hx hb hg in_X hown hK hP 0 rfl rfl 7 (by decide) (hg _ gw_123) (fun _ h9 => h9) rfl d_X_bitAt_6 ?_
    refine va_getN (D := D) (ci := 1) (v := .int (nI u)) (C := R_B) (T := T_B) (N := 2) hx hb hg in_B hown hK hP 1 rfl rfl 1 (by decide) (va_Nw.use rfl (hE.nw nw_30)) (fun _ h9 => h9) rfl d_X_bitAt_9 ?_
    refine lv_icmp_lt (tgt := 25) hx hb d_X_bitAt_12 (by decide) (fun c_2 => ?_) (fun c_2 => ?_)
    · skip
      refine lv_aload_n hx hb d_X_bitAt_25 rfl (lv_at hl 0 rfl) ?_
      refine va_get (D := D) (ci := 4) (v := .ref br) (C := R_X) (T := T_X) (N := 10) hx hb hg in_X hown hK hP 0 rfl rfl 7 (by decide) (hg _ gw_123) (fun _ h9 => h9) rfl d_X_bitAt_26 ?_
      refine lv_iload_n hx hb d_X_bitAt_29 rfl (lv_at hl 1 rfl) ?_
      have hPc := hP.sub (ws' := [(br, .inr (1, [.ref ra, .int (nI u)])), (ra, .inl (cB, 6000, .inl f))]) [1, 2] rfl
      have hKc := hK.sub (tys' := [(cB, .byte)]) [0] rfl
      refine pci (va_runV (As := [.int (nI k)]) (rest := []) ⟨hx, hb, hml, hown, hg⟩ (c_B_get l D br ra cB u f k hu hk) (cwV 1 hg (gV gw_402 gw_403 gw_404 gw_2 gw_405) rfl rfl rfl (by decide +kernel) ⟨Nat.le_of_ble_eq_true rfl, Nat.le_of_ble_eq_true rfl⟩) ⟨fun a U g mk q => by obtain ⟨q0, qP, qK⟩ := q; exact ⟨q0, qP, va_K.moved (u := U) (U := U.calling g mk a) (Vm.Alike.refl U.vm) qK⟩, va_recv hKc hPc (ci := 1) (q0 := 0) rfl rfl, fun U hU hW => ⟨rfl, by rw [hU]; exact hPc, va_K.moved hW.alike hKc⟩⟩ rfl rfl hl.1 rfl (lv_room (Nat.le_of_ble_eq_true rfl)) d_X_bitAt_30 (⟨Nat.le_of_ble_eq_true rfl, Nat.le_of_ble_eq_true rfl⟩)) ?_
      exact W.iret (v := f k) hx hb hr (fun t ht hW => ⟨rfl, ht⟩) (fun q h => by cases h) d_X_bitAt_33
    · skip
      exact absurd (nI_lt hk (by omega)) c_2
set_option maxHeartbeats 4000000 in
set_option maxRecDepth 100000 in
theorem c_X_feed (l : Launch) (D : va_G) (x sw sr br bq bi ne li sp q : Nat) (lb : Int32) (qa : Nat) (cB : ClassId) (fi h : Nat) (g : Nat → Int32) (b0 : Int32) (hf : fi < 1000) (hb0 : b0 = 0 ∨ b0 = 1) (hh : h < 1000) : Met l y_X_feed (WSY y_X_feed b_X_feed 2 (some .boolean)) ({ frames := 2, cells := 0, slots := 0, locals := 43 }) (va_Pc [.ref x, .int b0] (fun U => va_P D CLS [(x, .inr (4, [.int (nI bi), .int (nI ne), .int (nI li), .int (nI sp), .int (nI q), .ref sw, .ref sr, .ref br, .ref bq, .int lb])), (bq, .inr (0, [.ref qa, .int (nI fi), .int (nI h)])), (qa, .inl (cB, 1000, .inl g))] U.heap ∧ va_K D CLS [(cB, .byte)] U ∧ va_D (fun _ => True) [(x, .inr (4, [.int (nI bi), .int (nI ne), .int (nI li), .int (nI sp), .int (nI q), .ref sw, .ref sr, .ref br, .ref bq, .int lb])), (bq, .inr (0, [.ref qa, .int (nI fi), .int (nI h)])), (qa, .inl (cB, 1000, .inl g))])) (QM (some (.int 1)) [(x, .inr (4, [.int (nI bi), .int (nI ne), .int (nI li), .int (nI sp), .int (nI q), .ref sw, .ref sr, .ref br, .ref bq, .int lb])), (bq, .inr (0, [.ref qa, .int (nI fi), .int (nI h)])), (qa, .inl (cB, 1000, .inl g))] [(x, .inr (4, [.int (nI bi), .int (nI ne), .int (nI li), .int (nI sp), .int (nI q), .ref sw, .ref sr, .ref br, .ref bq, .int lb])), (bq, .inr (0, [.ref qa, .int (nI fi), .int (nI (h + 1))])), (qa, .inl (cB, 1000, .inl (upd g (rpl fi h) b0)))] D) 0 0 (ad [(x, .inr (4, [.int (nI bi), .int (nI ne), .int (nI li), .int (nI sp), .int (nI q), .ref sw, .ref sr, .ref br, .ref bq, .int lb])), (bq, .inr (0, [.ref qa, .int (nI fi), .int (nI h)])), (qa, .inl (cB, 1000, .inl g))]) := by
  refine Met.ofW (cc := b_X_feed) (maxL := 2) (ret := (some .boolean)) (by decide) rfl ?_
  intro p e s m args below meth c s₁ B hml hv
  obtain ⟨rfl, hP, hK, hD0⟩ := hv
  have hx := B.exec
  have hb := B.bytes
  have hr := B.returns
  have hts := atoms_spec (ws := WSY y_X_feed b_X_feed 2 (some .boolean)) B.pre
  have hg : ∀ w ∈ GW, w.before _ s = true := fun w h => hts w (List.mem_cons_of_mem _ h)
  have hown : s.vm.findClass "LineGolomb" = some m.cls := findClass_of_methodNamed B.named
  have hlocks := B.notSynchronized
  obtain ⟨A, hAe⟩ : ∃ A, A = ad [(x, .inr (4, [.int (nI bi), .int (nI ne), .int (nI li), .int (nI sp), .int (nI q), .ref sw, .ref sr, .ref br, .ref bq, .int lb])), (bq, .inr (0, [.ref qa, .int (nI fi), .int (nI h)])), (qa, .inl (cB, 1000, .inl g))] := ⟨_, rfl⟩
  have hD : va_D A [(x, .inr (4, [.int (nI bi), .int (nI ne), .int (nI li), .int (nI sp), .int (nI q), .ref sw, .ref sr, .ref br, .ref bq, .int lb])), (bq, .inr (0, [.ref qa, .int (nI fi), .int (nI h)])), (qa, .inl (cB, 1000, .inl g))] := by rw [hAe]; exact va_D_ad hD0
  have hS : va_S A s.heap s.heap [] := va_S.rf
  have hl := lv_entry ([.ref x, .int b0]) (n := 2) (Nat.le_of_ble_eq_true rfl)
  rw [lg_entry_eq]
  generalize (lg_sl ([.ref x, .int b0]) ++ List.replicate (2 - (lg_sl ([.ref x, .int b0])).length) Slot.unset).toArray = ls at hl ⊢
  have hl : lv_has ls 2 [(0, .ref x), (1, .int b0)] := hl
  refine lv_iload_n hx hb d_X_feed_0 rfl (lv_at hl 1 rfl) ?_
  refine lv_if_eq (tgt := 19) hx hb d_X_feed_1 (by decide) (fun c_1 => ?_) (fun c_1 => ?_)
  · skip
    refine lv_aload_n hx hb d_X_feed_19 rfl (lv_at hl 0 rfl) ?_
    refine va_get (D := D) (ci := 4) (v := .ref bq) (C := R_X) (T := T_X) (N := 10) hx hb hg in_X hown hK hP 0 rfl rfl 8 (by decide) (hg _ gw_124) (fun _ h9 => h9) rfl d_X_feed_20 ?_
    refine lv_iload_n hx hb d_X_feed_23 rfl (lv_at hl 1 rfl) ?_
    have hPc := hP.sub (ws' := [(bq, .inr (0, [.ref qa, .int (nI fi), .int (nI h)])), (qa, .inl (cB, 1000, .inl g))]) [1, 2] rfl
    have hDc := hD.sub (ws' := [(bq, .inr (0, [.ref qa, .int (nI fi), .int (nI h)])), (qa, .inl (cB, 1000, .inl g))]) [1, 2] (by decide) rfl
    have hKc := hK.sub (tys' := [(cB, .byte)]) [0] rfl
    refine mci (va_runV (As := [.int b0]) (rest := []) ⟨hx, hb, hml, hown, hg⟩ (c_Q_add l D bq qa cB fi h g b0 hf hh hb0) (cwV 1 hg (gV gw_414 gw_415 gw_416 gw_3 gw_417) rfl rfl rfl (by decide +kernel) ⟨Nat.le_of_ble_eq_true rfl, Nat.le_of_ble_eq_true rfl⟩) ⟨fun a U g mk q => by obtain ⟨q0, qP, qK, qD⟩ := q; exact ⟨q0, qP, va_K.moved (u := U) (U := U.calling g mk a) (Vm.Alike.refl U.vm) qK, qD⟩, va_recv hKc hPc (ci := 0) (q0 := 0) rfl rfl, fun U hU hW => ⟨rfl, by rw [hU]; exact hPc, va_K.moved hW.alike hKc, hDc.weaken (fun _ _ _ _ => trivial)⟩⟩ rfl rfl hl.1 rfl (lv_room (Nat.le_of_ble_eq_true rfl)) d_X_feed_24 (⟨Nat.le_of_ble_eq_true rfl, Nat.le_of_ble_eq_true rfl⟩)) hS hP hD [1, 2] rfl rfl rfl (fun H locs hP hD hS => ?_)
    have hP : va_P D CLS [(x, .inr (4, [.int (nI bi), .int (nI ne), .int (nI li), .int (nI sp), .int (nI q), .ref sw, .ref sr, .ref br, .ref bq, .int lb])), (bq, .inr (0, [.ref qa, .int (nI fi), .int (nI (h + 1))])), (qa, .inl (cB, 1000, .inl (upd g (rpl fi h) b0)))] H := hP
    have hD : va_D A [(x, .inr (4, [.int (nI bi), .int (nI ne), .int (nI li), .int (nI sp), .int (nI q), .ref sw, .ref sr, .ref br, .ref bq, .int lb])), (bq, .inr (0, [.ref qa, .int (nI fi), .int (nI (h + 1))])), (qa, .inl (cB, 1000, .inl (upd g (rpl fi h) b0)))] := hD
    exact W.zret (v := 1) hx hb hr (rfl) (fun t ht hW => ⟨rfl, by rw [ht]; exact hP, (hAe ▸ hS).F ht⟩) (hAe ▸ hS).2.2 d_X_feed_27
  · skip
    refine lv_iload_n hx hb d_X_feed_4 rfl (lv_at hl 1 rfl) ?_
    refine lv_iconst (v := 1) hx hb d_X_feed_5 (by decide) ?_
    refine lv_icmp_eq (tgt := 19) hx hb d_X_feed_6 (by decide) (fun c_2 => ?_) (fun c_2 => ?_)
    · skip
      refine lv_aload_n hx hb d_X_feed_19 rfl (lv_at hl 0 rfl) ?_
      refine va_get (D := D) (ci := 4) (v := .ref bq) (C := R_X) (T := T_X) (N := 10) hx hb hg in_X hown hK hP 0 rfl rfl 8 (by decide) (hg _ gw_124) (fun _ h9 => h9) rfl d_X_feed_20 ?_
      refine lv_iload_n hx hb d_X_feed_23 rfl (lv_at hl 1 rfl) ?_
      have hPc := hP.sub (ws' := [(bq, .inr (0, [.ref qa, .int (nI fi), .int (nI h)])), (qa, .inl (cB, 1000, .inl g))]) [1, 2] rfl
      have hDc := hD.sub (ws' := [(bq, .inr (0, [.ref qa, .int (nI fi), .int (nI h)])), (qa, .inl (cB, 1000, .inl g))]) [1, 2] (by decide) rfl
      have hKc := hK.sub (tys' := [(cB, .byte)]) [0] rfl
      refine mci (va_runV (As := [.int b0]) (rest := []) ⟨hx, hb, hml, hown, hg⟩ (c_Q_add l D bq qa cB fi h g b0 hf hh hb0) (cwV 1 hg (gV gw_414 gw_415 gw_416 gw_3 gw_417) rfl rfl rfl (by decide +kernel) ⟨Nat.le_of_ble_eq_true rfl, Nat.le_of_ble_eq_true rfl⟩) ⟨fun a U g mk q => by obtain ⟨q0, qP, qK, qD⟩ := q; exact ⟨q0, qP, va_K.moved (u := U) (U := U.calling g mk a) (Vm.Alike.refl U.vm) qK, qD⟩, va_recv hKc hPc (ci := 0) (q0 := 0) rfl rfl, fun U hU hW => ⟨rfl, by rw [hU]; exact hPc, va_K.moved hW.alike hKc, hDc.weaken (fun _ _ _ _ => trivial)⟩⟩ rfl rfl hl.1 rfl (lv_room (Nat.le_of_ble_eq_true rfl)) d_X_feed_24 (⟨Nat.le_of_ble_eq_true rfl, Nat.le_of_ble_eq_true rfl⟩)) hS hP hD [1, 2] rfl rfl rfl (fun H locs hP hD hS => ?_)
      have hP : va_P D CLS [(x, .inr (4, [.int (nI bi), .int (nI ne), .int (nI li), .int (nI sp), .int (nI q), .ref sw, .ref sr, .ref br, .ref bq, .int lb])), (bq, .inr (0, [.ref qa, .int (nI fi), .int (nI (h + 1))])), (qa, .inl (cB, 1000, .inl (upd g (rpl fi h) b0)))] H := hP
      have hD : va_D A [(x, .inr (4, [.int (nI bi), .int (nI ne), .int (nI li), .int (nI sp), .int (nI q), .ref sw, .ref sr, .ref br, .ref bq, .int lb])), (bq, .inr (0, [.ref qa, .int (nI fi), .int (nI (h + 1))])), (qa, .inl (cB, 1000, .inl (upd g (rpl fi h) b0)))] := hD
      exact W.zret (v := 1) hx hb hr (rfl) (fun t ht hW => ⟨rfl, by rw [ht]; exact hP, (hAe ▸ hS).F ht⟩) (hAe ▸ hS).2.2 d_X_feed_27
    · skip
      exact absurd hb0 (fun q => q.elim c_1 c_2)
set_option maxHeartbeats 4000000 in
set_option maxRecDepth 100000 in
theorem c_X_feedF (l : Launch) (D : va_G) (x sw sr br bq bi ne li sp q : Nat) (lb : Int32) (qa : Nat) (cB : ClassId) (fi h : Nat) (g : Nat → Int32) (b0 : Int32) (hf : fi < 1000) (hb0 : b0 = 0 ∨ b0 = 1) (hh : h = 1000) : Met l y_X_feed (WSY y_X_feed b_X_feed 2 (some .boolean)) ({ frames := 2, cells := 0, slots := 0, locals := 43 }) (va_Pc [.ref x, .int b0] (fun U => va_P D CLS [(x, .inr (4, [.int (nI bi), .int (nI ne), .int (nI li), .int (nI sp), .int (nI q), .ref sw, .ref sr, .ref br, .ref bq, .int lb])), (bq, .inr (0, [.ref qa, .int (nI fi), .int (nI h)])), (qa, .inl (cB, 1000, .inl g))] U.heap ∧ va_K D CLS [(cB, .byte)] U ∧ va_D (fun _ => True) [(x, .inr (4, [.int (nI bi), .int (nI ne), .int (nI li), .int (nI sp), .int (nI q), .ref sw, .ref sr, .ref br, .ref bq, .int lb])), (bq, .inr (0, [.ref qa, .int (nI fi), .int (nI h)])), (qa, .inl (cB, 1000, .inl g))])) (QM (some (.int 0)) [(x, .inr (4, [.int (nI bi), .int (nI ne), .int (nI li), .int (nI sp), .int (nI q), .ref sw, .ref sr, .ref br, .ref bq, .int lb])), (bq, .inr (0, [.ref qa, .int (nI fi), .int (nI h)])), (qa, .inl (cB, 1000, .inl g))] [(x, .inr (4, [.int (nI bi), .int (nI ne), .int (nI li), .int (nI sp), .int (nI q), .ref sw, .ref sr, .ref br, .ref bq, .int lb])), (bq, .inr (0, [.ref qa, .int (nI fi), .int (nI h)])), (qa, .inl (cB, 1000, .inl g))] D) 0 0 (ad [(x, .inr (4, [.int (nI bi), .int (nI ne), .int (nI li), .int (nI sp), .int (nI q), .ref sw, .ref sr, .ref br, .ref bq, .int lb])), (bq, .inr (0, [.ref qa, .int (nI fi), .int (nI h)])), (qa, .inl (cB, 1000, .inl g))]) := by
  refine Met.ofW (cc := b_X_feed) (maxL := 2) (ret := (some .boolean)) (by decide) rfl ?_
  intro p e s m args below meth c s₁ B hml hv
  obtain ⟨rfl, hP, hK, hD0⟩ := hv
  have hx := B.exec
  have hb := B.bytes
  have hr := B.returns
  have hts := atoms_spec (ws := WSY y_X_feed b_X_feed 2 (some .boolean)) B.pre
  have hg : ∀ w ∈ GW, w.before _ s = true := fun w h => hts w (List.mem_cons_of_mem _ h)
  have hown : s.vm.findClass "LineGolomb" = some m.cls := findClass_of_methodNamed B.named
  have hlocks := B.notSynchronized
  obtain ⟨A, hAe⟩ : ∃ A, A = ad [(x, .inr (4, [.int (nI bi), .int (nI ne), .int (nI li), .int (nI sp), .int (nI q), .ref sw, .ref sr, .ref br, .ref bq, .int lb])), (bq, .inr (0, [.ref qa, .int (nI fi), .int (nI h)])), (qa, .inl (cB, 1000, .inl g))] := ⟨_, rfl⟩
  have hD : va_D A [(x, .inr (4, [.int (nI bi), .int (nI ne), .int (nI li), .int (nI sp), .int (nI q), .ref sw, .ref sr, .ref br, .ref bq, .int lb])), (bq, .inr (0, [.ref qa, .int (nI fi), .int (nI h)])), (qa, .inl (cB, 1000, .inl g))] := by rw [hAe]; exact va_D_ad hD0
  have hS : va_S A s.heap s.heap [] := va_S.rf
  have hl := lv_entry ([.ref x, .int b0]) (n := 2) (Nat.le_of_ble_eq_true rfl)
  rw [lg_entry_eq]
  generalize (lg_sl ([.ref x, .int b0]) ++ List.replicate (2 - (lg_sl ([.ref x, .int b0])).length) Slot.unset).toArray = ls at hl ⊢
  have hl : lv_has ls 2 [(0, .ref x), (1, .int b0)] := hl
  refine lv_iload_n hx hb d_X_feed_0 rfl (lv_at hl 1 rfl) ?_
  refine lv_if_eq (tgt := 19) hx hb d_X_feed_1 (by decide) (fun c_1 => ?_) (fun c_1 => ?_)
  · skip
    refine lv_aload_n hx hb d_X_feed_19 rfl (lv_at hl 0 rfl) ?_
    refine va_get (D := D) (ci := 4) (v := .ref bq) (C := R_X) (T := T_X) (N := 10) hx hb hg in_X hown hK hP 0 rfl rfl 8 (by decide) (hg _ gw_124) (fun _ h9 => h9) rfl d_X_feed_20 ?_
    refine lv_iload_n hx hb d_X_feed_23 rfl (lv_at hl 1 rfl) ?_
    have hPc := hP.sub (ws' := [(bq, .inr (0, [.ref qa, .int (nI fi), .int (nI h)])), (qa, .inl (cB, 1000, .inl g))]) [1, 2] rfl
    have hDc := hD.sub (ws' := [(bq, .inr (0, [.ref qa, .int (nI fi), .int (nI h)])), (qa, .inl (cB, 1000, .inl g))]) [1, 2] (by decide) rfl
    have hKc := hK.sub (tys' := [(cB, .byte)]) [0] rfl
    refine mci (va_runV (As := [.int b0]) (rest := []) ⟨hx, hb, hml, hown, hg⟩ (c_Q_addF l D bq qa cB fi h g b0 hh) (cwV 1 hg (gV gw_414 gw_415 gw_416 gw_3 gw_417) rfl rfl rfl (by decide +kernel) ⟨Nat.le_of_ble_eq_true rfl, Nat.le_of_ble_eq_true rfl⟩) ⟨fun a U g mk q => by obtain ⟨q0, qP, qK, qD⟩ := q; exact ⟨q0, qP, va_K.moved (u := U) (U := U.calling g mk a) (Vm.Alike.refl U.vm) qK, qD⟩, va_recv hKc hPc (ci := 0) (q0 := 0) rfl rfl, fun U hU hW => ⟨rfl, by rw [hU]; exact hPc, va_K.moved hW.alike hKc, hDc.weaken (fun _ _ _ _ => trivial)⟩⟩ rfl rfl hl.1 rfl (lv_room (Nat.le_of_ble_eq_true rfl)) d_X_feed_24 (⟨Nat.le_of_ble_eq_true rfl, Nat.le_of_ble_eq_true rfl⟩)) hS hP hD [1, 2] rfl rfl rfl (fun H locs hP hD hS => ?_)
    have hP : va_P D CLS [(x, .inr (4, [.int (nI bi), .int (nI ne), .int (nI li), .int (nI sp), .int (nI q), .ref sw, .ref sr, .ref br, .ref bq, .int lb])), (bq, .inr (0, [.ref qa, .int (nI fi), .int (nI h)])), (qa, .inl (cB, 1000, .inl g))] H := hP
    have hD : va_D A [(x, .inr (4, [.int (nI bi), .int (nI ne), .int (nI li), .int (nI sp), .int (nI q), .ref sw, .ref sr, .ref br, .ref bq, .int lb])), (bq, .inr (0, [.ref qa, .int (nI fi), .int (nI h)])), (qa, .inl (cB, 1000, .inl g))] := hD
    exact W.zret (v := 0) hx hb hr (rfl) (fun t ht hW => ⟨rfl, by rw [ht]; exact hP, (hAe ▸ hS).F ht⟩) (hAe ▸ hS).2.2 d_X_feed_27
  · skip
    refine lv_iload_n hx hb d_X_feed_4 rfl (lv_at hl 1 rfl) ?_
    refine lv_iconst (v := 1) hx hb d_X_feed_5 (by decide) ?_
    refine lv_icmp_eq (tgt := 19) hx hb d_X_feed_6 (by decide) (fun c_2 => ?_) (fun c_2 => ?_)
    · skip
      refine lv_aload_n hx hb d_X_feed_19 rfl (lv_at hl 0 rfl) ?_
      refine va_get (D := D) (ci := 4) (v := .ref bq) (C := R_X) (T := T_X) (N := 10) hx hb hg in_X hown hK hP 0 rfl rfl 8 (by decide) (hg _ gw_124) (fun _ h9 => h9) rfl d_X_feed_20 ?_
      refine lv_iload_n hx hb d_X_feed_23 rfl (lv_at hl 1 rfl) ?_
      have hPc := hP.sub (ws' := [(bq, .inr (0, [.ref qa, .int (nI fi), .int (nI h)])), (qa, .inl (cB, 1000, .inl g))]) [1, 2] rfl
      have hDc := hD.sub (ws' := [(bq, .inr (0, [.ref qa, .int (nI fi), .int (nI h)])), (qa, .inl (cB, 1000, .inl g))]) [1, 2] (by decide) rfl
      have hKc := hK.sub (tys' := [(cB, .byte)]) [0] rfl
      refine mci (va_runV (As := [.int b0]) (rest := []) ⟨hx, hb, hml, hown, hg⟩ (c_Q_addF l D bq qa cB fi h g b0 hh) (cwV 1 hg (gV gw_414 gw_415 gw_416 gw_3 gw_417) rfl rfl rfl (by decide +kernel) ⟨Nat.le_of_ble_eq_true rfl, Nat.le_of_ble_eq_true rfl⟩) ⟨fun a U g mk q => by obtain ⟨q0, qP, qK, qD⟩ := q; exact ⟨q0, qP, va_K.moved (u := U) (U := U.calling g mk a) (Vm.Alike.refl U.vm) qK, qD⟩, va_recv hKc hPc (ci := 0) (q0 := 0) rfl rfl, fun U hU hW => ⟨rfl, by rw [hU]; exact hPc, va_K.moved hW.alike hKc, hDc.weaken (fun _ _ _ _ => trivial)⟩⟩ rfl rfl hl.1 rfl (lv_room (Nat.le_of_ble_eq_true rfl)) d_X_feed_24 (⟨Nat.le_of_ble_eq_true rfl, Nat.le_of_ble_eq_true rfl⟩)) hS hP hD [1, 2] rfl rfl rfl (fun H locs hP hD hS => ?_)
      have hP : va_P D CLS [(x, .inr (4, [.int (nI bi), .int (nI ne), .int (nI li), .int (nI sp), .int (nI q), .ref sw, .ref sr, .ref br, .ref bq, .int lb])), (bq, .inr (0, [.ref qa, .int (nI fi), .int (nI h)])), (qa, .inl (cB, 1000, .inl g))] H := hP
      have hD : va_D A [(x, .inr (4, [.int (nI bi), .int (nI ne), .int (nI li), .int (nI sp), .int (nI q), .ref sw, .ref sr, .ref br, .ref bq, .int lb])), (bq, .inr (0, [.ref qa, .int (nI fi), .int (nI h)])), (qa, .inl (cB, 1000, .inl g))] := hD
      exact W.zret (v := 0) hx hb hr (rfl) (fun t ht hW => ⟨rfl, by rw [ht]; exact hP, (hAe ▸ hS).F ht⟩) (hAe ▸ hS).2.2 d_X_feed_27
    · skip
      exact absurd hb0 (fun q => q.elim c_1 c_2)
set_option maxHeartbeats 4000000 in
set_option maxRecDepth 100000 in
theorem c_X_map (l : Launch) (D : va_G) (x sw sr br bq bi ne li sp q : Nat) (lb : Int32) (e0 sp1 : Int32) (h1 : ¬ e0 < -65536) (h2 : ¬ 65536 < e0) : Met l y_X_map (WSY y_X_map b_X_map 3 (some .int)) ({ frames := 0, cells := 0, slots := 0, locals := 0 }) (va_Pc [.ref x, .int e0, .int sp1] (fun U => va_P D CLS [(x, .inr (4, [.int (nI bi), .int (nI ne), .int (nI li), .int (nI sp), .int (nI q), .ref sw, .ref sr, .ref br, .ref bq, .int lb]))] U.heap ∧ va_K D CLS [] U)) (QR (some (.int (if e0 < 0 then (-2) * e0 - (if sp1 = 0 then 1 else 2) else 2 * e0 + (if sp1 = 0 then 0 else 1))))) 0 0 (fun _ => False) := by
  refine Met.ofW (cc := b_X_map) (maxL := 3) (ret := (some .int)) (by decide) rfl ?_
  intro p e s m args below meth c s₁ B hml hv
  obtain ⟨rfl, hP, hK⟩ := hv
  have hx := B.exec
  have hb := B.bytes
  have hr := B.returns
  have hts := atoms_spec (ws := WSY y_X_map b_X_map 3 (some .int)) B.pre
  have hg : ∀ w ∈ GW, w.before _ s = true := fun w h => hts w (List.mem_cons_of_mem _ h)
  have hown : s.vm.findClass "LineGolomb" = some m.cls := findClass_of_methodNamed B.named
  have hlocks := B.notSynchronized
  have hS : va_S (fun _ => False) s.heap s.heap [] := va_S.rf
  have hl := lv_entry ([.ref x, .int e0, .int sp1]) (n := 3) (Nat.le_of_ble_eq_true rfl)
  rw [lg_entry_eq]
  generalize (lg_sl ([.ref x, .int e0, .int sp1]) ++ List.replicate (3 - (lg_sl ([.ref x, .int e0, .int sp1])).length) Slot.unset).toArray = ls at hl ⊢
  have hl : lv_has ls 3 [(0, .ref x), (1, .int e0), (2, .int sp1)] := hl
  refine lv_iload_n hx hb d_X_map_0 rfl (lv_at hl 1 rfl) ?_
  refine lv_ldc (v := (-65536)) hx hb hown (hg _ gw_489) d_X_map_1 ?_
  refine lv_icmp_lt (tgt := 12) hx hb d_X_map_3 (by decide) (fun c_1 => ?_) (fun c_1 => ?_)
  · skip
    exact absurd c_1 h1
  · skip
    refine lv_iload_n hx hb d_X_map_6 rfl (lv_at hl 1 rfl) ?_
    refine lv_ldc (v := 65536) hx hb hown (hg _ gw_490) d_X_map_7 ?_
    refine lv_icmp_le (tgt := 22) hx hb d_X_map_9 (by decide) (fun c_2 => ?_) (fun c_2 => ?_)
    · skip
      refine lv_iload_n hx hb d_X_map_22 rfl (lv_at hl 1 rfl) ?_
      refine lv_if_ge (tgt := 41) hx hb d_X_map_23 (by decide) (fun c_3 => ?_) (fun c_3 => ?_)
      · skip
        have hneg : ¬ e0 < 0 := fun z => by have h7 := ltT.mp z; have h8 := leT.mp c_3; rw [zT] at h7 h8; omega
        refine lv_iconst (v := 2) hx hb d_X_map_41 (by decide) ?_
        refine lv_iload_n hx hb d_X_map_42 rfl (lv_at hl 1 rfl) ?_
        refine lv_imul hx hb d_X_map_43 ?_
        refine lv_iload_n hx hb d_X_map_44 rfl (lv_at hl 2 rfl) ?_
        refine lv_if_eq (tgt := 52) hx hb d_X_map_45 (by decide) (fun c_4 => ?_) (fun c_4 => ?_)
        · skip
          refine lv_iconst (v := 0) hx hb d_X_map_52 (by decide) ?_
          refine lv_iadd hx hb d_X_map_53 ?_
          refine tpi (y := if e0 < 0 then (-2) * e0 - (if sp1 = 0 then 1 else 2) else 2 * e0 + (if sp1 = 0 then 0 else 1)) (by rw [if_neg hneg, if_pos c_4]) ?_
          exact W.iret (v := if e0 < 0 then (-2) * e0 - (if sp1 = 0 then 1 else 2) else 2 * e0 + (if sp1 = 0 then 0 else 1)) hx hb hr (fun t ht hW => ⟨rfl, ht⟩) (fun q h => by cases h) d_X_map_54
        · skip
          refine lv_iconst (v := 1) hx hb d_X_map_48 (by decide) ?_
          refine lv_goto (tgt := 53) hx hb d_X_map_49 (by decide) ?_
          refine lv_iadd hx hb d_X_map_53 ?_
          refine tpi (y := if e0 < 0 then (-2) * e0 - (if sp1 = 0 then 1 else 2) else 2 * e0 + (if sp1 = 0 then 0 else 1)) (by rw [if_neg hneg, if_neg c_4]) ?_
          exact W.iret (v := if e0 < 0 then (-2) * e0 - (if sp1 = 0 then 1 else 2) else 2 * e0 + (if sp1 = 0 then 0 else 1)) hx hb hr (fun t ht hW => ⟨rfl, ht⟩) (fun q h => by cases h) d_X_map_54
      · skip
        have hneg : e0 < 0 := ltT.mpr (by have h8 : ¬ (0 : Int32).toInt ≤ e0.toInt := fun z => c_3 (leT.mpr z); rw [zT] at h8 ⊢; omega)
        refine lv_bipush (v := (-2)) hx hb d_X_map_26 (by decide) ?_
        refine lv_iload_n hx hb d_X_map_28 rfl (lv_at hl 1 rfl) ?_
        refine lv_imul hx hb d_X_map_29 ?_
        refine lv_iload_n hx hb d_X_map_30 rfl (lv_at hl 2 rfl) ?_
        refine lv_if_eq (tgt := 38) hx hb d_X_map_31 (by decide) (fun c_5 => ?_) (fun c_5 => ?_)
        · skip
          refine lv_iconst (v := 1) hx hb d_X_map_38 (by decide) ?_
          refine lv_isub hx hb d_X_map_39 ?_
          refine tpi (y := if e0 < 0 then (-2) * e0 - (if sp1 = 0 then 1 else 2) else 2 * e0 + (if sp1 = 0 then 0 else 1)) (by rw [if_pos hneg, if_pos c_5]) ?_
          exact W.iret (v := if e0 < 0 then (-2) * e0 - (if sp1 = 0 then 1 else 2) else 2 * e0 + (if sp1 = 0 then 0 else 1)) hx hb hr (fun t ht hW => ⟨rfl, ht⟩) (fun q h => by cases h) d_X_map_40
        · skip
          refine lv_iconst (v := 2) hx hb d_X_map_34 (by decide) ?_
          refine lv_goto (tgt := 39) hx hb d_X_map_35 (by decide) ?_
          refine lv_isub hx hb d_X_map_39 ?_
          refine tpi (y := if e0 < 0 then (-2) * e0 - (if sp1 = 0 then 1 else 2) else 2 * e0 + (if sp1 = 0 then 0 else 1)) (by rw [if_pos hneg, if_neg c_5]) ?_
          exact W.iret (v := if e0 < 0 then (-2) * e0 - (if sp1 = 0 then 1 else 2) else 2 * e0 + (if sp1 = 0 then 0 else 1)) hx hb hr (fun t ht hW => ⟨rfl, ht⟩) (fun q h => by cases h) d_X_map_40
    · skip
      exact absurd (leT.mpr (by have h8 : ¬ (65536 : Int32).toInt < e0.toInt := fun z => h2 (ltT.mpr z); omega)) c_2
set_option maxHeartbeats 4000000 in
set_option maxRecDepth 100000 in
theorem c_X_code (l : Launch) (D : va_G) (x sw sr br bq bi ne li sp q : Nat) (lb : Int32) (ra : Nat) (cB : ClassId) (u : Nat) (f : Nat → Int32) (K N : Nat) (hq : q ≤ 29) (hKq : K ≤ q) (hN : N ≤ 2 ^ q) (hli : q + 1 ≤ li) (hlb : li ≤ 200) (hu : u + nlen q K N (li - q - 1) ≤ 6000) : Met l y_X_code (WSY y_X_code b_X_code 5 (some .int)) ({ frames := 3, cells := 0, slots := 0, locals := 70 }) (va_Pc [.ref x, .int (nI K), .int (nI N)] (fun U => va_P D CLS [(x, .inr (4, [.int (nI bi), .int (nI ne), .int (nI li), .int (nI sp), .int (nI q), .ref sw, .ref sr, .ref br, .ref bq, .int lb])), (br, .inr (1, [.ref ra, .int (nI u)])), (ra, .inl (cB, 6000, .inl f))] U.heap ∧ va_K D CLS [(cB, .byte)] U ∧ va_D (fun _ => True) [(x, .inr (4, [.int (nI bi), .int (nI ne), .int (nI li), .int (nI sp), .int (nI q), .ref sw, .ref sr, .ref br, .ref bq, .int lb])), (br, .inr (1, [.ref ra, .int (nI u)])), (ra, .inl (cB, 6000, .inl f))])) (QM (some (.int (nI (nlen q K N (li - q - 1))))) [(x, .inr (4, [.int (nI bi), .int (nI ne), .int (nI li), .int (nI sp), .int (nI q), .ref sw, .ref sr, .ref br, .ref bq, .int lb])), (br, .inr (1, [.ref ra, .int (nI u)])), (ra, .inl (cB, 6000, .inl f))] [(x, .inr (4, [.int (nI bi), .int (nI ne), .int (nI li), .int (nI sp), .int (nI q), .ref sw, .ref sr, .ref br, .ref bq, .int lb])), (br, .inr (1, [.ref ra, .int (nI (u + nlen q K N (li - q - 1)))])), (ra, .inl (cB, 6000, .inl (wnum f q K N (li - q - 1) u)))] D) 0 0 (ad [(x, .inr (4, [.int (nI bi), .int (nI ne), .int (nI li), .int (nI sp), .int (nI q), .ref sw, .ref sr, .ref br, .ref bq, .int lb])), (br, .inr (1, [.ref ra, .int (nI u)])), (ra, .inl (cB, 6000, .inl f))]) := by
  refine Met.ofW (cc := b_X_code) (maxL := 5) (ret := (some .int)) (by decide) rfl ?_
  intro p e s m args below meth c s₁ B hml hv
  obtain ⟨rfl, hP, hK, hD0⟩ := hv
  have hx := B.exec
  have hb := B.bytes
  have hr := B.returns
  have hts := atoms_spec (ws := WSY y_X_code b_X_code 5 (some .int)) B.pre
  have hg : ∀ w ∈ GW, w.before _ s = true := fun w h => hts w (List.mem_cons_of_mem _ h)
  have hown : s.vm.findClass "LineGolomb" = some m.cls := findClass_of_methodNamed B.named
  have hlocks := B.notSynchronized
  obtain ⟨A, hAe⟩ : ∃ A, A = ad [(x, .inr (4, [.int (nI bi), .int (nI ne), .int (nI li), .int (nI sp), .int (nI q), .ref sw, .ref sr, .ref br, .ref bq, .int lb])), (br, .inr (1, [.ref ra, .int (nI u)])), (ra, .inl (cB, 6000, .inl f))] := ⟨_, rfl⟩
  have hD : va_D A [(x, .inr (4, [.int (nI bi), .int (nI ne), .int (nI li), .int (nI sp), .int (nI q), .ref sw, .ref sr, .ref br, .ref bq, .int lb])), (br, .inr (1, [.ref ra, .int (nI u)])), (ra, .inl (cB, 6000, .inl f))] := by rw [hAe]; exact va_D_ad hD0
  have hS : va_S A s.heap s.heap [] := va_S.rf
  have hl := lv_entry ([.ref x, .int (nI K), .int (nI N)]) (n := 5) (Nat.le_of_ble_eq_true rfl)
  rw [lg_entry_eq]
  generalize (lg_sl ([.ref x, .int (nI K), .int (nI N)]) ++ List.replicate (5 - (lg_sl ([.ref x, .int (nI K), .int (nI N)])).length) Slot.unset).toArray = ls at hl ⊢
  have hl : lv_has ls 5 [(0, .ref x), (1, .int (nI K)), (2, .int (nI N))] := hl
  have hp := pw30 (show q ≤ 30 by omega)
  have hq29 : 2 ^ q ≤ 2 ^ 29 := Nat.pow_le_pow_right (by decide) hq
  refine lv_iload_n hx hb d_X_code_0 rfl (lv_at hl 1 rfl) ?_
  refine lv_if_lt (tgt := 12) hx hb d_X_code_1 (by decide) (fun c_1 => ?_) (fun c_1 => ?_)
  · skip
    exact absurd c_1 (nI_pos (by omega))
  · skip
    refine lv_iload_n hx hb d_X_code_4 rfl (lv_at hl 1 rfl) ?_
    refine lv_aload_n hx hb d_X_code_5 rfl (lv_at hl 0 rfl) ?_
    refine va_get (D := D) (ci := 4) (v := .int (nI q)) (C := R_X) (T := T_X) (N := 10) hx hb hg in_X hown hK hP 0 rfl rfl 4 (by decide) (hg _ gw_120) (fun _ h9 => h9) rfl d_X_code_6 ?_
    refine lv_icmp_le (tgt := 22) hx hb d_X_code_9 (by decide) (fun c_2 => ?_) (fun c_2 => ?_)
    · skip
      refine lv_iload_n hx hb d_X_code_22 rfl (lv_at hl 2 rfl) ?_
      refine lv_if_lt (tgt := 36) hx hb d_X_code_23 (by decide) (fun c_3 => ?_) (fun c_3 => ?_)
      · skip
        exact absurd c_3 (nI_pos (by omega))
      · skip
        refine lv_iload_n hx hb d_X_code_26 rfl (lv_at hl 2 rfl) ?_
        refine lv_iconst (v := 1) hx hb d_X_code_27 (by decide) ?_
        refine lv_aload_n hx hb d_X_code_28 rfl (lv_at hl 0 rfl) ?_
        refine va_get (D := D) (ci := 4) (v := .int (nI q)) (C := R_X) (T := T_X) (N := 10) hx hb hg in_X hown hK hP 0 rfl rfl 4 (by decide) (hg _ gw_120) (fun _ h9 => h9) rfl d_X_code_29 ?_
        refine lv_ishl hx hb d_X_code_32 ?_
        refine tpi (y := nI (2 ^ q)) (sh1 (by omega)) ?_
        refine lv_icmp_le (tgt := 46) hx hb d_X_code_33 (by decide) (fun c_4 => ?_) (fun c_4 => ?_)
        · skip
          refine lv_aload_n hx hb d_X_code_46 rfl (lv_at hl 0 rfl) ?_
          refine lv_aload_n hx hb d_X_code_47 rfl (lv_at hl 0 rfl) ?_
          refine va_get (D := D) (ci := 4) (v := .int (nI li)) (C := R_X) (T := T_X) (N := 10) hx hb hg in_X hown hK hP 0 rfl rfl 2 (by decide) (hg _ gw_118) (fun _ h9 => h9) rfl d_X_code_48 ?_
          have hPc := hP.sub (ws' := [(x, .inr (4, [.int (nI bi), .int (nI ne), .int (nI li), .int (nI sp), .int (nI q), .ref sw, .ref sr, .ref br, .ref bq, .int lb]))]) [0] rfl
          have hKc := hK.sub (tys' := []) [] rfl
          refine pci (va_runV (As := [.int (nI li)]) (rest := []) ⟨hx, hb, hml, hown, hg⟩ (c_X_mostZeros l D x sw sr br bq bi ne li sp q lb li hli) (cwV 1 hg (gV gw_269 gw_271 gs_3 gw_1 gw_272) rfl rfl rfl (by decide +kernel) ⟨Nat.le_of_ble_eq_true rfl, Nat.le_of_ble_eq_true rfl⟩) ⟨fun a U g mk q => by obtain ⟨q0, qP, qK⟩ := q; exact ⟨q0, qP, va_K.moved (u := U) (U := U.calling g mk a) (Vm.Alike.refl U.vm) qK⟩, va_recv hKc hPc (ci := 4) (q0 := 0) rfl rfl, fun U hU hW => ⟨rfl, by rw [hU]; exact hPc, va_K.moved hW.alike hKc⟩⟩ rfl rfl hl.1 rfl (lv_room (Nat.le_of_ble_eq_true rfl)) d_X_code_51 (⟨Nat.le_of_ble_eq_true rfl, Nat.le_of_ble_eq_true rfl⟩)) ?_
          refine lv_istore_n (lv' := [(3, .int (nI (li - q - 1))), (0, .ref x), (1, .int (nI K)), (2, .int (nI N))]) hx hb d_X_code_54 rfl hl (by decide) rfl (fun ls hl => ?_)
          refine lv_aload_n hx hb d_X_code_55 rfl (lv_at hl 1 rfl) ?_
          refine lv_iload_n hx hb d_X_code_56 rfl (lv_at hl 2 rfl) ?_
          refine lv_iload_n hx hb d_X_code_57 rfl (lv_at hl 3 rfl) ?_
          refine lv_iload_n hx hb d_X_code_58 rfl (lv_at hl 0 rfl) ?_
          have hPc := hP.sub (ws' := [(x, .inr (4, [.int (nI bi), .int (nI ne), .int (nI li), .int (nI sp), .int (nI q), .ref sw, .ref sr, .ref br, .ref bq, .int lb]))]) [0] rfl
          have hKc := hK.sub (tys' := []) [] rfl
          refine pci (va_runV (As := [.int (nI K), .int (nI N), .int (nI (li - q - 1))]) (rest := []) ⟨hx, hb, hml, hown, hg⟩ (c_X_numberLength l D x sw sr br bq bi ne li sp q lb K N (li - q - 1) (by omega) (by omega) (by omega)) (cwV 3 hg (gV gw_273 gw_275 gs_4 gw_1 gw_276) rfl rfl rfl (by decide +kernel) ⟨Nat.le_of_ble_eq_true rfl, Nat.le_of_ble_eq_true rfl⟩) ⟨fun a U g mk q => by obtain ⟨q0, qP, qK⟩ := q; exact ⟨q0, qP, va_K.moved (u := U) (U := U.calling g mk a) (Vm.Alike.refl U.vm) qK⟩, va_recv hKc hPc (ci := 4) (q0 := 0) rfl rfl, fun U hU hW => ⟨rfl, by rw [hU]; exact hPc, va_K.moved hW.alike hKc⟩⟩ rfl rfl hl.1 rfl (lv_room (Nat.le_of_ble_eq_true rfl)) d_X_code_59 (⟨Nat.le_of_ble_eq_true rfl, Nat.le_of_ble_eq_true rfl⟩)) ?_
          refine lv_istore (lv' := [(4, .int (nI (nlen q K N (li - q - 1)))), (3, .int (nI (li - q - 1))), (0, .ref x), (1, .int (nI K)), (2, .int (nI N))]) hx hb d_X_code_62 hl (by decide) rfl (fun ls hl => ?_)
          refine lv_aload_n hx hb d_X_code_64 rfl (lv_at hl 2 rfl) ?_
          refine va_get (D := D) (ci := 4) (v := .ref br) (C := R_X) (T := T_X) (N := 10) hx hb hg in_X hown hK hP 0 rfl rfl 7 (by decide) (hg _ gw_123) (fun _ h9 => h9) rfl d_X_code_65 ?_
          refine lv_iload hx hb d_X_code_68 (lv_at hl 0 rfl) ?_
          have hPc := hP.sub (ws' := [(br, .inr (1, [.ref ra, .int (nI u)])), (ra, .inl (cB, 6000, .inl f))]) [1, 2] rfl
          have hKc := hK.sub (tys' := [(cB, .byte)]) [0] rfl
          refine pci (va_runV (As := [.int (nI (nlen q K N (li - q - 1)))]) (rest := []) ⟨hx, hb, hml, hown, hg⟩ (c_B_hasRoom l D br ra cB u f (nlen q K N (li - q - 1)) (by omega) (by omega)) (cwV 1 hg (gV gw_277 gw_278 gw_279 gw_2 gw_280) rfl rfl rfl (by decide +kernel) ⟨Nat.le_of_ble_eq_true rfl, Nat.le_of_ble_eq_true rfl⟩) ⟨fun a U g mk q => by obtain ⟨q0, qP, qK⟩ := q; exact ⟨q0, qP, va_K.moved (u := U) (U := U.calling g mk a) (Vm.Alike.refl U.vm) qK⟩, va_recv hKc hPc (ci := 1) (q0 := 0) rfl rfl, fun U hU hW => ⟨rfl, by rw [hU]; exact hPc, va_K.moved hW.alike hKc⟩⟩ rfl rfl hl.1 rfl (lv_room (Nat.le_of_ble_eq_true rfl)) d_X_code_70 (⟨Nat.le_of_ble_eq_true rfl, Nat.le_of_ble_eq_true rfl⟩)) ?_
          refine tpi (y := 1) (if_pos hu) ?_
          refine lv_if_ne (tgt := 86) hx hb d_X_code_73 (by decide) (fun c_5 => ?_) (fun c_5 => ?_)
          · skip
            refine lv_aload_n hx hb d_X_code_86 rfl (lv_at hl 2 rfl) ?_
            refine lv_iload_n hx hb d_X_code_87 rfl (lv_at hl 3 rfl) ?_
            refine lv_iload_n hx hb d_X_code_88 rfl (lv_at hl 4 rfl) ?_
            refine lv_iload_n hx hb d_X_code_89 rfl (lv_at hl 1 rfl) ?_
            have hPc := hP.sub (ws' := [(x, .inr (4, [.int (nI bi), .int (nI ne), .int (nI li), .int (nI sp), .int (nI q), .ref sw, .ref sr, .ref br, .ref bq, .int lb])), (br, .inr (1, [.ref ra, .int (nI u)])), (ra, .inl (cB, 6000, .inl f))]) [0, 1, 2] rfl
            have hDc := hD.sub (ws' := [(x, .inr (4, [.int (nI bi), .int (nI ne), .int (nI li), .int (nI sp), .int (nI q), .ref sw, .ref sr, .ref br, .ref bq, .int lb])), (br, .inr (1, [.ref ra, .int (nI u)])), (ra, .inl (cB, 6000, .inl f))]) [0, 1, 2] (by decide) rfl
            have hKc := hK.sub (tys' := [(cB, .byte)]) [0] rfl
            refine mcv (va_runV (As := [.int (nI K), .int (nI N), .int (nI (li - q - 1))]) (rest := []) ⟨hx, hb, hml, hown, hg⟩ (c_X_writeNumber l D x sw sr br bq bi ne li sp q lb ra cB u f K N (li - q - 1) (by omega) (by omega) (by omega) (by omega) hu) (cwV 3 hg (gV gw_297 gw_299 gs_5 gw_1 gw_300) rfl rfl rfl (by decide +kernel) ⟨Nat.le_of_ble_eq_true rfl, Nat.le_of_ble_eq_true rfl⟩) ⟨fun a U g mk q => by obtain ⟨q0, qP, qK, qD⟩ := q; exact ⟨q0, qP, va_K.moved (u := U) (U := U.calling g mk a) (Vm.Alike.refl U.vm) qK, qD⟩, va_recv hKc hPc (ci := 4) (q0 := 0) rfl rfl, fun U hU hW => ⟨rfl, by rw [hU]; exact hPc, va_K.moved hW.alike hKc, hDc.weaken (fun _ _ _ _ => trivial)⟩⟩ rfl rfl hl.1 rfl (lv_room (Nat.le_of_ble_eq_true rfl)) d_X_code_90 (⟨Nat.le_of_ble_eq_true rfl, Nat.le_of_ble_eq_true rfl⟩)) hS hP hD [0, 1, 2] rfl rfl rfl (fun H locs hP hD hS => ?_)
            have hP : va_P D CLS [(x, .inr (4, [.int (nI bi), .int (nI ne), .int (nI li), .int (nI sp), .int (nI q), .ref sw, .ref sr, .ref br, .ref bq, .int lb])), (br, .inr (1, [.ref ra, .int (nI (u + nlen q K N (li - q - 1)))])), (ra, .inl (cB, 6000, .inl (wnum f q K N (li - q - 1) u)))] H := hP
            have hD : va_D A [(x, .inr (4, [.int (nI bi), .int (nI ne), .int (nI li), .int (nI sp), .int (nI q), .ref sw, .ref sr, .ref br, .ref bq, .int lb])), (br, .inr (1, [.ref ra, .int (nI (u + nlen q K N (li - q - 1)))])), (ra, .inl (cB, 6000, .inl (wnum f q K N (li - q - 1) u)))] := hD
            refine lv_iload hx hb d_X_code_93 (lv_at hl 0 rfl) ?_
            exact W.iret (v := nI (nlen q K N (li - q - 1))) hx hb hr (fun t ht hW => ⟨rfl, by rw [ht]; exact hP, (hAe ▸ hS).F ht⟩) (hAe ▸ hS).2.2 d_X_code_95
          · skip
            exact absurd c_5 (by decide)
        · skip
          exact absurd (nI_le hN (by omega)) c_4
    · skip
      exact absurd (nI_le hKq (by omega)) c_2
set_option maxHeartbeats 4000000 in
set_option maxRecDepth 100000 in
theorem c_X_readN (l : Launch) (D : va_G) (x sw sr br bq bi ne li sp q : Nat) (lb : Int32) (qa : Nat) (cB : ClassId) (fi h : Nat) (g : Nat → Int32) (tw K z : Nat) (hf : fi < 1000) (hh : h ≤ 1000) (hKq : K ≤ q) (hq : q ≤ 29) (hli : q + 1 ≤ li) (hlb : li ≤ 200) (hz1 : z ≤ (li - q - 1) + 1) (hz2 : z ≤ h) (hz3 : ∀ j, j < z → qb g fi h j = 0) (hz4 : z = (li - q - 1) + 1 ∨ z = h ∨ qb g fi h z ≠ 0) (hzN : z = (li - q - 1) + 1) : Met l y_X_read (WSY y_X_read b_X_read 2 (some .int)) ({ frames := 4, cells := 0, slots := 0, locals := 95 }) (va_Pc [.ref x, .int (nI K)] (fun U => va_P D CLS [(x, .inr (4, [.int (nI bi), .int (nI ne), .int (nI li), .int (nI sp), .int (nI q), .ref sw, .ref sr, .ref br, .ref bq, .int lb])), (bq, .inr (0, [.ref qa, .int (nI fi), .int (nI h)])), (qa, .inl (cB, 1000, .inl g))] U.heap ∧ va_K D CLS [(cB, .byte)] U ∧ va_D (fun _ => True) [(x, .inr (4, [.int (nI bi), .int (nI ne), .int (nI li), .int (nI sp), .int (nI q), .ref sw, .ref sr, .ref br, .ref bq, .int lb])), (bq, .inr (0, [.ref qa, .int (nI fi), .int (nI h)])), (qa, .inl (cB, 1000, .inl g))] ∧ EV (ad [(x, .inr (4, [.int (nI bi), .int (nI ne), .int (nI li), .int (nI sp), .int (nI q), .ref sw, .ref sr, .ref br, .ref bq, .int lb])), (bq, .inr (0, [.ref qa, .int (nI fi), .int (nI h)])), (qa, .inl (cB, 1000, .inl g))]) tw U)) (QM (some (.int (-2))) [(x, .inr (4, [.int (nI bi), .int (nI ne), .int (nI li), .int (nI sp), .int (nI q), .ref sw, .ref sr, .ref br, .ref bq, .int lb])), (bq, .inr (0, [.ref qa, .int (nI fi), .int (nI h)])), (qa, .inl (cB, 1000, .inl g))] [(x, .inr (4, [.int (nI bi), .int (nI ne), .int (nI li), .int (nI sp), .int (nI q), .ref sw, .ref sr, .ref br, .ref bq, .int lb])), (bq, .inr (0, [.ref qa, .int (nI (rpl fi ((li - q - 1) + 1))), .int (nI (h - ((li - q - 1) + 1)))])), (qa, .inl (cB, 1000, .inl g))] D) 0 0 (ad [(x, .inr (4, [.int (nI bi), .int (nI ne), .int (nI li), .int (nI sp), .int (nI q), .ref sw, .ref sr, .ref br, .ref bq, .int lb])), (bq, .inr (0, [.ref qa, .int (nI fi), .int (nI h)])), (qa, .inl (cB, 1000, .inl g))]) := by
  refine Met.ofW (cc := b_X_read) (maxL := 2) (ret := (some .int)) (by decide) rfl ?_
  intro p e s m args below meth c s₁ B hml hv
  obtain ⟨rfl, hP, hK, hD0, hE⟩ := hv
  have hx := B.exec
  have hb := B.bytes
  have hr := B.returns
  have hts := atoms_spec (ws := WSY y_X_read b_X_read 2 (some .int)) B.pre
  have hg : ∀ w ∈ GW, w.before _ s = true := fun w h => hts w (List.mem_cons_of_mem _ h)
  have hown : s.vm.findClass "LineGolomb" = some m.cls := findClass_of_methodNamed B.named
  have hlocks := B.notSynchronized
  obtain ⟨A, hAe⟩ : ∃ A, A = ad [(x, .inr (4, [.int (nI bi), .int (nI ne), .int (nI li), .int (nI sp), .int (nI q), .ref sw, .ref sr, .ref br, .ref bq, .int lb])), (bq, .inr (0, [.ref qa, .int (nI fi), .int (nI h)])), (qa, .inl (cB, 1000, .inl g))] := ⟨_, rfl⟩
  have hD : va_D A [(x, .inr (4, [.int (nI bi), .int (nI ne), .int (nI li), .int (nI sp), .int (nI q), .ref sw, .ref sr, .ref br, .ref bq, .int lb])), (bq, .inr (0, [.ref qa, .int (nI fi), .int (nI h)])), (qa, .inl (cB, 1000, .inl g))] := by rw [hAe]; exact va_D_ad hD0
  have hS : va_S A s.heap s.heap [] := va_S.rf
  rw [← hAe] at hE
  have hl := lv_entry ([.ref x, .int (nI K)]) (n := 2) (Nat.le_of_ble_eq_true rfl)
  rw [lg_entry_eq]
  generalize (lg_sl ([.ref x, .int (nI K)]) ++ List.replicate (2 - (lg_sl ([.ref x, .int (nI K)])).length) Slot.unset).toArray = ls at hl ⊢
  have hl : lv_has ls 2 [(0, .ref x), (1, .int (nI K))] := hl
  refine lv_iload_n hx hb d_X_read_0 rfl (lv_at hl 1 rfl) ?_
  refine lv_if_lt (tgt := 12) hx hb d_X_read_1 (by decide) (fun c_1 => ?_) (fun c_1 => ?_)
  · skip
    exact absurd c_1 (nI_pos (by omega))
  · skip
    refine lv_iload_n hx hb d_X_read_4 rfl (lv_at hl 1 rfl) ?_
    refine lv_aload_n hx hb d_X_read_5 rfl (lv_at hl 0 rfl) ?_
    refine va_get (D := D) (ci := 4) (v := .int (nI q)) (C := R_X) (T := T_X) (N := 10) hx hb hg in_X hown hK hP 0 rfl rfl 4 (by decide) (hg _ gw_120) (fun _ h9 => h9) rfl d_X_read_6 ?_
    refine lv_icmp_le (tgt := 22) hx hb d_X_read_9 (by decide) (fun c_2 => ?_) (fun c_2 => ?_)
    · skip
      refine lv_aload_n hx hb d_X_read_22 rfl (lv_at hl 0 rfl) ?_
      refine lv_iload_n hx hb d_X_read_23 rfl (lv_at hl 1 rfl) ?_
      refine lv_aload_n hx hb d_X_read_24 rfl (lv_at hl 0 rfl) ?_
      refine lv_aload_n hx hb d_X_read_25 rfl (lv_at hl 0 rfl) ?_
      refine va_get (D := D) (ci := 4) (v := .int (nI li)) (C := R_X) (T := T_X) (N := 10) hx hb hg in_X hown hK hP 0 rfl rfl 2 (by decide) (hg _ gw_118) (fun _ h9 => h9) rfl d_X_read_26 ?_
      have hPc := hP.sub (ws' := [(x, .inr (4, [.int (nI bi), .int (nI ne), .int (nI li), .int (nI sp), .int (nI q), .ref sw, .ref sr, .ref br, .ref bq, .int lb]))]) [0] rfl
      have hKc := hK.sub (tys' := []) [] rfl
      refine pci (va_runV (As := [.int (nI li)]) (rest := [.int (nI K), .ref x]) ⟨hx, hb, hml, hown, hg⟩ (c_X_mostZeros l D x sw sr br bq bi ne li sp q lb li hli) (cwV 1 hg (gV gw_269 gw_271 gs_3 gw_1 gw_272) rfl rfl rfl (by decide +kernel) ⟨Nat.le_of_ble_eq_true rfl, Nat.le_of_ble_eq_true rfl⟩) ⟨fun a U g mk q => by obtain ⟨q0, qP, qK⟩ := q; exact ⟨q0, qP, va_K.moved (u := U) (U := U.calling g mk a) (Vm.Alike.refl U.vm) qK⟩, va_recv hKc hPc (ci := 4) (q0 := 0) rfl rfl, fun U hU hW => ⟨rfl, by rw [hU]; exact hPc, va_K.moved hW.alike hKc⟩⟩ rfl rfl hl.1 rfl (lv_room (Nat.le_of_ble_eq_true rfl)) d_X_read_29 (⟨Nat.le_of_ble_eq_true rfl, Nat.le_of_ble_eq_true rfl⟩)) ?_
      have hPc := hP.sub (ws' := [(x, .inr (4, [.int (nI bi), .int (nI ne), .int (nI li), .int (nI sp), .int (nI q), .ref sw, .ref sr, .ref br, .ref bq, .int lb])), (bq, .inr (0, [.ref qa, .int (nI fi), .int (nI h)])), (qa, .inl (cB, 1000, .inl g))]) [0, 1, 2] rfl
      have hDc := hD.sub (ws' := [(x, .inr (4, [.int (nI bi), .int (nI ne), .int (nI li), .int (nI sp), .int (nI q), .ref sw, .ref sr, .ref br, .ref bq, .int lb])), (bq, .inr (0, [.ref qa, .int (nI fi), .int (nI h)])), (qa, .inl (cB, 1000, .inl g))]) [0, 1, 2] (by decide) rfl
      have hKc := hK.sub (tys' := [(cB, .byte)]) [0] rfl
      refine mci (va_runV (As := [.int (nI K), .int (nI (li - q - 1))]) (rest := []) ⟨hx, hb, hml, hown, hg⟩ (c_X_takeNumberN l D x sw sr br bq bi ne li sp q lb qa cB fi h g tw K (li - q - 1) z hf hh (by omega) (by omega) (by omega) hz1 hz2 hz3 hz4 hzN) (cwV 2 hg (gV gw_437 gw_439 gs_9 gw_1 gw_440) rfl rfl rfl (by decide +kernel) ⟨Nat.le_of_ble_eq_true rfl, Nat.le_of_ble_eq_true rfl⟩) ⟨fun a U g mk q => by obtain ⟨q0, qP, qK, qD, qX⟩ := q; exact ⟨q0, qP, va_K.moved (u := U) (U := U.calling g mk a) (Vm.Alike.refl U.vm) qK, qD, qX.blind⟩, va_recv hKc hPc (ci := 4) (q0 := 0) rfl rfl, fun U hU hW => ⟨rfl, by rw [hU]; exact hPc, va_K.moved hW.alike hKc, hDc.weaken (fun _ _ _ _ => trivial), hE.call hS (ad_sub hD [0, 1, 2] rfl) hU hW⟩⟩ rfl rfl hl.1 rfl (lv_room (Nat.le_of_ble_eq_true rfl)) d_X_read_32 (⟨Nat.le_of_ble_eq_true rfl, Nat.le_of_ble_eq_true rfl⟩)) hS hP hD [0, 1, 2] rfl rfl rfl (fun H locs hP hD hS => ?_)
      have hP : va_P D CLS [(x, .inr (4, [.int (nI bi), .int (nI ne), .int (nI li), .int (nI sp), .int (nI q), .ref sw, .ref sr, .ref br, .ref bq, .int lb])), (bq, .inr (0, [.ref qa, .int (nI (rpl fi ((li - q - 1) + 1))), .int (nI (h - ((li - q - 1) + 1)))])), (qa, .inl (cB, 1000, .inl g))] H := hP
      have hD : va_D A [(x, .inr (4, [.int (nI bi), .int (nI ne), .int (nI li), .int (nI sp), .int (nI q), .ref sw, .ref sr, .ref br, .ref bq, .int lb])), (bq, .inr (0, [.ref qa, .int (nI (rpl fi ((li - q - 1) + 1))), .int (nI (h - ((li - q - 1) + 1)))])), (qa, .inl (cB, 1000, .inl g))] := hD
      exact W.iret (v := -2) hx hb hr (fun t ht hW => ⟨rfl, by rw [ht]; exact hP, (hAe ▸ hS).F ht⟩) (hAe ▸ hS).2.2 d_X_read_35
    · skip
      exact absurd (nI_le hKq (by omega)) c_2
set_option maxHeartbeats 4000000 in
set_option maxRecDepth 100000 in
theorem c_X_readW (l : Launch) (D : va_G) (x sw sr br bq bi ne li sp q : Nat) (lb : Int32) (qa : Nat) (cB : ClassId) (fi h : Nat) (g : Nat → Int32) (tw K z : Nat) (hf : fi < 1000) (hh : h ≤ 1000) (hKq : K ≤ q) (hq : q ≤ 29) (hli : q + 1 ≤ li) (hlb : li ≤ 200) (hz1 : z ≤ (li - q - 1) + 1) (hz2 : z ≤ h) (hz3 : ∀ j, j < z → qb g fi h j = 0) (hz4 : z = (li - q - 1) + 1 ∨ z = h ∨ qb g fi h z ≠ 0) (hzm : z ≤ (li - q - 1)) (hw : h < z + 1 + tln q K (li - q - 1) z) : Met l y_X_read (WSY y_X_read b_X_read 2 (some .int)) ({ frames := 4, cells := 0, slots := 0, locals := 95 }) (va_Pc [.ref x, .int (nI K)] (fun U => va_P D CLS [(x, .inr (4, [.int (nI bi), .int (nI ne), .int (nI li), .int (nI sp), .int (nI q), .ref sw, .ref sr, .ref br, .ref bq, .int lb])), (bq, .inr (0, [.ref qa, .int (nI fi), .int (nI h)])), (qa, .inl (cB, 1000, .inl g))] U.heap ∧ va_K D CLS [(cB, .byte)] U ∧ va_D (fun _ => True) [(x, .inr (4, [.int (nI bi), .int (nI ne), .int (nI li), .int (nI sp), .int (nI q), .ref sw, .ref sr, .ref br, .ref bq, .int lb])), (bq, .inr (0, [.ref qa, .int (nI fi), .int (nI h)])), (qa, .inl (cB, 1000, .inl g))] ∧ EV (ad [(x, .inr (4, [.int (nI bi), .int (nI ne), .int (nI li), .int (nI sp), .int (nI q), .ref sw, .ref sr, .ref br, .ref bq, .int lb])), (bq, .inr (0, [.ref qa, .int (nI fi), .int (nI h)])), (qa, .inl (cB, 1000, .inl g))]) tw U)) (QM (some (.int (-1))) [(x, .inr (4, [.int (nI bi), .int (nI ne), .int (nI li), .int (nI sp), .int (nI q), .ref sw, .ref sr, .ref br, .ref bq, .int lb])), (bq, .inr (0, [.ref qa, .int (nI fi), .int (nI h)])), (qa, .inl (cB, 1000, .inl g))] [(x, .inr (4, [.int (nI bi), .int (nI ne), .int (nI li), .int (nI sp), .int (nI q), .ref sw, .ref sr, .ref br, .ref bq, .int lb])), (bq, .inr (0, [.ref qa, .int (nI fi), .int (nI h)])), (qa, .inl (cB, 1000, .inl g))] D) 0 0 (ad [(x, .inr (4, [.int (nI bi), .int (nI ne), .int (nI li), .int (nI sp), .int (nI q), .ref sw, .ref sr, .ref br, .ref bq, .int lb])), (bq, .inr (0, [.ref qa, .int (nI fi), .int (nI h)])), (qa, .inl (cB, 1000, .inl g))]) := by
  refine Met.ofW (cc := b_X_read) (maxL := 2) (ret := (some .int)) (by decide) rfl ?_
  intro p e s m args below meth c s₁ B hml hv
  obtain ⟨rfl, hP, hK, hD0, hE⟩ := hv
  have hx := B.exec
  have hb := B.bytes
  have hr := B.returns
  have hts := atoms_spec (ws := WSY y_X_read b_X_read 2 (some .int)) B.pre
  have hg : ∀ w ∈ GW, w.before _ s = true := fun w h => hts w (List.mem_cons_of_mem _ h)
  have hown : s.vm.findClass "LineGolomb" = some m.cls := findClass_of_methodNamed B.named
  have hlocks := B.notSynchronized
  obtain ⟨A, hAe⟩ : ∃ A, A = ad [(x, .inr (4, [.int (nI bi), .int (nI ne), .int (nI li), .int (nI sp), .int (nI q), .ref sw, .ref sr, .ref br, .ref bq, .int lb])), (bq, .inr (0, [.ref qa, .int (nI fi), .int (nI h)])), (qa, .inl (cB, 1000, .inl g))] := ⟨_, rfl⟩
  have hD : va_D A [(x, .inr (4, [.int (nI bi), .int (nI ne), .int (nI li), .int (nI sp), .int (nI q), .ref sw, .ref sr, .ref br, .ref bq, .int lb])), (bq, .inr (0, [.ref qa, .int (nI fi), .int (nI h)])), (qa, .inl (cB, 1000, .inl g))] := by rw [hAe]; exact va_D_ad hD0
  have hS : va_S A s.heap s.heap [] := va_S.rf
  rw [← hAe] at hE
  have hl := lv_entry ([.ref x, .int (nI K)]) (n := 2) (Nat.le_of_ble_eq_true rfl)
  rw [lg_entry_eq]
  generalize (lg_sl ([.ref x, .int (nI K)]) ++ List.replicate (2 - (lg_sl ([.ref x, .int (nI K)])).length) Slot.unset).toArray = ls at hl ⊢
  have hl : lv_has ls 2 [(0, .ref x), (1, .int (nI K))] := hl
  refine lv_iload_n hx hb d_X_read_0 rfl (lv_at hl 1 rfl) ?_
  refine lv_if_lt (tgt := 12) hx hb d_X_read_1 (by decide) (fun c_1 => ?_) (fun c_1 => ?_)
  · skip
    exact absurd c_1 (nI_pos (by omega))
  · skip
    refine lv_iload_n hx hb d_X_read_4 rfl (lv_at hl 1 rfl) ?_
    refine lv_aload_n hx hb d_X_read_5 rfl (lv_at hl 0 rfl) ?_
    refine va_get (D := D) (ci := 4) (v := .int (nI q)) (C := R_X) (T := T_X) (N := 10) hx hb hg in_X hown hK hP 0 rfl rfl 4 (by decide) (hg _ gw_120) (fun _ h9 => h9) rfl d_X_read_6 ?_
    refine lv_icmp_le (tgt := 22) hx hb d_X_read_9 (by decide) (fun c_2 => ?_) (fun c_2 => ?_)
    · skip
      refine lv_aload_n hx hb d_X_read_22 rfl (lv_at hl 0 rfl) ?_
      refine lv_iload_n hx hb d_X_read_23 rfl (lv_at hl 1 rfl) ?_
      refine lv_aload_n hx hb d_X_read_24 rfl (lv_at hl 0 rfl) ?_
      refine lv_aload_n hx hb d_X_read_25 rfl (lv_at hl 0 rfl) ?_
      refine va_get (D := D) (ci := 4) (v := .int (nI li)) (C := R_X) (T := T_X) (N := 10) hx hb hg in_X hown hK hP 0 rfl rfl 2 (by decide) (hg _ gw_118) (fun _ h9 => h9) rfl d_X_read_26 ?_
      have hPc := hP.sub (ws' := [(x, .inr (4, [.int (nI bi), .int (nI ne), .int (nI li), .int (nI sp), .int (nI q), .ref sw, .ref sr, .ref br, .ref bq, .int lb]))]) [0] rfl
      have hKc := hK.sub (tys' := []) [] rfl
      refine pci (va_runV (As := [.int (nI li)]) (rest := [.int (nI K), .ref x]) ⟨hx, hb, hml, hown, hg⟩ (c_X_mostZeros l D x sw sr br bq bi ne li sp q lb li hli) (cwV 1 hg (gV gw_269 gw_271 gs_3 gw_1 gw_272) rfl rfl rfl (by decide +kernel) ⟨Nat.le_of_ble_eq_true rfl, Nat.le_of_ble_eq_true rfl⟩) ⟨fun a U g mk q => by obtain ⟨q0, qP, qK⟩ := q; exact ⟨q0, qP, va_K.moved (u := U) (U := U.calling g mk a) (Vm.Alike.refl U.vm) qK⟩, va_recv hKc hPc (ci := 4) (q0 := 0) rfl rfl, fun U hU hW => ⟨rfl, by rw [hU]; exact hPc, va_K.moved hW.alike hKc⟩⟩ rfl rfl hl.1 rfl (lv_room (Nat.le_of_ble_eq_true rfl)) d_X_read_29 (⟨Nat.le_of_ble_eq_true rfl, Nat.le_of_ble_eq_true rfl⟩)) ?_
      have hPc := hP.sub (ws' := [(x, .inr (4, [.int (nI bi), .int (nI ne), .int (nI li), .int (nI sp), .int (nI q), .ref sw, .ref sr, .ref br, .ref bq, .int lb])), (bq, .inr (0, [.ref qa, .int (nI fi), .int (nI h)])), (qa, .inl (cB, 1000, .inl g))]) [0, 1, 2] rfl
      have hDc := hD.sub (ws' := [(x, .inr (4, [.int (nI bi), .int (nI ne), .int (nI li), .int (nI sp), .int (nI q), .ref sw, .ref sr, .ref br, .ref bq, .int lb])), (bq, .inr (0, [.ref qa, .int (nI fi), .int (nI h)])), (qa, .inl (cB, 1000, .inl g))]) [0, 1, 2] (by decide) rfl
      have hKc := hK.sub (tys' := [(cB, .byte)]) [0] rfl
      refine mci (va_runV (As := [.int (nI K), .int (nI (li - q - 1))]) (rest := []) ⟨hx, hb, hml, hown, hg⟩ (c_X_takeNumberW l D x sw sr br bq bi ne li sp q lb qa cB fi h g tw K (li - q - 1) z hf hh (by omega) (by omega) (by omega) hz1 hz2 hz3 hz4 hzm hw) (cwV 2 hg (gV gw_437 gw_439 gs_9 gw_1 gw_440) rfl rfl rfl (by decide +kernel) ⟨Nat.le_of_ble_eq_true rfl, Nat.le_of_ble_eq_true rfl⟩) ⟨fun a U g mk q => by obtain ⟨q0, qP, qK, qD, qX⟩ := q; exact ⟨q0, qP, va_K.moved (u := U) (U := U.calling g mk a) (Vm.Alike.refl U.vm) qK, qD, qX.blind⟩, va_recv hKc hPc (ci := 4) (q0 := 0) rfl rfl, fun U hU hW => ⟨rfl, by rw [hU]; exact hPc, va_K.moved hW.alike hKc, hDc.weaken (fun _ _ _ _ => trivial), hE.call hS (ad_sub hD [0, 1, 2] rfl) hU hW⟩⟩ rfl rfl hl.1 rfl (lv_room (Nat.le_of_ble_eq_true rfl)) d_X_read_32 (⟨Nat.le_of_ble_eq_true rfl, Nat.le_of_ble_eq_true rfl⟩)) hS hP hD [0, 1, 2] rfl rfl rfl (fun H locs hP hD hS => ?_)
      have hP : va_P D CLS [(x, .inr (4, [.int (nI bi), .int (nI ne), .int (nI li), .int (nI sp), .int (nI q), .ref sw, .ref sr, .ref br, .ref bq, .int lb])), (bq, .inr (0, [.ref qa, .int (nI fi), .int (nI h)])), (qa, .inl (cB, 1000, .inl g))] H := hP
      have hD : va_D A [(x, .inr (4, [.int (nI bi), .int (nI ne), .int (nI li), .int (nI sp), .int (nI q), .ref sw, .ref sr, .ref br, .ref bq, .int lb])), (bq, .inr (0, [.ref qa, .int (nI fi), .int (nI h)])), (qa, .inl (cB, 1000, .inl g))] := hD
      exact W.iret (v := -1) hx hb hr (fun t ht hW => ⟨rfl, by rw [ht]; exact hP, (hAe ▸ hS).F ht⟩) (hAe ▸ hS).2.2 d_X_read_35
    · skip
      exact absurd (nI_le hKq (by omega)) c_2
set_option maxHeartbeats 4000000 in
set_option maxRecDepth 100000 in
theorem c_X_readG (l : Launch) (D : va_G) (x sw sr br bq bi ne li sp q : Nat) (lb : Int32) (qa : Nat) (cB : ClassId) (fi h : Nat) (g : Nat → Int32) (tw K z : Nat) (hf : fi < 1000) (hh : h ≤ 1000) (hKq : K ≤ q) (hq : q ≤ 29) (hli : q + 1 ≤ li) (hlb : li ≤ 200) (hz1 : z ≤ (li - q - 1) + 1) (hz2 : z ≤ h) (hz3 : ∀ j, j < z → qb g fi h j = 0) (hz4 : z = (li - q - 1) + 1 ∨ z = h ∨ qb g fi h z ≠ 0) (hzm : z ≤ (li - q - 1)) (hw : z + 1 + tln q K (li - q - 1) z ≤ h) (hzk : z * 2 ^ K < 2 ^ 31) : Met l y_X_read (WSY y_X_read b_X_read 2 (some .int)) ({ frames := 4, cells := 0, slots := 0, locals := 95 }) (va_Pc [.ref x, .int (nI K)] (fun U => va_P D CLS [(x, .inr (4, [.int (nI bi), .int (nI ne), .int (nI li), .int (nI sp), .int (nI q), .ref sw, .ref sr, .ref br, .ref bq, .int lb])), (bq, .inr (0, [.ref qa, .int (nI fi), .int (nI h)])), (qa, .inl (cB, 1000, .inl g))] U.heap ∧ va_K D CLS [(cB, .byte)] U ∧ va_D (fun _ => True) [(x, .inr (4, [.int (nI bi), .int (nI ne), .int (nI li), .int (nI sp), .int (nI q), .ref sw, .ref sr, .ref br, .ref bq, .int lb])), (bq, .inr (0, [.ref qa, .int (nI fi), .int (nI h)])), (qa, .inl (cB, 1000, .inl g))] ∧ EV (ad [(x, .inr (4, [.int (nI bi), .int (nI ne), .int (nI li), .int (nI sp), .int (nI q), .ref sw, .ref sr, .ref br, .ref bq, .int lb])), (bq, .inr (0, [.ref qa, .int (nI fi), .int (nI h)])), (qa, .inl (cB, 1000, .inl g))]) tw U)) (QM (some (.int (rnum (qb g fi h) q K (li - q - 1) z))) [(x, .inr (4, [.int (nI bi), .int (nI ne), .int (nI li), .int (nI sp), .int (nI q), .ref sw, .ref sr, .ref br, .ref bq, .int lb])), (bq, .inr (0, [.ref qa, .int (nI fi), .int (nI h)])), (qa, .inl (cB, 1000, .inl g))] [(x, .inr (4, [.int (nI bi), .int (nI ne), .int (nI li), .int (nI sp), .int (nI q), .ref sw, .ref sr, .ref br, .ref bq, .int lb])), (bq, .inr (0, [.ref qa, .int (nI (rpl fi (z + 1 + tln q K (li - q - 1) z))), .int (nI (h - (z + 1 + tln q K (li - q - 1) z)))])), (qa, .inl (cB, 1000, .inl g))] D) 0 0 (ad [(x, .inr (4, [.int (nI bi), .int (nI ne), .int (nI li), .int (nI sp), .int (nI q), .ref sw, .ref sr, .ref br, .ref bq, .int lb])), (bq, .inr (0, [.ref qa, .int (nI fi), .int (nI h)])), (qa, .inl (cB, 1000, .inl g))]) := by
  refine Met.ofW (cc := b_X_read) (maxL := 2) (ret := (some .int)) (by decide) rfl ?_
  intro p e s m args below meth c s₁ B hml hv
  obtain ⟨rfl, hP, hK, hD0, hE⟩ := hv
  have hx := B.exec
  have hb := B.bytes
  have hr := B.returns
  have hts := atoms_spec (ws := WSY y_X_read b_X_read 2 (some .int)) B.pre
  have hg : ∀ w ∈ GW, w.before _ s = true := fun w h => hts w (List.mem_cons_of_mem _ h)
  have hown : s.vm.findClass "LineGolomb" = some m.cls := findClass_of_methodNamed B.named
  have hlocks := B.notSynchronized
  obtain ⟨A, hAe⟩ : ∃ A, A = ad [(x, .inr (4, [.int (nI bi), .int (nI ne), .int (nI li), .int (nI sp), .int (nI q), .ref sw, .ref sr, .ref br, .ref bq, .int lb])), (bq, .inr (0, [.ref qa, .int (nI fi), .int (nI h)])), (qa, .inl (cB, 1000, .inl g))] := ⟨_, rfl⟩
  have hD : va_D A [(x, .inr (4, [.int (nI bi), .int (nI ne), .int (nI li), .int (nI sp), .int (nI q), .ref sw, .ref sr, .ref br, .ref bq, .int lb])), (bq, .inr (0, [.ref qa, .int (nI fi), .int (nI h)])), (qa, .inl (cB, 1000, .inl g))] := by rw [hAe]; exact va_D_ad hD0
  have hS : va_S A s.heap s.heap [] := va_S.rf
  rw [← hAe] at hE
  have hl := lv_entry ([.ref x, .int (nI K)]) (n := 2) (Nat.le_of_ble_eq_true rfl)
  rw [lg_entry_eq]
  generalize (lg_sl ([.ref x, .int (nI K)]) ++ List.replicate (2 - (lg_sl ([.ref x, .int (nI K)])).length) Slot.unset).toArray = ls at hl ⊢
  have hl : lv_has ls 2 [(0, .ref x), (1, .int (nI K))] := hl
  refine lv_iload_n hx hb d_X_read_0 rfl (lv_at hl 1 rfl) ?_
  refine lv_if_lt (tgt := 12) hx hb d_X_read_1 (by decide) (fun c_1 => ?_) (fun c_1 => ?_)
  · skip
    exact absurd c_1 (nI_pos (by omega))
  · skip
    refine lv_iload_n hx hb d_X_read_4 rfl (lv_at hl 1 rfl) ?_
    refine lv_aload_n hx hb d_X_read_5 rfl (lv_at hl 0 rfl) ?_
    refine va_get (D := D) (ci := 4) (v := .int (nI q)) (C := R_X) (T := T_X) (N := 10) hx hb hg in_X hown hK hP 0 rfl rfl 4 (by decide) (hg _ gw_120) (fun _ h9 => h9) rfl d_X_read_6 ?_
    refine lv_icmp_le (tgt := 22) hx hb d_X_read_9 (by decide) (fun c_2 => ?_) (fun c_2 => ?_)
    · skip
      refine lv_aload_n hx hb d_X_read_22 rfl (lv_at hl 0 rfl) ?_
      refine lv_iload_n hx hb d_X_read_23 rfl (lv_at hl 1 rfl) ?_
      refine lv_aload_n hx hb d_X_read_24 rfl (lv_at hl 0 rfl) ?_
      refine lv_aload_n hx hb d_X_read_25 rfl (lv_at hl 0 rfl) ?_
      refine va_get (D := D) (ci := 4) (v := .int (nI li)) (C := R_X) (T := T_X) (N := 10) hx hb hg in_X hown hK hP 0 rfl rfl 2 (by decide) (hg _ gw_118) (fun _ h9 => h9) rfl d_X_read_26 ?_
      have hPc := hP.sub (ws' := [(x, .inr (4, [.int (nI bi), .int (nI ne), .int (nI li), .int (nI sp), .int (nI q), .ref sw, .ref sr, .ref br, .ref bq, .int lb]))]) [0] rfl
      have hKc := hK.sub (tys' := []) [] rfl
      refine pci (va_runV (As := [.int (nI li)]) (rest := [.int (nI K), .ref x]) ⟨hx, hb, hml, hown, hg⟩ (c_X_mostZeros l D x sw sr br bq bi ne li sp q lb li hli) (cwV 1 hg (gV gw_269 gw_271 gs_3 gw_1 gw_272) rfl rfl rfl (by decide +kernel) ⟨Nat.le_of_ble_eq_true rfl, Nat.le_of_ble_eq_true rfl⟩) ⟨fun a U g mk q => by obtain ⟨q0, qP, qK⟩ := q; exact ⟨q0, qP, va_K.moved (u := U) (U := U.calling g mk a) (Vm.Alike.refl U.vm) qK⟩, va_recv hKc hPc (ci := 4) (q0 := 0) rfl rfl, fun U hU hW => ⟨rfl, by rw [hU]; exact hPc, va_K.moved hW.alike hKc⟩⟩ rfl rfl hl.1 rfl (lv_room (Nat.le_of_ble_eq_true rfl)) d_X_read_29 (⟨Nat.le_of_ble_eq_true rfl, Nat.le_of_ble_eq_true rfl⟩)) ?_
      have hPc := hP.sub (ws' := [(x, .inr (4, [.int (nI bi), .int (nI ne), .int (nI li), .int (nI sp), .int (nI q), .ref sw, .ref sr, .ref br, .ref bq, .int lb])), (bq, .inr (0, [.ref qa, .int (nI fi), .int (nI h)])), (qa, .inl (cB, 1000, .inl g))]) [0, 1, 2] rfl
      have hDc := hD.sub (ws' := [(x, .inr (4, [.int (nI bi), .int (nI ne), .int (nI li), .int (nI sp), .int (nI q), .ref sw, .ref sr, .ref br, .ref bq, .int lb])), (bq, .inr (0, [.ref qa, .int (nI fi), .int (nI h)])), (qa, .inl (cB, 1000, .inl g))]) [0, 1, 2] (by decide) rfl
      have hKc := hK.sub (tys' := [(cB, .byte)]) [0] rfl
      refine mci (va_runV (As := [.int (nI K), .int (nI (li - q - 1))]) (rest := []) ⟨hx, hb, hml, hown, hg⟩ (c_X_takeNumberG l D x sw sr br bq bi ne li sp q lb qa cB fi h g tw K (li - q - 1) z hf hh (by omega) (by omega) (by omega) hz1 hz2 hz3 hz4 hzm hw hzk) (cwV 2 hg (gV gw_437 gw_439 gs_9 gw_1 gw_440) rfl rfl rfl (by decide +kernel) ⟨Nat.le_of_ble_eq_true rfl, Nat.le_of_ble_eq_true rfl⟩) ⟨fun a U g mk q => by obtain ⟨q0, qP, qK, qD, qX⟩ := q; exact ⟨q0, qP, va_K.moved (u := U) (U := U.calling g mk a) (Vm.Alike.refl U.vm) qK, qD, qX.blind⟩, va_recv hKc hPc (ci := 4) (q0 := 0) rfl rfl, fun U hU hW => ⟨rfl, by rw [hU]; exact hPc, va_K.moved hW.alike hKc, hDc.weaken (fun _ _ _ _ => trivial), hE.call hS (ad_sub hD [0, 1, 2] rfl) hU hW⟩⟩ rfl rfl hl.1 rfl (lv_room (Nat.le_of_ble_eq_true rfl)) d_X_read_32 (⟨Nat.le_of_ble_eq_true rfl, Nat.le_of_ble_eq_true rfl⟩)) hS hP hD [0, 1, 2] rfl rfl rfl (fun H locs hP hD hS => ?_)
      have hP : va_P D CLS [(x, .inr (4, [.int (nI bi), .int (nI ne), .int (nI li), .int (nI sp), .int (nI q), .ref sw, .ref sr, .ref br, .ref bq, .int lb])), (bq, .inr (0, [.ref qa, .int (nI (rpl fi (z + 1 + tln q K (li - q - 1) z))), .int (nI (h - (z + 1 + tln q K (li - q - 1) z)))])), (qa, .inl (cB, 1000, .inl g))] H := hP
      have hD : va_D A [(x, .inr (4, [.int (nI bi), .int (nI ne), .int (nI li), .int (nI sp), .int (nI q), .ref sw, .ref sr, .ref br, .ref bq, .int lb])), (bq, .inr (0, [.ref qa, .int (nI (rpl fi (z + 1 + tln q K (li - q - 1) z))), .int (nI (h - (z + 1 + tln q K (li - q - 1) z)))])), (qa, .inl (cB, 1000, .inl g))] := hD
      exact W.iret (v := rnum (qb g fi h) q K (li - q - 1) z) hx hb hr (fun t ht hW => ⟨rfl, by rw [ht]; exact hP, (hAe ▸ hS).F ht⟩) (hAe ▸ hS).2.2 d_X_read_35
    · skip
      exact absurd (nI_le hKq (by omega)) c_2
