/-! LineGolombModel: the public methods -/
theorem fil01 {f : Nat → Int32} {b : Int32} {u : Nat} (hb : b = 0 ∨ b = 1) : ∀ n, (∀ j, u ≤ j → j < u + n → fil f b u n j = 0 ∨ fil f b u n j = 1) ∧ ∀ j, (j < u ∨ u + n ≤ j) → fil f b u n j = f j
  | 0 => ⟨fun j h1 h2 => by omega, fun _ _ => rfl⟩
  | n + 1 => by
    obtain ⟨h1, h2⟩ := fil01 (f := f) (u := u) hb n
    refine ⟨fun j g1 g2 => ?_, fun j g => ?_⟩
    · show upd _ _ _ j = 0 ∨ upd _ _ _ j = 1
      by_cases e : j = u + n
      · subst e; rw [pk_us]; exact hb
      · rw [pk_un e]; exact h1 j g1 (by omega)
    · show upd _ _ _ j = _
      rw [pk_un (by omega)]; exact h2 j (by omega)
theorem flw01 {f : Nat → Int32} {v : Int32} {w u : Nat} : ∀ n, (∀ j, u ≤ j → j < u + n → flw f v w u n j = 0 ∨ flw f v w u n j = 1) ∧ ∀ j, (j < u ∨ u + n ≤ j) → flw f v w u n j = f j
  | 0 => ⟨fun j h1 h2 => by omega, fun _ _ => rfl⟩
  | n + 1 => by
    obtain ⟨h1, h2⟩ := flw01 (f := f) (v := v) (w := w) (u := u) n
    refine ⟨fun j g1 g2 => ?_, fun j g => ?_⟩
    · show upd _ _ _ j = 0 ∨ upd _ _ _ j = 1
      by_cases e : j = u + n
      · subst e; rw [pk_us]; exact bitv01 _ _
      · rw [pk_un e]; exact h1 j g1 (by omega)
    · show upd _ _ _ j = _
      rw [pk_un (by omega)]; exact h2 j (by omega)
theorem wnum01 {f : Nat → Int32} {q K N mo u : Nat} : ∀ j, u ≤ j → j < u + nlen q K N mo → wnum f q K N mo u j = 0 ∨ wnum f q K N mo u j = 1 := by
  have go : ∀ (z w : Nat) (v : Int32) (j : Nat), u ≤ j → j < u + (z + 1 + w) → flw (fil (fil f 0 u z) 1 (u + z) 1) v w (u + z + 1) w j = 0 ∨ flw (fil (fil f 0 u z) 1 (u + z) 1) v w (u + z + 1) w j = 1 := by
    intro z w v j g1 g2
    obtain ⟨a1, a2⟩ := flw01 (f := fil (fil f 0 u z) 1 (u + z) 1) (v := v) (w := w) (u := u + z + 1) w
    obtain ⟨b1, b2⟩ := fil01 (f := fil f 0 u z) (b := 1) (u := u + z) (Or.inr rfl) 1
    obtain ⟨c1, c2⟩ := fil01 (f := f) (b := 0) (u := u) (Or.inl rfl) z
    by_cases h1 : u + z + 1 ≤ j
    · exact a1 j h1 (by omega)
    · rw [a2 j (by omega)]
      by_cases h2 : u + z ≤ j
      · exact b1 j h2 (by omega)
      · rw [b2 j (by omega)]; exact c1 j g1 (by omega)
  intro j g1 g2
  unfold nlen at g2
  unfold wnum
  split <;> rename_i h
  · rw [if_pos h] at g2; exact go _ _ _ j g1 g2
  · rw [if_neg h] at g2; exact go _ _ _ j g1 g2
set_option maxHeartbeats 4000000 in
set_option maxRecDepth 100000 in
theorem c_M_size (l : Launch) (D : va_G) (y ms mw mu mc mn mr mq md bi ne li sp q sz wa : Nat) (th en la at0 lk : Int32) : Met l y_M_size (WSY y_M_size b_M_size 1 (some .int)) ({ frames := 0, cells := 0, slots := 0, locals := 0 }) (va_Pc [.ref y] (fun U => va_P D CLS [(y, .inr (5, [.int th, .int (nI bi), .int (nI ne), .int (nI li), .int (nI sp), .int (nI q), .ref ms, .ref mw, .ref mu, .ref mc, .ref mn, .int en, .int (nI sz), .ref mr, .int (nI wa), .ref mq, .int la, .ref md, .int at0, .int lk]))] U.heap ∧ va_K D CLS [] U ∧ va_D (fun _ => True) [(y, .inr (5, [.int th, .int (nI bi), .int (nI ne), .int (nI li), .int (nI sp), .int (nI q), .ref ms, .ref mw, .ref mu, .ref mc, .ref mn, .int en, .int (nI sz), .ref mr, .int (nI wa), .ref mq, .int la, .ref md, .int at0, .int lk]))])) (QM (some (.int (nI sz))) [(y, .inr (5, [.int th, .int (nI bi), .int (nI ne), .int (nI li), .int (nI sp), .int (nI q), .ref ms, .ref mw, .ref mu, .ref mc, .ref mn, .int en, .int (nI sz), .ref mr, .int (nI wa), .ref mq, .int la, .ref md, .int at0, .int lk]))] [(y, .inr (5, [.int 0, .int (nI bi), .int (nI ne), .int (nI li), .int (nI sp), .int (nI q), .ref ms, .ref mw, .ref mu, .ref mc, .ref mn, .int en, .int (nI sz), .ref mr, .int (nI wa), .ref mq, .int la, .ref md, .int at0, .int lk]))] D) 0 0 (ad [(y, .inr (5, [.int th, .int (nI bi), .int (nI ne), .int (nI li), .int (nI sp), .int (nI q), .ref ms, .ref mw, .ref mu, .ref mc, .ref mn, .int en, .int (nI sz), .ref mr, .int (nI wa), .ref mq, .int la, .ref md, .int at0, .int lk]))]) := by
  refine Met.ofW (cc := b_M_size) (maxL := 1) (ret := (some .int)) (by decide) rfl ?_
  intro p e s m args below meth c s₁ B hml hv
  obtain ⟨rfl, hP, hK, hD0⟩ := hv
  have hx := B.exec
  have hb := B.bytes
  have hr := B.returns
  have hts := atoms_spec (ws := WSY y_M_size b_M_size 1 (some .int)) B.pre
  have hg : ∀ w ∈ GW, w.before _ s = true := fun w h => hts w (List.mem_cons_of_mem _ h)
  have hown : s.vm.findClass "LineGolombModel" = some m.cls := findClass_of_methodNamed B.named
  have hlocks := B.notSynchronized
  obtain ⟨A, hAe⟩ : ∃ A, A = ad [(y, .inr (5, [.int th, .int (nI bi), .int (nI ne), .int (nI li), .int (nI sp), .int (nI q), .ref ms, .ref mw, .ref mu, .ref mc, .ref mn, .int en, .int (nI sz), .ref mr, .int (nI wa), .ref mq, .int la, .ref md, .int at0, .int lk]))] := ⟨_, rfl⟩
  have hD : va_D A [(y, .inr (5, [.int th, .int (nI bi), .int (nI ne), .int (nI li), .int (nI sp), .int (nI q), .ref ms, .ref mw, .ref mu, .ref mc, .ref mn, .int en, .int (nI sz), .ref mr, .int (nI wa), .ref mq, .int la, .ref md, .int at0, .int lk]))] := by rw [hAe]; exact va_D_ad hD0
  have hS : va_S A s.heap s.heap [] := va_S.rf
  have hl := lv_entry ([.ref y]) (n := 1) (Nat.le_of_ble_eq_true rfl)
  rw [lg_entry_eq]
  generalize (lg_sl ([.ref y]) ++ List.replicate (1 - (lg_sl ([.ref y])).length) Slot.unset).toArray = ls at hl ⊢
  have hl : lv_has ls 1 [(0, .ref y)] := hl
  refine lv_aload_n hx hb d_M_size_0 rfl (lv_at hl 0 rfl) ?_
  refine lv_iconst (v := 0) hx hb d_M_size_1 (by decide) ?_
  refine va_put (D := D) (ci := 5) (v := .int 0) (ty := .int) (C := R_M) (T := T_M) (N := 20) hx hb hg in_M ty_M tok_M nm_M hown hK hP hD hS 0 rfl rfl 0 (by decide) (hg _ gw_524) (fun _ h9 => h9) rfl (by decide +kernel) (rfl) (rfl) (Nat.le_of_ble_eq_true rfl) d_M_size_2 (fun H locs hP hD hS => ?_)
  have hP : va_P D CLS [(y, .inr (5, [.int 0, .int (nI bi), .int (nI ne), .int (nI li), .int (nI sp), .int (nI q), .ref ms, .ref mw, .ref mu, .ref mc, .ref mn, .int en, .int (nI sz), .ref mr, .int (nI wa), .ref mq, .int la, .ref md, .int at0, .int lk]))] H := hP
  have hD : va_D A [(y, .inr (5, [.int 0, .int (nI bi), .int (nI ne), .int (nI li), .int (nI sp), .int (nI q), .ref ms, .ref mw, .ref mu, .ref mc, .ref mn, .int en, .int (nI sz), .ref mr, .int (nI wa), .ref mq, .int la, .ref md, .int at0, .int lk]))] := hD
  refine lv_aload_n hx hb d_M_size_5 rfl (lv_at hl 0 rfl) ?_
  refine va_get (D := D) (ci := 5) (v := .int (nI sz)) (C := R_M) (T := T_M) (N := 20) hx hb hg in_M hown hK hP 0 rfl rfl 12 (by decide) (hg _ gw_536) (fun _ h9 => h9) rfl d_M_size_6 ?_
  exact W.iret (v := nI sz) hx hb hr (fun t ht hW => ⟨rfl, by rw [ht]; exact hP, (hAe ▸ hS).F ht⟩) (hAe ▸ hS).2.2 d_M_size_9
set_option maxHeartbeats 4000000 in
set_option maxRecDepth 100000 in
theorem c_M_wasEnded (l : Launch) (D : va_G) (y ms mw mu mc mn mr mq md bi ne li sp q sz wa : Nat) (th en la at0 lk : Int32) (hen : en = 0 ∨ en = 1) : Met l y_M_wasEnded (WSY y_M_wasEnded b_M_wasEnded 1 (some .boolean)) ({ frames := 0, cells := 0, slots := 0, locals := 0 }) (va_Pc [.ref y] (fun U => va_P D CLS [(y, .inr (5, [.int th, .int (nI bi), .int (nI ne), .int (nI li), .int (nI sp), .int (nI q), .ref ms, .ref mw, .ref mu, .ref mc, .ref mn, .int en, .int (nI sz), .ref mr, .int (nI wa), .ref mq, .int la, .ref md, .int at0, .int lk]))] U.heap ∧ va_K D CLS [] U ∧ va_D (fun _ => True) [(y, .inr (5, [.int th, .int (nI bi), .int (nI ne), .int (nI li), .int (nI sp), .int (nI q), .ref ms, .ref mw, .ref mu, .ref mc, .ref mn, .int en, .int (nI sz), .ref mr, .int (nI wa), .ref mq, .int la, .ref md, .int at0, .int lk]))])) (QM (some (.int en)) [(y, .inr (5, [.int th, .int (nI bi), .int (nI ne), .int (nI li), .int (nI sp), .int (nI q), .ref ms, .ref mw, .ref mu, .ref mc, .ref mn, .int en, .int (nI sz), .ref mr, .int (nI wa), .ref mq, .int la, .ref md, .int at0, .int lk]))] [(y, .inr (5, [.int 0, .int (nI bi), .int (nI ne), .int (nI li), .int (nI sp), .int (nI q), .ref ms, .ref mw, .ref mu, .ref mc, .ref mn, .int en, .int (nI sz), .ref mr, .int (nI wa), .ref mq, .int la, .ref md, .int at0, .int lk]))] D) 0 0 (ad [(y, .inr (5, [.int th, .int (nI bi), .int (nI ne), .int (nI li), .int (nI sp), .int (nI q), .ref ms, .ref mw, .ref mu, .ref mc, .ref mn, .int en, .int (nI sz), .ref mr, .int (nI wa), .ref mq, .int la, .ref md, .int at0, .int lk]))]) := by
  refine Met.ofW (cc := b_M_wasEnded) (maxL := 1) (ret := (some .boolean)) (by decide) rfl ?_
  intro p e s m args below meth c s₁ B hml hv
  obtain ⟨rfl, hP, hK, hD0⟩ := hv
  have hx := B.exec
  have hb := B.bytes
  have hr := B.returns
  have hts := atoms_spec (ws := WSY y_M_wasEnded b_M_wasEnded 1 (some .boolean)) B.pre
  have hg : ∀ w ∈ GW, w.before _ s = true := fun w h => hts w (List.mem_cons_of_mem _ h)
  have hown : s.vm.findClass "LineGolombModel" = some m.cls := findClass_of_methodNamed B.named
  have hlocks := B.notSynchronized
  obtain ⟨A, hAe⟩ : ∃ A, A = ad [(y, .inr (5, [.int th, .int (nI bi), .int (nI ne), .int (nI li), .int (nI sp), .int (nI q), .ref ms, .ref mw, .ref mu, .ref mc, .ref mn, .int en, .int (nI sz), .ref mr, .int (nI wa), .ref mq, .int la, .ref md, .int at0, .int lk]))] := ⟨_, rfl⟩
  have hD : va_D A [(y, .inr (5, [.int th, .int (nI bi), .int (nI ne), .int (nI li), .int (nI sp), .int (nI q), .ref ms, .ref mw, .ref mu, .ref mc, .ref mn, .int en, .int (nI sz), .ref mr, .int (nI wa), .ref mq, .int la, .ref md, .int at0, .int lk]))] := by rw [hAe]; exact va_D_ad hD0
  have hS : va_S A s.heap s.heap [] := va_S.rf
  have hl := lv_entry ([.ref y]) (n := 1) (Nat.le_of_ble_eq_true rfl)
  rw [lg_entry_eq]
  generalize (lg_sl ([.ref y]) ++ List.replicate (1 - (lg_sl ([.ref y])).length) Slot.unset).toArray = ls at hl ⊢
  have hl : lv_has ls 1 [(0, .ref y)] := hl
  refine lv_aload_n hx hb d_M_wasEnded_0 rfl (lv_at hl 0 rfl) ?_
  refine lv_iconst (v := 0) hx hb d_M_wasEnded_1 (by decide) ?_
  refine va_put (D := D) (ci := 5) (v := .int 0) (ty := .int) (C := R_M) (T := T_M) (N := 20) hx hb hg in_M ty_M tok_M nm_M hown hK hP hD hS 0 rfl rfl 0 (by decide) (hg _ gw_524) (fun _ h9 => h9) rfl (by decide +kernel) (rfl) (rfl) (Nat.le_of_ble_eq_true rfl) d_M_wasEnded_2 (fun H locs hP hD hS => ?_)
  have hP : va_P D CLS [(y, .inr (5, [.int 0, .int (nI bi), .int (nI ne), .int (nI li), .int (nI sp), .int (nI q), .ref ms, .ref mw, .ref mu, .ref mc, .ref mn, .int en, .int (nI sz), .ref mr, .int (nI wa), .ref mq, .int la, .ref md, .int at0, .int lk]))] H := hP
  have hD : va_D A [(y, .inr (5, [.int 0, .int (nI bi), .int (nI ne), .int (nI li), .int (nI sp), .int (nI q), .ref ms, .ref mw, .ref mu, .ref mc, .ref mn, .int en, .int (nI sz), .ref mr, .int (nI wa), .ref mq, .int la, .ref md, .int at0, .int lk]))] := hD
  refine lv_aload_n hx hb d_M_wasEnded_5 rfl (lv_at hl 0 rfl) ?_
  refine va_get (D := D) (ci := 5) (v := .int en) (C := R_M) (T := T_M) (N := 20) hx hb hg in_M hown hK hP 0 rfl rfl 11 (by decide) (hg _ gw_535) (fun _ h9 => h9) rfl d_M_wasEnded_6 ?_
  exact W.zret (v := en) hx hb hr (by rcases hen with rfl | rfl <;> rfl) (fun t ht hW => ⟨rfl, by rw [ht]; exact hP, (hAe ▸ hS).F ht⟩) (hAe ▸ hS).2.2 d_M_wasEnded_9
set_option maxHeartbeats 4000000 in
set_option maxRecDepth 100000 in
theorem c_M_waiting (l : Launch) (D : va_G) (y ms mw mu mc mn mr mq md bi ne li sp q sz wa : Nat) (th en la at0 lk : Int32) : Met l y_M_waiting (WSY y_M_waiting b_M_waiting 1 (some .int)) ({ frames := 0, cells := 0, slots := 0, locals := 0 }) (va_Pc [.ref y] (fun U => va_P D CLS [(y, .inr (5, [.int th, .int (nI bi), .int (nI ne), .int (nI li), .int (nI sp), .int (nI q), .ref ms, .ref mw, .ref mu, .ref mc, .ref mn, .int en, .int (nI sz), .ref mr, .int (nI wa), .ref mq, .int la, .ref md, .int at0, .int lk]))] U.heap ∧ va_K D CLS [] U ∧ va_D (fun _ => True) [(y, .inr (5, [.int th, .int (nI bi), .int (nI ne), .int (nI li), .int (nI sp), .int (nI q), .ref ms, .ref mw, .ref mu, .ref mc, .ref mn, .int en, .int (nI sz), .ref mr, .int (nI wa), .ref mq, .int la, .ref md, .int at0, .int lk]))])) (QM (some (.int (nI wa))) [(y, .inr (5, [.int th, .int (nI bi), .int (nI ne), .int (nI li), .int (nI sp), .int (nI q), .ref ms, .ref mw, .ref mu, .ref mc, .ref mn, .int en, .int (nI sz), .ref mr, .int (nI wa), .ref mq, .int la, .ref md, .int at0, .int lk]))] [(y, .inr (5, [.int 0, .int (nI bi), .int (nI ne), .int (nI li), .int (nI sp), .int (nI q), .ref ms, .ref mw, .ref mu, .ref mc, .ref mn, .int en, .int (nI sz), .ref mr, .int (nI wa), .ref mq, .int la, .ref md, .int at0, .int lk]))] D) 0 0 (ad [(y, .inr (5, [.int th, .int (nI bi), .int (nI ne), .int (nI li), .int (nI sp), .int (nI q), .ref ms, .ref mw, .ref mu, .ref mc, .ref mn, .int en, .int (nI sz), .ref mr, .int (nI wa), .ref mq, .int la, .ref md, .int at0, .int lk]))]) := by
  refine Met.ofW (cc := b_M_waiting) (maxL := 1) (ret := (some .int)) (by decide) rfl ?_
  intro p e s m args below meth c s₁ B hml hv
  obtain ⟨rfl, hP, hK, hD0⟩ := hv
  have hx := B.exec
  have hb := B.bytes
  have hr := B.returns
  have hts := atoms_spec (ws := WSY y_M_waiting b_M_waiting 1 (some .int)) B.pre
  have hg : ∀ w ∈ GW, w.before _ s = true := fun w h => hts w (List.mem_cons_of_mem _ h)
  have hown : s.vm.findClass "LineGolombModel" = some m.cls := findClass_of_methodNamed B.named
  have hlocks := B.notSynchronized
  obtain ⟨A, hAe⟩ : ∃ A, A = ad [(y, .inr (5, [.int th, .int (nI bi), .int (nI ne), .int (nI li), .int (nI sp), .int (nI q), .ref ms, .ref mw, .ref mu, .ref mc, .ref mn, .int en, .int (nI sz), .ref mr, .int (nI wa), .ref mq, .int la, .ref md, .int at0, .int lk]))] := ⟨_, rfl⟩
  have hD : va_D A [(y, .inr (5, [.int th, .int (nI bi), .int (nI ne), .int (nI li), .int (nI sp), .int (nI q), .ref ms, .ref mw, .ref mu, .ref mc, .ref mn, .int en, .int (nI sz), .ref mr, .int (nI wa), .ref mq, .int la, .ref md, .int at0, .int lk]))] := by rw [hAe]; exact va_D_ad hD0
  have hS : va_S A s.heap s.heap [] := va_S.rf
  have hl := lv_entry ([.ref y]) (n := 1) (Nat.le_of_ble_eq_true rfl)
  rw [lg_entry_eq]
  generalize (lg_sl ([.ref y]) ++ List.replicate (1 - (lg_sl ([.ref y])).length) Slot.unset).toArray = ls at hl ⊢
  have hl : lv_has ls 1 [(0, .ref y)] := hl
  refine lv_aload_n hx hb d_M_waiting_0 rfl (lv_at hl 0 rfl) ?_
  refine lv_iconst (v := 0) hx hb d_M_waiting_1 (by decide) ?_
  refine va_put (D := D) (ci := 5) (v := .int 0) (ty := .int) (C := R_M) (T := T_M) (N := 20) hx hb hg in_M ty_M tok_M nm_M hown hK hP hD hS 0 rfl rfl 0 (by decide) (hg _ gw_524) (fun _ h9 => h9) rfl (by decide +kernel) (rfl) (rfl) (Nat.le_of_ble_eq_true rfl) d_M_waiting_2 (fun H locs hP hD hS => ?_)
  have hP : va_P D CLS [(y, .inr (5, [.int 0, .int (nI bi), .int (nI ne), .int (nI li), .int (nI sp), .int (nI q), .ref ms, .ref mw, .ref mu, .ref mc, .ref mn, .int en, .int (nI sz), .ref mr, .int (nI wa), .ref mq, .int la, .ref md, .int at0, .int lk]))] H := hP
  have hD : va_D A [(y, .inr (5, [.int 0, .int (nI bi), .int (nI ne), .int (nI li), .int (nI sp), .int (nI q), .ref ms, .ref mw, .ref mu, .ref mc, .ref mn, .int en, .int (nI sz), .ref mr, .int (nI wa), .ref mq, .int la, .ref md, .int at0, .int lk]))] := hD
  refine lv_aload_n hx hb d_M_waiting_5 rfl (lv_at hl 0 rfl) ?_
  refine va_get (D := D) (ci := 5) (v := .int (nI wa)) (C := R_M) (T := T_M) (N := 20) hx hb hg in_M hown hK hP 0 rfl rfl 14 (by decide) (hg _ gw_538) (fun _ h9 => h9) rfl d_M_waiting_6 ?_
  exact W.iret (v := nI wa) hx hb hr (fun t ht hW => ⟨rfl, by rw [ht]; exact hP, (hAe ▸ hS).F ht⟩) (hAe ▸ hS).2.2 d_M_waiting_9
set_option maxHeartbeats 4000000 in
set_option maxRecDepth 100000 in
theorem c_M_step0 (l : Launch) (D : va_G) (y ms mw mu mc mn mr mq md bi ne li sp q sz wa : Nat) (th en la at0 lk : Int32) (cI : ClassId) (st : Nat → Int32) : Met l y_M_step (WSY y_M_step b_M_step 2 (some .int)) ({ frames := 0, cells := 0, slots := 0, locals := 0 }) (va_Pc [.ref y, .int 0] (fun U => va_P D CLS [(y, .inr (5, [.int th, .int (nI bi), .int (nI ne), .int (nI li), .int (nI sp), .int (nI q), .ref ms, .ref mw, .ref mu, .ref mc, .ref mn, .int en, .int (nI sz), .ref mr, .int (nI wa), .ref mq, .int la, .ref md, .int at0, .int lk])), (ms, .inl (cI, 2, .inl st))] U.heap ∧ va_K D CLS [(cI, .int)] U ∧ va_D (fun _ => True) [(y, .inr (5, [.int th, .int (nI bi), .int (nI ne), .int (nI li), .int (nI sp), .int (nI q), .ref ms, .ref mw, .ref mu, .ref mc, .ref mn, .int en, .int (nI sz), .ref mr, .int (nI wa), .ref mq, .int la, .ref md, .int at0, .int lk])), (ms, .inl (cI, 2, .inl st))])) (QM (some (.int (st 0))) [(y, .inr (5, [.int th, .int (nI bi), .int (nI ne), .int (nI li), .int (nI sp), .int (nI q), .ref ms, .ref mw, .ref mu, .ref mc, .ref mn, .int en, .int (nI sz), .ref mr, .int (nI wa), .ref mq, .int la, .ref md, .int at0, .int lk])), (ms, .inl (cI, 2, .inl st))] [(y, .inr (5, [.int 0, .int (nI bi), .int (nI ne), .int (nI li), .int (nI sp), .int (nI q), .ref ms, .ref mw, .ref mu, .ref mc, .ref mn, .int en, .int (nI sz), .ref mr, .int (nI wa), .ref mq, .int la, .ref md, .int at0, .int lk])), (ms, .inl (cI, 2, .inl st))] D) 0 0 (ad [(y, .inr (5, [.int th, .int (nI bi), .int (nI ne), .int (nI li), .int (nI sp), .int (nI q), .ref ms, .ref mw, .ref mu, .ref mc, .ref mn, .int en, .int (nI sz), .ref mr, .int (nI wa), .ref mq, .int la, .ref md, .int at0, .int lk])), (ms, .inl (cI, 2, .inl st))]) := by
  refine Met.ofW (cc := b_M_step) (maxL := 2) (ret := (some .int)) (by decide) rfl ?_
  intro p e s m args below meth c s₁ B hml hv
  obtain ⟨rfl, hP, hK, hD0⟩ := hv
  have hx := B.exec
  have hb := B.bytes
  have hr := B.returns
  have hts := atoms_spec (ws := WSY y_M_step b_M_step 2 (some .int)) B.pre
  have hg : ∀ w ∈ GW, w.before _ s = true := fun w h => hts w (List.mem_cons_of_mem _ h)
  have hown : s.vm.findClass "LineGolombModel" = some m.cls := findClass_of_methodNamed B.named
  have hlocks := B.notSynchronized
  obtain ⟨A, hAe⟩ : ∃ A, A = ad [(y, .inr (5, [.int th, .int (nI bi), .int (nI ne), .int (nI li), .int (nI sp), .int (nI q), .ref ms, .ref mw, .ref mu, .ref mc, .ref mn, .int en, .int (nI sz), .ref mr, .int (nI wa), .ref mq, .int la, .ref md, .int at0, .int lk])), (ms, .inl (cI, 2, .inl st))] := ⟨_, rfl⟩
  have hD : va_D A [(y, .inr (5, [.int th, .int (nI bi), .int (nI ne), .int (nI li), .int (nI sp), .int (nI q), .ref ms, .ref mw, .ref mu, .ref mc, .ref mn, .int en, .int (nI sz), .ref mr, .int (nI wa), .ref mq, .int la, .ref md, .int at0, .int lk])), (ms, .inl (cI, 2, .inl st))] := by rw [hAe]; exact va_D_ad hD0
  have hS : va_S A s.heap s.heap [] := va_S.rf
  have hl := lv_entry ([.ref y, .int 0]) (n := 2) (Nat.le_of_ble_eq_true rfl)
  rw [lg_entry_eq]
  generalize (lg_sl ([.ref y, .int 0]) ++ List.replicate (2 - (lg_sl ([.ref y, .int 0])).length) Slot.unset).toArray = ls at hl ⊢
  have hl : lv_has ls 2 [(0, .ref y), (1, .int 0)] := hl
  refine lv_aload_n hx hb d_M_step_0 rfl (lv_at hl 0 rfl) ?_
  refine lv_iconst (v := 0) hx hb d_M_step_1 (by decide) ?_
  refine va_put (D := D) (ci := 5) (v := .int 0) (ty := .int) (C := R_M) (T := T_M) (N := 20) hx hb hg in_M ty_M tok_M nm_M hown hK hP hD hS 0 rfl rfl 0 (by decide) (hg _ gw_524) (fun _ h9 => h9) rfl (by decide +kernel) (rfl) (rfl) (Nat.le_of_ble_eq_true rfl) d_M_step_2 (fun H locs hP hD hS => ?_)
  have hP : va_P D CLS [(y, .inr (5, [.int 0, .int (nI bi), .int (nI ne), .int (nI li), .int (nI sp), .int (nI q), .ref ms, .ref mw, .ref mu, .ref mc, .ref mn, .int en, .int (nI sz), .ref mr, .int (nI wa), .ref mq, .int la, .ref md, .int at0, .int lk])), (ms, .inl (cI, 2, .inl st))] H := hP
  have hD : va_D A [(y, .inr (5, [.int 0, .int (nI bi), .int (nI ne), .int (nI li), .int (nI sp), .int (nI q), .ref ms, .ref mw, .ref mu, .ref mc, .ref mn, .int en, .int (nI sz), .ref mr, .int (nI wa), .ref mq, .int la, .ref md, .int at0, .int lk])), (ms, .inl (cI, 2, .inl st))] := hD
  refine lv_aload_n hx hb d_M_step_5 rfl (lv_at hl 0 rfl) ?_
  refine va_get (D := D) (ci := 5) (v := .ref ms) (C := R_M) (T := T_M) (N := 20) hx hb hg in_M hown hK hP 0 rfl rfl 6 (by decide) (hg _ gw_530) (fun _ h9 => h9) rfl d_M_step_6 ?_
  refine lv_iload_n hx hb d_M_step_9 rfl (lv_at hl 1 rfl) ?_
  refine lv_if_eq (tgt := 17) hx hb d_M_step_10 (by decide) (fun c_1 => ?_) (fun c_1 => ?_)
  · skip
    refine lv_iconst (v := 0) hx hb d_M_step_17 (by decide) ?_
    refine va_iald hx hb hK hP 1 0 rfl rfl (vp_in_nI (n := 0) (by decide) (by decide)) d_M_step_18 ?_
    refine tpi (y := st 0) (rfl) ?_
    exact W.iret (v := st 0) hx hb hr (fun t ht hW => ⟨rfl, by rw [ht]; exact hP, (hAe ▸ hS).F ht⟩) (hAe ▸ hS).2.2 d_M_step_19
  · skip
    exact absurd rfl c_1
set_option maxHeartbeats 4000000 in
set_option maxRecDepth 100000 in
theorem c_M_step1 (l : Launch) (D : va_G) (y ms mw mu mc mn mr mq md bi ne li sp q sz wa : Nat) (th en la at0 lk : Int32) (cI : ClassId) (st : Nat → Int32) : Met l y_M_step (WSY y_M_step b_M_step 2 (some .int)) ({ frames := 0, cells := 0, slots := 0, locals := 0 }) (va_Pc [.ref y, .int 1] (fun U => va_P D CLS [(y, .inr (5, [.int th, .int (nI bi), .int (nI ne), .int (nI li), .int (nI sp), .int (nI q), .ref ms, .ref mw, .ref mu, .ref mc, .ref mn, .int en, .int (nI sz), .ref mr, .int (nI wa), .ref mq, .int la, .ref md, .int at0, .int lk])), (ms, .inl (cI, 2, .inl st))] U.heap ∧ va_K D CLS [(cI, .int)] U ∧ va_D (fun _ => True) [(y, .inr (5, [.int th, .int (nI bi), .int (nI ne), .int (nI li), .int (nI sp), .int (nI q), .ref ms, .ref mw, .ref mu, .ref mc, .ref mn, .int en, .int (nI sz), .ref mr, .int (nI wa), .ref mq, .int la, .ref md, .int at0, .int lk])), (ms, .inl (cI, 2, .inl st))])) (QM (some (.int (st 1))) [(y, .inr (5, [.int th, .int (nI bi), .int (nI ne), .int (nI li), .int (nI sp), .int (nI q), .ref ms, .ref mw, .ref mu, .ref mc, .ref mn, .int en, .int (nI sz), .ref mr, .int (nI wa), .ref mq, .int la, .ref md, .int at0, .int lk])), (ms, .inl (cI, 2, .inl st))] [(y, .inr (5, [.int 0, .int (nI bi), .int (nI ne), .int (nI li), .int (nI sp), .int (nI q), .ref ms, .ref mw, .ref mu, .ref mc, .ref mn, .int en, .int (nI sz), .ref mr, .int (nI wa), .ref mq, .int la, .ref md, .int at0, .int lk])), (ms, .inl (cI, 2, .inl st))] D) 0 0 (ad [(y, .inr (5, [.int th, .int (nI bi), .int (nI ne), .int (nI li), .int (nI sp), .int (nI q), .ref ms, .ref mw, .ref mu, .ref mc, .ref mn, .int en, .int (nI sz), .ref mr, .int (nI wa), .ref mq, .int la, .ref md, .int at0, .int lk])), (ms, .inl (cI, 2, .inl st))]) := by
  refine Met.ofW (cc := b_M_step) (maxL := 2) (ret := (some .int)) (by decide) rfl ?_
  intro p e s m args below meth c s₁ B hml hv
  obtain ⟨rfl, hP, hK, hD0⟩ := hv
  have hx := B.exec
  have hb := B.bytes
  have hr := B.returns
  have hts := atoms_spec (ws := WSY y_M_step b_M_step 2 (some .int)) B.pre
  have hg : ∀ w ∈ GW, w.before _ s = true := fun w h => hts w (List.mem_cons_of_mem _ h)
  have hown : s.vm.findClass "LineGolombModel" = some m.cls := findClass_of_methodNamed B.named
  have hlocks := B.notSynchronized
  obtain ⟨A, hAe⟩ : ∃ A, A = ad [(y, .inr (5, [.int th, .int (nI bi), .int (nI ne), .int (nI li), .int (nI sp), .int (nI q), .ref ms, .ref mw, .ref mu, .ref mc, .ref mn, .int en, .int (nI sz), .ref mr, .int (nI wa), .ref mq, .int la, .ref md, .int at0, .int lk])), (ms, .inl (cI, 2, .inl st))] := ⟨_, rfl⟩
  have hD : va_D A [(y, .inr (5, [.int th, .int (nI bi), .int (nI ne), .int (nI li), .int (nI sp), .int (nI q), .ref ms, .ref mw, .ref mu, .ref mc, .ref mn, .int en, .int (nI sz), .ref mr, .int (nI wa), .ref mq, .int la, .ref md, .int at0, .int lk])), (ms, .inl (cI, 2, .inl st))] := by rw [hAe]; exact va_D_ad hD0
  have hS : va_S A s.heap s.heap [] := va_S.rf
  have hl := lv_entry ([.ref y, .int 1]) (n := 2) (Nat.le_of_ble_eq_true rfl)
  rw [lg_entry_eq]
  generalize (lg_sl ([.ref y, .int 1]) ++ List.replicate (2 - (lg_sl ([.ref y, .int 1])).length) Slot.unset).toArray = ls at hl ⊢
  have hl : lv_has ls 2 [(0, .ref y), (1, .int 1)] := hl
  refine lv_aload_n hx hb d_M_step_0 rfl (lv_at hl 0 rfl) ?_
  refine lv_iconst (v := 0) hx hb d_M_step_1 (by decide) ?_
  refine va_put (D := D) (ci := 5) (v := .int 0) (ty := .int) (C := R_M) (T := T_M) (N := 20) hx hb hg in_M ty_M tok_M nm_M hown hK hP hD hS 0 rfl rfl 0 (by decide) (hg _ gw_524) (fun _ h9 => h9) rfl (by decide +kernel) (rfl) (rfl) (Nat.le_of_ble_eq_true rfl) d_M_step_2 (fun H locs hP hD hS => ?_)
  have hP : va_P D CLS [(y, .inr (5, [.int 0, .int (nI bi), .int (nI ne), .int (nI li), .int (nI sp), .int (nI q), .ref ms, .ref mw, .ref mu, .ref mc, .ref mn, .int en, .int (nI sz), .ref mr, .int (nI wa), .ref mq, .int la, .ref md, .int at0, .int lk])), (ms, .inl (cI, 2, .inl st))] H := hP
  have hD : va_D A [(y, .inr (5, [.int 0, .int (nI bi), .int (nI ne), .int (nI li), .int (nI sp), .int (nI q), .ref ms, .ref mw, .ref mu, .ref mc, .ref mn, .int en, .int (nI sz), .ref mr, .int (nI wa), .ref mq, .int la, .ref md, .int at0, .int lk])), (ms, .inl (cI, 2, .inl st))] := hD
  refine lv_aload_n hx hb d_M_step_5 rfl (lv_at hl 0 rfl) ?_
  refine va_get (D := D) (ci := 5) (v := .ref ms) (C := R_M) (T := T_M) (N := 20) hx hb hg in_M hown hK hP 0 rfl rfl 6 (by decide) (hg _ gw_530) (fun _ h9 => h9) rfl d_M_step_6 ?_
  refine lv_iload_n hx hb d_M_step_9 rfl (lv_at hl 1 rfl) ?_
  refine lv_if_eq (tgt := 17) hx hb d_M_step_10 (by decide) (fun c_1 => ?_) (fun c_1 => ?_)
  · skip
    exact absurd c_1 (by decide)
  · skip
    refine lv_iconst (v := 1) hx hb d_M_step_13 (by decide) ?_
    refine lv_goto (tgt := 18) hx hb d_M_step_14 (by decide) ?_
    refine va_iald hx hb hK hP 1 0 rfl rfl (vp_in_nI (n := 1) (by decide) (by decide)) d_M_step_18 ?_
    refine tpi (y := st 1) (rfl) ?_
    exact W.iret (v := st 1) hx hb hr (fun t ht hW => ⟨rfl, by rw [ht]; exact hP, (hAe ▸ hS).F ht⟩) (hAe ▸ hS).2.2 d_M_step_19
set_option maxHeartbeats 4000000 in
set_option maxRecDepth 100000 in
theorem c_M_told (l : Launch) (D : va_G) (y ms mw mu mc mn mr mq md bi ne li sp q sz wa : Nat) (th en la at0 lk : Int32) (wh : Int32) : Met l y_M_told (WSY y_M_told b_M_told 2 (some .int)) ({ frames := 0, cells := 0, slots := 0, locals := 0 }) (va_Pc [.ref y, .int wh] (fun U => va_P D CLS [(y, .inr (5, [.int th, .int (nI bi), .int (nI ne), .int (nI li), .int (nI sp), .int (nI q), .ref ms, .ref mw, .ref mu, .ref mc, .ref mn, .int en, .int (nI sz), .ref mr, .int (nI wa), .ref mq, .int la, .ref md, .int at0, .int lk]))] U.heap ∧ va_K D CLS [] U ∧ va_D (fun _ => True) [(y, .inr (5, [.int th, .int (nI bi), .int (nI ne), .int (nI li), .int (nI sp), .int (nI q), .ref ms, .ref mw, .ref mu, .ref mc, .ref mn, .int en, .int (nI sz), .ref mr, .int (nI wa), .ref mq, .int la, .ref md, .int at0, .int lk]))])) (QM (some (.int (if wh = 0 then nI bi else if wh = 1 then nI ne else if wh = 2 then nI li else if wh = 3 then nI sp else if wh = 4 then nI q else -2))) [(y, .inr (5, [.int th, .int (nI bi), .int (nI ne), .int (nI li), .int (nI sp), .int (nI q), .ref ms, .ref mw, .ref mu, .ref mc, .ref mn, .int en, .int (nI sz), .ref mr, .int (nI wa), .ref mq, .int la, .ref md, .int at0, .int lk]))] [(y, .inr (5, [.int 0, .int (nI bi), .int (nI ne), .int (nI li), .int (nI sp), .int (nI q), .ref ms, .ref mw, .ref mu, .ref mc, .ref mn, .int en, .int (nI sz), .ref mr, .int (nI wa), .ref mq, .int la, .ref md, .int at0, .int lk]))] D) 0 0 (ad [(y, .inr (5, [.int th, .int (nI bi), .int (nI ne), .int (nI li), .int (nI sp), .int (nI q), .ref ms, .ref mw, .ref mu, .ref mc, .ref mn, .int en, .int (nI sz), .ref mr, .int (nI wa), .ref mq, .int la, .ref md, .int at0, .int lk]))]) := by
  refine Met.ofW (cc := b_M_told) (maxL := 2) (ret := (some .int)) (by decide) rfl ?_
  intro p e s m args below meth c s₁ B hml hv
  obtain ⟨rfl, hP, hK, hD0⟩ := hv
  have hx := B.exec
  have hb := B.bytes
  have hr := B.returns
  have hts := atoms_spec (ws := WSY y_M_told b_M_told 2 (some .int)) B.pre
  have hg : ∀ w ∈ GW, w.before _ s = true := fun w h => hts w (List.mem_cons_of_mem _ h)
  have hown : s.vm.findClass "LineGolombModel" = some m.cls := findClass_of_methodNamed B.named
  have hlocks := B.notSynchronized
  obtain ⟨A, hAe⟩ : ∃ A, A = ad [(y, .inr (5, [.int th, .int (nI bi), .int (nI ne), .int (nI li), .int (nI sp), .int (nI q), .ref ms, .ref mw, .ref mu, .ref mc, .ref mn, .int en, .int (nI sz), .ref mr, .int (nI wa), .ref mq, .int la, .ref md, .int at0, .int lk]))] := ⟨_, rfl⟩
  have hD : va_D A [(y, .inr (5, [.int th, .int (nI bi), .int (nI ne), .int (nI li), .int (nI sp), .int (nI q), .ref ms, .ref mw, .ref mu, .ref mc, .ref mn, .int en, .int (nI sz), .ref mr, .int (nI wa), .ref mq, .int la, .ref md, .int at0, .int lk]))] := by rw [hAe]; exact va_D_ad hD0
  have hS : va_S A s.heap s.heap [] := va_S.rf
  have hl := lv_entry ([.ref y, .int wh]) (n := 2) (Nat.le_of_ble_eq_true rfl)
  rw [lg_entry_eq]
  generalize (lg_sl ([.ref y, .int wh]) ++ List.replicate (2 - (lg_sl ([.ref y, .int wh])).length) Slot.unset).toArray = ls at hl ⊢
  have hl : lv_has ls 2 [(0, .ref y), (1, .int wh)] := hl
  refine lv_aload_n hx hb d_M_told_0 rfl (lv_at hl 0 rfl) ?_
  refine lv_iconst (v := 0) hx hb d_M_told_1 (by decide) ?_
  refine va_put (D := D) (ci := 5) (v := .int 0) (ty := .int) (C := R_M) (T := T_M) (N := 20) hx hb hg in_M ty_M tok_M nm_M hown hK hP hD hS 0 rfl rfl 0 (by decide) (hg _ gw_524) (fun _ h9 => h9) rfl (by decide +kernel) (rfl) (rfl) (Nat.le_of_ble_eq_true rfl) d_M_told_2 (fun H locs hP hD hS => ?_)
  have hP : va_P D CLS [(y, .inr (5, [.int 0, .int (nI bi), .int (nI ne), .int (nI li), .int (nI sp), .int (nI q), .ref ms, .ref mw, .ref mu, .ref mc, .ref mn, .int en, .int (nI sz), .ref mr, .int (nI wa), .ref mq, .int la, .ref md, .int at0, .int lk]))] H := hP
  have hD : va_D A [(y, .inr (5, [.int 0, .int (nI bi), .int (nI ne), .int (nI li), .int (nI sp), .int (nI q), .ref ms, .ref mw, .ref mu, .ref mc, .ref mn, .int en, .int (nI sz), .ref mr, .int (nI wa), .ref mq, .int la, .ref md, .int at0, .int lk]))] := hD
  refine lv_iload_n hx hb d_M_told_5 rfl (lv_at hl 1 rfl) ?_
  refine lv_if_ne (tgt := 16) hx hb d_M_told_6 (by decide) (fun c_1 => ?_) (fun c_1 => ?_)
  · skip
    refine lv_iload_n hx hb d_M_told_16 rfl (lv_at hl 1 rfl) ?_
    refine lv_iconst (v := 1) hx hb d_M_told_17 (by decide) ?_
    refine lv_icmp_ne (tgt := 28) hx hb d_M_told_18 (by decide) (fun c_2 => ?_) (fun c_2 => ?_)
    · skip
      refine lv_iload_n hx hb d_M_told_28 rfl (lv_at hl 1 rfl) ?_
      refine lv_iconst (v := 2) hx hb d_M_told_29 (by decide) ?_
      refine lv_icmp_ne (tgt := 40) hx hb d_M_told_30 (by decide) (fun c_3 => ?_) (fun c_3 => ?_)
      · skip
        refine lv_iload_n hx hb d_M_told_40 rfl (lv_at hl 1 rfl) ?_
        refine lv_iconst (v := 3) hx hb d_M_told_41 (by decide) ?_
        refine lv_icmp_ne (tgt := 52) hx hb d_M_told_42 (by decide) (fun c_4 => ?_) (fun c_4 => ?_)
        · skip
          refine lv_iload_n hx hb d_M_told_52 rfl (lv_at hl 1 rfl) ?_
          refine lv_iconst (v := 4) hx hb d_M_told_53 (by decide) ?_
          refine lv_icmp_ne (tgt := 64) hx hb d_M_told_54 (by decide) (fun c_5 => ?_) (fun c_5 => ?_)
          · skip
            refine lv_bipush (v := (-2)) hx hb d_M_told_64 (by decide) ?_
            refine tpi (y := if wh = 0 then nI bi else if wh = 1 then nI ne else if wh = 2 then nI li else if wh = 3 then nI sp else if wh = 4 then nI q else -2) (by rw [if_neg c_1, if_neg c_2, if_neg c_3, if_neg c_4, if_neg c_5]) ?_
            exact W.iret (v := if wh = 0 then nI bi else if wh = 1 then nI ne else if wh = 2 then nI li else if wh = 3 then nI sp else if wh = 4 then nI q else -2) hx hb hr (fun t ht hW => ⟨rfl, by rw [ht]; exact hP, (hAe ▸ hS).F ht⟩) (hAe ▸ hS).2.2 d_M_told_66
          · skip
            refine lv_aload_n hx hb d_M_told_57 rfl (lv_at hl 0 rfl) ?_
            refine va_get (D := D) (ci := 5) (v := .int (nI q)) (C := R_M) (T := T_M) (N := 20) hx hb hg in_M hown hK hP 0 rfl rfl 5 (by decide) (hg _ gw_529) (fun _ h9 => h9) rfl d_M_told_58 ?_
            refine lv_goto (tgt := 66) hx hb d_M_told_61 (by decide) ?_
            refine tpi (y := if wh = 0 then nI bi else if wh = 1 then nI ne else if wh = 2 then nI li else if wh = 3 then nI sp else if wh = 4 then nI q else -2) (by rw [if_neg c_1, if_neg c_2, if_neg c_3, if_neg c_4, if_pos c_5]) ?_
            exact W.iret (v := if wh = 0 then nI bi else if wh = 1 then nI ne else if wh = 2 then nI li else if wh = 3 then nI sp else if wh = 4 then nI q else -2) hx hb hr (fun t ht hW => ⟨rfl, by rw [ht]; exact hP, (hAe ▸ hS).F ht⟩) (hAe ▸ hS).2.2 d_M_told_66
        · skip
          refine lv_aload_n hx hb d_M_told_45 rfl (lv_at hl 0 rfl) ?_
          refine va_get (D := D) (ci := 5) (v := .int (nI sp)) (C := R_M) (T := T_M) (N := 20) hx hb hg in_M hown hK hP 0 rfl rfl 4 (by decide) (hg _ gw_528) (fun _ h9 => h9) rfl d_M_told_46 ?_
          refine lv_goto (tgt := 66) hx hb d_M_told_49 (by decide) ?_
          refine tpi (y := if wh = 0 then nI bi else if wh = 1 then nI ne else if wh = 2 then nI li else if wh = 3 then nI sp else if wh = 4 then nI q else -2) (by rw [if_neg c_1, if_neg c_2, if_neg c_3, if_pos c_4]) ?_
          exact W.iret (v := if wh = 0 then nI bi else if wh = 1 then nI ne else if wh = 2 then nI li else if wh = 3 then nI sp else if wh = 4 then nI q else -2) hx hb hr (fun t ht hW => ⟨rfl, by rw [ht]; exact hP, (hAe ▸ hS).F ht⟩) (hAe ▸ hS).2.2 d_M_told_66
      · skip
        refine lv_aload_n hx hb d_M_told_33 rfl (lv_at hl 0 rfl) ?_
        refine va_get (D := D) (ci := 5) (v := .int (nI li)) (C := R_M) (T := T_M) (N := 20) hx hb hg in_M hown hK hP 0 rfl rfl 3 (by decide) (hg _ gw_527) (fun _ h9 => h9) rfl d_M_told_34 ?_
        refine lv_goto (tgt := 66) hx hb d_M_told_37 (by decide) ?_
        refine tpi (y := if wh = 0 then nI bi else if wh = 1 then nI ne else if wh = 2 then nI li else if wh = 3 then nI sp else if wh = 4 then nI q else -2) (by rw [if_neg c_1, if_neg c_2, if_pos c_3]) ?_
        exact W.iret (v := if wh = 0 then nI bi else if wh = 1 then nI ne else if wh = 2 then nI li else if wh = 3 then nI sp else if wh = 4 then nI q else -2) hx hb hr (fun t ht hW => ⟨rfl, by rw [ht]; exact hP, (hAe ▸ hS).F ht⟩) (hAe ▸ hS).2.2 d_M_told_66
    · skip
      refine lv_aload_n hx hb d_M_told_21 rfl (lv_at hl 0 rfl) ?_
      refine va_get (D := D) (ci := 5) (v := .int (nI ne)) (C := R_M) (T := T_M) (N := 20) hx hb hg in_M hown hK hP 0 rfl rfl 2 (by decide) (hg _ gw_526) (fun _ h9 => h9) rfl d_M_told_22 ?_
      refine lv_goto (tgt := 66) hx hb d_M_told_25 (by decide) ?_
      refine tpi (y := if wh = 0 then nI bi else if wh = 1 then nI ne else if wh = 2 then nI li else if wh = 3 then nI sp else if wh = 4 then nI q else -2) (by rw [if_neg c_1, if_pos c_2]) ?_
      exact W.iret (v := if wh = 0 then nI bi else if wh = 1 then nI ne else if wh = 2 then nI li else if wh = 3 then nI sp else if wh = 4 then nI q else -2) hx hb hr (fun t ht hW => ⟨rfl, by rw [ht]; exact hP, (hAe ▸ hS).F ht⟩) (hAe ▸ hS).2.2 d_M_told_66
  · skip
    refine lv_aload_n hx hb d_M_told_9 rfl (lv_at hl 0 rfl) ?_
    refine va_get (D := D) (ci := 5) (v := .int (nI bi)) (C := R_M) (T := T_M) (N := 20) hx hb hg in_M hown hK hP 0 rfl rfl 1 (by decide) (hg _ gw_525) (fun _ h9 => h9) rfl d_M_told_10 ?_
    refine lv_goto (tgt := 66) hx hb d_M_told_13 (by decide) ?_
    refine tpi (y := if wh = 0 then nI bi else if wh = 1 then nI ne else if wh = 2 then nI li else if wh = 3 then nI sp else if wh = 4 then nI q else -2) (by rw [if_pos c_1]) ?_
    exact W.iret (v := if wh = 0 then nI bi else if wh = 1 then nI ne else if wh = 2 then nI li else if wh = 3 then nI sp else if wh = 4 then nI q else -2) hx hb hr (fun t ht hW => ⟨rfl, by rw [ht]; exact hP, (hAe ▸ hS).F ht⟩) (hAe ▸ hS).2.2 d_M_told_66
set_option maxHeartbeats 4000000 in
set_option maxRecDepth 100000 in
theorem c_M_bitAt (l : Launch) (D : va_G) (y ms mw mu mc mn mr mq md bi ne li sp q sz wa : Nat) (th en la at0 lk : Int32) (cB : ClassId) (wr : Nat → Int32) (k : Nat) (hsz : sz ≤ 6000) (hk : k < sz) : Met l y_M_bitAt (WSY y_M_bitAt b_M_bitAt 2 (some .int)) ({ frames := 0, cells := 0, slots := 0, locals := 0 }) (va_Pc [.ref y, .int (nI k)] (fun U => va_P D CLS [(y, .inr (5, [.int th, .int (nI bi), .int (nI ne), .int (nI li), .int (nI sp), .int (nI q), .ref ms, .ref mw, .ref mu, .ref mc, .ref mn, .int en, .int (nI sz), .ref mr, .int (nI wa), .ref mq, .int la, .ref md, .int at0, .int lk])), (mr, .inl (cB, 6000, .inl wr))] U.heap ∧ va_K D CLS [(cB, .byte)] U ∧ va_D (fun _ => True) [(y, .inr (5, [.int th, .int (nI bi), .int (nI ne), .int (nI li), .int (nI sp), .int (nI q), .ref ms, .ref mw, .ref mu, .ref mc, .ref mn, .int en, .int (nI sz), .ref mr, .int (nI wa), .ref mq, .int la, .ref md, .int at0, .int lk])), (mr, .inl (cB, 6000, .inl wr))])) (QM (some (.int (wr k))) [(y, .inr (5, [.int th, .int (nI bi), .int (nI ne), .int (nI li), .int (nI sp), .int (nI q), .ref ms, .ref mw, .ref mu, .ref mc, .ref mn, .int en, .int (nI sz), .ref mr, .int (nI wa), .ref mq, .int la, .ref md, .int at0, .int lk])), (mr, .inl (cB, 6000, .inl wr))] [(y, .inr (5, [.int 0, .int (nI bi), .int (nI ne), .int (nI li), .int (nI sp), .int (nI q), .ref ms, .ref mw, .ref mu, .ref mc, .ref mn, .int en, .int (nI sz), .ref mr, .int (nI wa), .ref mq, .int la, .ref md, .int at0, .int lk])), (mr, .inl (cB, 6000, .inl wr))] D) 0 0 (ad [(y, .inr (5, [.int th, .int (nI bi), .int (nI ne), .int (nI li), .int (nI sp), .int (nI q), .ref ms, .ref mw, .ref mu, .ref mc, .ref mn, .int en, .int (nI sz), .ref mr, .int (nI wa), .ref mq, .int la, .ref md, .int at0, .int lk])), (mr, .inl (cB, 6000, .inl wr))]) := by
  refine Met.ofW (cc := b_M_bitAt) (maxL := 2) (ret := (some .int)) (by decide) rfl ?_
  intro p e s m args below meth c s₁ B hml hv
  obtain ⟨rfl, hP, hK, hD0⟩ := hv
  have hx := B.exec
  have hb := B.bytes
  have hr := B.returns
  have hts := atoms_spec (ws := WSY y_M_bitAt b_M_bitAt 2 (some .int)) B.pre
  have hg : ∀ w ∈ GW, w.before _ s = true := fun w h => hts w (List.mem_cons_of_mem _ h)
  have hown : s.vm.findClass "LineGolombModel" = some m.cls := findClass_of_methodNamed B.named
  have hlocks := B.notSynchronized
  obtain ⟨A, hAe⟩ : ∃ A, A = ad [(y, .inr (5, [.int th, .int (nI bi), .int (nI ne), .int (nI li), .int (nI sp), .int (nI q), .ref ms, .ref mw, .ref mu, .ref mc, .ref mn, .int en, .int (nI sz), .ref mr, .int (nI wa), .ref mq, .int la, .ref md, .int at0, .int lk])), (mr, .inl (cB, 6000, .inl wr))] := ⟨_, rfl⟩
  have hD : va_D A [(y, .inr (5, [.int th, .int (nI bi), .int (nI ne), .int (nI li), .int (nI sp), .int (nI q), .ref ms, .ref mw, .ref mu, .ref mc, .ref mn, .int en, .int (nI sz), .ref mr, .int (nI wa), .ref mq, .int la, .ref md, .int at0, .int lk])), (mr, .inl (cB, 6000, .inl wr))] := by rw [hAe]; exact va_D_ad hD0
  have hS : va_S A s.heap s.heap [] := va_S.rf
  have hl := lv_entry ([.ref y, .int (nI k)]) (n := 2) (Nat.le_of_ble_eq_true rfl)
  rw [lg_entry_eq]
  generalize (lg_sl ([.ref y, .int (nI k)]) ++ List.replicate (2 - (lg_sl ([.ref y, .int (nI k)])).length) Slot.unset).toArray = ls at hl ⊢
  have hl : lv_has ls 2 [(0, .ref y), (1, .int (nI k))] := hl
  refine lv_aload_n hx hb d_M_bitAt_0 rfl (lv_at hl 0 rfl) ?_
  refine lv_iload_n hx hb d_M_bitAt_1 rfl (lv_at hl 1 rfl) ?_
  refine lv_if_lt (tgt := 13) hx hb d_M_bitAt_2 (by decide) (fun c_1 => ?_) (fun c_1 => ?_)
  · skip
    exact absurd c_1 (nI_pos (by omega))
  · skip
    refine lv_iload_n hx hb d_M_bitAt_5 rfl (lv_at hl 1 rfl) ?_
    refine lv_aload_n hx hb d_M_bitAt_6 rfl (lv_at hl 0 rfl) ?_
    refine va_get (D := D) (ci := 5) (v := .int (nI sz)) (C := R_M) (T := T_M) (N := 20) hx hb hg in_M hown hK hP 0 rfl rfl 12 (by decide) (hg _ gw_536) (fun _ h9 => h9) rfl d_M_bitAt_7 ?_
    refine lv_icmp_lt (tgt := 17) hx hb d_M_bitAt_10 (by decide) (fun c_2 => ?_) (fun c_2 => ?_)
    · skip
      refine lv_iconst (v := 0) hx hb d_M_bitAt_17 (by decide) ?_
      refine va_put (D := D) (ci := 5) (v := .int 0) (ty := .int) (C := R_M) (T := T_M) (N := 20) hx hb hg in_M ty_M tok_M nm_M hown hK hP hD hS 0 rfl rfl 0 (by decide) (hg _ gw_524) (fun _ h9 => h9) rfl (by decide +kernel) (rfl) (rfl) (Nat.le_of_ble_eq_true rfl) d_M_bitAt_18 (fun H locs hP hD hS => ?_)
      have hP : va_P D CLS [(y, .inr (5, [.int 0, .int (nI bi), .int (nI ne), .int (nI li), .int (nI sp), .int (nI q), .ref ms, .ref mw, .ref mu, .ref mc, .ref mn, .int en, .int (nI sz), .ref mr, .int (nI wa), .ref mq, .int la, .ref md, .int at0, .int lk])), (mr, .inl (cB, 6000, .inl wr))] H := hP
      have hD : va_D A [(y, .inr (5, [.int 0, .int (nI bi), .int (nI ne), .int (nI li), .int (nI sp), .int (nI q), .ref ms, .ref mw, .ref mu, .ref mc, .ref mn, .int en, .int (nI sz), .ref mr, .int (nI wa), .ref mq, .int la, .ref md, .int at0, .int lk])), (mr, .inl (cB, 6000, .inl wr))] := hD
      refine lv_aload_n hx hb d_M_bitAt_21 rfl (lv_at hl 0 rfl) ?_
      refine va_get (D := D) (ci := 5) (v := .int 0) (C := R_M) (T := T_M) (N := 20) hx hb hg in_M hown hK hP 0 rfl rfl 0 (by decide) (hg _ gw_524) (fun _ h9 => h9) rfl d_M_bitAt_22 ?_
      refine lv_if_le (tgt := 32) hx hb d_M_bitAt_25 (by decide) (fun c_3 => ?_) (fun c_3 => ?_)
      · skip
        refine lv_aload_n hx hb d_M_bitAt_32 rfl (lv_at hl 0 rfl) ?_
        refine va_get (D := D) (ci := 5) (v := .ref mr) (C := R_M) (T := T_M) (N := 20) hx hb hg in_M hown hK hP 0 rfl rfl 13 (by decide) (hg _ gw_537) (fun _ h9 => h9) rfl d_M_bitAt_33 ?_
        refine lv_iload_n hx hb d_M_bitAt_36 rfl (lv_at hl 1 rfl) ?_
        refine va_bald hx hb hK hP 1 0 rfl rfl (vp_in_nI (by omega) (by omega)) d_M_bitAt_37 ?_
        refine tpi (y := wr k) (by rw [nI_clamp (by omega)]) ?_
        exact W.iret (v := wr k) hx hb hr (fun t ht hW => ⟨rfl, by rw [ht]; exact hP, (hAe ▸ hS).F ht⟩) (hAe ▸ hS).2.2 d_M_bitAt_38
      · skip
        exact absurd (by decide) c_3
    · skip
      exact absurd (nI_lt hk (by omega)) c_2
set_option maxHeartbeats 4000000 in
set_option maxRecDepth 100000 in
theorem c_M_bitAtT (l : Launch) (D : va_G) (y ms mw mu mc mn mr mq md bi ne li sp q sz wa : Nat) (th en la at0 lk : Int32) (v0 : Int32) (hbad : v0 < 0 ∨ nI sz ≤ v0) : Met l y_M_bitAt (WSY y_M_bitAt b_M_bitAt 2 (some .int)) ({ frames := 0, cells := 0, slots := 0, locals := 0 }) (va_Pc [.ref y, .int v0] (fun U => va_P D CLS [(y, .inr (5, [.int th, .int (nI bi), .int (nI ne), .int (nI li), .int (nI sp), .int (nI q), .ref ms, .ref mw, .ref mu, .ref mc, .ref mn, .int en, .int (nI sz), .ref mr, .int (nI wa), .ref mq, .int la, .ref md, .int at0, .int lk]))] U.heap ∧ va_K D CLS [] U ∧ va_D (fun _ => True) [(y, .inr (5, [.int th, .int (nI bi), .int (nI ne), .int (nI li), .int (nI sp), .int (nI q), .ref ms, .ref mw, .ref mu, .ref mc, .ref mn, .int en, .int (nI sz), .ref mr, .int (nI wa), .ref mq, .int la, .ref md, .int at0, .int lk]))])) (QM (some (.int 0)) [(y, .inr (5, [.int th, .int (nI bi), .int (nI ne), .int (nI li), .int (nI sp), .int (nI q), .ref ms, .ref mw, .ref mu, .ref mc, .ref mn, .int en, .int (nI sz), .ref mr, .int (nI wa), .ref mq, .int la, .ref md, .int at0, .int lk]))] [(y, .inr (5, [.int 1, .int (nI bi), .int (nI ne), .int (nI li), .int (nI sp), .int (nI q), .ref ms, .ref mw, .ref mu, .ref mc, .ref mn, .int en, .int (nI sz), .ref mr, .int (nI wa), .ref mq, .int la, .ref md, .int at0, .int lk]))] D) 0 0 (ad [(y, .inr (5, [.int th, .int (nI bi), .int (nI ne), .int (nI li), .int (nI sp), .int (nI q), .ref ms, .ref mw, .ref mu, .ref mc, .ref mn, .int en, .int (nI sz), .ref mr, .int (nI wa), .ref mq, .int la, .ref md, .int at0, .int lk]))]) := by
  refine Met.ofW (cc := b_M_bitAt) (maxL := 2) (ret := (some .int)) (by decide) rfl ?_
  intro p e s m args below meth c s₁ B hml hv
  obtain ⟨rfl, hP, hK, hD0⟩ := hv
  have hx := B.exec
  have hb := B.bytes
  have hr := B.returns
  have hts := atoms_spec (ws := WSY y_M_bitAt b_M_bitAt 2 (some .int)) B.pre
  have hg : ∀ w ∈ GW, w.before _ s = true := fun w h => hts w (List.mem_cons_of_mem _ h)
  have hown : s.vm.findClass "LineGolombModel" = some m.cls := findClass_of_methodNamed B.named
  have hlocks := B.notSynchronized
  obtain ⟨A, hAe⟩ : ∃ A, A = ad [(y, .inr (5, [.int th, .int (nI bi), .int (nI ne), .int (nI li), .int (nI sp), .int (nI q), .ref ms, .ref mw, .ref mu, .ref mc, .ref mn, .int en, .int (nI sz), .ref mr, .int (nI wa), .ref mq, .int la, .ref md, .int at0, .int lk]))] := ⟨_, rfl⟩
  have hD : va_D A [(y, .inr (5, [.int th, .int (nI bi), .int (nI ne), .int (nI li), .int (nI sp), .int (nI q), .ref ms, .ref mw, .ref mu, .ref mc, .ref mn, .int en, .int (nI sz), .ref mr, .int (nI wa), .ref mq, .int la, .ref md, .int at0, .int lk]))] := by rw [hAe]; exact va_D_ad hD0
  have hS : va_S A s.heap s.heap [] := va_S.rf
  have hl := lv_entry ([.ref y, .int v0]) (n := 2) (Nat.le_of_ble_eq_true rfl)
  rw [lg_entry_eq]
  generalize (lg_sl ([.ref y, .int v0]) ++ List.replicate (2 - (lg_sl ([.ref y, .int v0])).length) Slot.unset).toArray = ls at hl ⊢
  have hl : lv_has ls 2 [(0, .ref y), (1, .int v0)] := hl
  refine lv_aload_n hx hb d_M_bitAt_0 rfl (lv_at hl 0 rfl) ?_
  refine lv_iload_n hx hb d_M_bitAt_1 rfl (lv_at hl 1 rfl) ?_
  refine lv_if_lt (tgt := 13) hx hb d_M_bitAt_2 (by decide) (fun c_1 => ?_) (fun c_1 => ?_)
  · skip
    refine lv_iconst (v := 1) hx hb d_M_bitAt_13 (by decide) ?_
    refine lv_goto (tgt := 18) hx hb d_M_bitAt_14 (by decide) ?_
    refine va_put (D := D) (ci := 5) (v := .int 1) (ty := .int) (C := R_M) (T := T_M) (N := 20) hx hb hg in_M ty_M tok_M nm_M hown hK hP hD hS 0 rfl rfl 0 (by decide) (hg _ gw_524) (fun _ h9 => h9) rfl (by decide +kernel) (rfl) (rfl) (Nat.le_of_ble_eq_true rfl) d_M_bitAt_18 (fun H locs hP hD hS => ?_)
    have hP : va_P D CLS [(y, .inr (5, [.int 1, .int (nI bi), .int (nI ne), .int (nI li), .int (nI sp), .int (nI q), .ref ms, .ref mw, .ref mu, .ref mc, .ref mn, .int en, .int (nI sz), .ref mr, .int (nI wa), .ref mq, .int la, .ref md, .int at0, .int lk]))] H := hP
    have hD : va_D A [(y, .inr (5, [.int 1, .int (nI bi), .int (nI ne), .int (nI li), .int (nI sp), .int (nI q), .ref ms, .ref mw, .ref mu, .ref mc, .ref mn, .int en, .int (nI sz), .ref mr, .int (nI wa), .ref mq, .int la, .ref md, .int at0, .int lk]))] := hD
    refine lv_aload_n hx hb d_M_bitAt_21 rfl (lv_at hl 0 rfl) ?_
    refine va_get (D := D) (ci := 5) (v := .int 1) (C := R_M) (T := T_M) (N := 20) hx hb hg in_M hown hK hP 0 rfl rfl 0 (by decide) (hg _ gw_524) (fun _ h9 => h9) rfl d_M_bitAt_22 ?_
    refine lv_if_le (tgt := 32) hx hb d_M_bitAt_25 (by decide) (fun c_2 => ?_) (fun c_2 => ?_)
    · skip
      exact absurd c_2 (by decide)
    · skip
      refine lv_iconst (v := 0) hx hb d_M_bitAt_28 (by decide) ?_
      refine lv_goto (tgt := 38) hx hb d_M_bitAt_29 (by decide) ?_
      exact W.iret (v := 0) hx hb hr (fun t ht hW => ⟨rfl, by rw [ht]; exact hP, (hAe ▸ hS).F ht⟩) (hAe ▸ hS).2.2 d_M_bitAt_38
  · skip
    refine lv_iload_n hx hb d_M_bitAt_5 rfl (lv_at hl 1 rfl) ?_
    refine lv_aload_n hx hb d_M_bitAt_6 rfl (lv_at hl 0 rfl) ?_
    refine va_get (D := D) (ci := 5) (v := .int (nI sz)) (C := R_M) (T := T_M) (N := 20) hx hb hg in_M hown hK hP 0 rfl rfl 12 (by decide) (hg _ gw_536) (fun _ h9 => h9) rfl d_M_bitAt_7 ?_
    refine lv_icmp_lt (tgt := 17) hx hb d_M_bitAt_10 (by decide) (fun c_3 => ?_) (fun c_3 => ?_)
    · skip
      exact absurd hbad (fun q9 => q9.elim c_1 (Int32.not_le.mpr c_3))
    · skip
      refine lv_iconst (v := 1) hx hb d_M_bitAt_13 (by decide) ?_
      refine lv_goto (tgt := 18) hx hb d_M_bitAt_14 (by decide) ?_
      refine va_put (D := D) (ci := 5) (v := .int 1) (ty := .int) (C := R_M) (T := T_M) (N := 20) hx hb hg in_M ty_M tok_M nm_M hown hK hP hD hS 0 rfl rfl 0 (by decide) (hg _ gw_524) (fun _ h9 => h9) rfl (by decide +kernel) (rfl) (rfl) (Nat.le_of_ble_eq_true rfl) d_M_bitAt_18 (fun H locs hP hD hS => ?_)
      have hP : va_P D CLS [(y, .inr (5, [.int 1, .int (nI bi), .int (nI ne), .int (nI li), .int (nI sp), .int (nI q), .ref ms, .ref mw, .ref mu, .ref mc, .ref mn, .int en, .int (nI sz), .ref mr, .int (nI wa), .ref mq, .int la, .ref md, .int at0, .int lk]))] H := hP
      have hD : va_D A [(y, .inr (5, [.int 1, .int (nI bi), .int (nI ne), .int (nI li), .int (nI sp), .int (nI q), .ref ms, .ref mw, .ref mu, .ref mc, .ref mn, .int en, .int (nI sz), .ref mr, .int (nI wa), .ref mq, .int la, .ref md, .int at0, .int lk]))] := hD
      refine lv_aload_n hx hb d_M_bitAt_21 rfl (lv_at hl 0 rfl) ?_
      refine va_get (D := D) (ci := 5) (v := .int 1) (C := R_M) (T := T_M) (N := 20) hx hb hg in_M hown hK hP 0 rfl rfl 0 (by decide) (hg _ gw_524) (fun _ h9 => h9) rfl d_M_bitAt_22 ?_
      refine lv_if_le (tgt := 32) hx hb d_M_bitAt_25 (by decide) (fun c_4 => ?_) (fun c_4 => ?_)
      · skip
        exact absurd c_4 (by decide)
      · skip
        refine lv_iconst (v := 0) hx hb d_M_bitAt_28 (by decide) ?_
        refine lv_goto (tgt := 38) hx hb d_M_bitAt_29 (by decide) ?_
        exact W.iret (v := 0) hx hb hr (fun t ht hW => ⟨rfl, by rw [ht]; exact hP, (hAe ▸ hS).F ht⟩) (hAe ▸ hS).2.2 d_M_bitAt_38
set_option maxHeartbeats 4000000 in
set_option maxRecDepth 100000 in
theorem c_M_feed (l : Launch) (D : va_G) (y ms mw mu mc mn mr mq md bi ne li sp q sz wa : Nat) (th en la at0 lk : Int32) (cB : ClassId) (wq : Nat → Int32) (b0 : Int32) (hb0 : b0 = 0 ∨ b0 = 1) (hwa : wa < 1000) : Met l y_M_feed (WSY y_M_feed b_M_feed 2 (some .boolean)) ({ frames := 1, cells := 0, slots := 0, locals := 21 }) (va_Pc [.ref y, .int b0] (fun U => va_P D CLS [(y, .inr (5, [.int th, .int (nI bi), .int (nI ne), .int (nI li), .int (nI sp), .int (nI q), .ref ms, .ref mw, .ref mu, .ref mc, .ref mn, .int en, .int (nI sz), .ref mr, .int (nI wa), .ref mq, .int la, .ref md, .int at0, .int lk])), (mq, .inl (cB, 1000, .inl wq))] U.heap ∧ va_K D CLS [(cB, .byte)] U ∧ va_D (fun _ => True) [(y, .inr (5, [.int th, .int (nI bi), .int (nI ne), .int (nI li), .int (nI sp), .int (nI q), .ref ms, .ref mw, .ref mu, .ref mc, .ref mn, .int en, .int (nI sz), .ref mr, .int (nI wa), .ref mq, .int la, .ref md, .int at0, .int lk])), (mq, .inl (cB, 1000, .inl wq))])) (QM (some (.int 1)) [(y, .inr (5, [.int th, .int (nI bi), .int (nI ne), .int (nI li), .int (nI sp), .int (nI q), .ref ms, .ref mw, .ref mu, .ref mc, .ref mn, .int en, .int (nI sz), .ref mr, .int (nI wa), .ref mq, .int la, .ref md, .int at0, .int lk])), (mq, .inl (cB, 1000, .inl wq))] [(y, .inr (5, [.int 0, .int (nI bi), .int (nI ne), .int (nI li), .int (nI sp), .int (nI q), .ref ms, .ref mw, .ref mu, .ref mc, .ref mn, .int en, .int (nI sz), .ref mr, .int (nI (wa + 1)), .ref mq, .int la, .ref md, .int at0, .int lk])), (mq, .inl (cB, 1000, .inl (upd wq wa b0)))] D) 0 0 (ad [(y, .inr (5, [.int th, .int (nI bi), .int (nI ne), .int (nI li), .int (nI sp), .int (nI q), .ref ms, .ref mw, .ref mu, .ref mc, .ref mn, .int en, .int (nI sz), .ref mr, .int (nI wa), .ref mq, .int la, .ref md, .int at0, .int lk])), (mq, .inl (cB, 1000, .inl wq))]) := by
  refine Met.ofW (cc := b_M_feed) (maxL := 2) (ret := (some .boolean)) (by decide) rfl ?_
  intro p e s m args below meth c s₁ B hml hv
  obtain ⟨rfl, hP, hK, hD0⟩ := hv
  have hx := B.exec
  have hb := B.bytes
  have hr := B.returns
  have hts := atoms_spec (ws := WSY y_M_feed b_M_feed 2 (some .boolean)) B.pre
  have hg : ∀ w ∈ GW, w.before _ s = true := fun w h => hts w (List.mem_cons_of_mem _ h)
  have hown : s.vm.findClass "LineGolombModel" = some m.cls := findClass_of_methodNamed B.named
  have hlocks := B.notSynchronized
  obtain ⟨A, hAe⟩ : ∃ A, A = ad [(y, .inr (5, [.int th, .int (nI bi), .int (nI ne), .int (nI li), .int (nI sp), .int (nI q), .ref ms, .ref mw, .ref mu, .ref mc, .ref mn, .int en, .int (nI sz), .ref mr, .int (nI wa), .ref mq, .int la, .ref md, .int at0, .int lk])), (mq, .inl (cB, 1000, .inl wq))] := ⟨_, rfl⟩
  have hD : va_D A [(y, .inr (5, [.int th, .int (nI bi), .int (nI ne), .int (nI li), .int (nI sp), .int (nI q), .ref ms, .ref mw, .ref mu, .ref mc, .ref mn, .int en, .int (nI sz), .ref mr, .int (nI wa), .ref mq, .int la, .ref md, .int at0, .int lk])), (mq, .inl (cB, 1000, .inl wq))] := by rw [hAe]; exact va_D_ad hD0
  have hS : va_S A s.heap s.heap [] := va_S.rf
  have hl := lv_entry ([.ref y, .int b0]) (n := 2) (Nat.le_of_ble_eq_true rfl)
  rw [lg_entry_eq]
  generalize (lg_sl ([.ref y, .int b0]) ++ List.replicate (2 - (lg_sl ([.ref y, .int b0])).length) Slot.unset).toArray = ls at hl ⊢
  have hl : lv_has ls 2 [(0, .ref y), (1, .int b0)] := hl
  refine lv_aload_n hx hb d_M_feed_0 rfl (lv_at hl 0 rfl) ?_
  refine lv_iload_n hx hb d_M_feed_1 rfl (lv_at hl 1 rfl) ?_
  refine lv_if_eq (tgt := 10) hx hb d_M_feed_2 (by decide) (fun c_1 => ?_) (fun c_1 => ?_)
  · skip
    refine lv_iconst (v := 0) hx hb d_M_feed_10 (by decide) ?_
    refine lv_goto (tgt := 15) hx hb d_M_feed_11 (by decide) ?_
    refine va_put (D := D) (ci := 5) (v := .int 0) (ty := .int) (C := R_M) (T := T_M) (N := 20) hx hb hg in_M ty_M tok_M nm_M hown hK hP hD hS 0 rfl rfl 0 (by decide) (hg _ gw_524) (fun _ h9 => h9) rfl (by decide +kernel) (rfl) (rfl) (Nat.le_of_ble_eq_true rfl) d_M_feed_15 (fun H locs hP hD hS => ?_)
    have hP : va_P D CLS [(y, .inr (5, [.int 0, .int (nI bi), .int (nI ne), .int (nI li), .int (nI sp), .int (nI q), .ref ms, .ref mw, .ref mu, .ref mc, .ref mn, .int en, .int (nI sz), .ref mr, .int (nI wa), .ref mq, .int la, .ref md, .int at0, .int lk])), (mq, .inl (cB, 1000, .inl wq))] H := hP
    have hD : va_D A [(y, .inr (5, [.int 0, .int (nI bi), .int (nI ne), .int (nI li), .int (nI sp), .int (nI q), .ref ms, .ref mw, .ref mu, .ref mc, .ref mn, .int en, .int (nI sz), .ref mr, .int (nI wa), .ref mq, .int la, .ref md, .int at0, .int lk])), (mq, .inl (cB, 1000, .inl wq))] := hD
    refine lv_aload_n hx hb d_M_feed_18 rfl (lv_at hl 0 rfl) ?_
    refine va_get (D := D) (ci := 5) (v := .int 0) (C := R_M) (T := T_M) (N := 20) hx hb hg in_M hown hK hP 0 rfl rfl 0 (by decide) (hg _ gw_524) (fun _ h9 => h9) rfl d_M_feed_19 ?_
    refine lv_if_ne (tgt := 37) hx hb d_M_feed_22 (by decide) (fun c_2 => ?_) (fun c_2 => ?_)
    · skip
      exact absurd rfl c_2
    · skip
      refine lv_aload_n hx hb d_M_feed_25 rfl (lv_at hl 0 rfl) ?_
      refine lv_iload_n hx hb d_M_feed_26 rfl (lv_at hl 1 rfl) ?_
      have hPc := hP.sub (ws' := [(y, .inr (5, [.int 0, .int (nI bi), .int (nI ne), .int (nI li), .int (nI sp), .int (nI q), .ref ms, .ref mw, .ref mu, .ref mc, .ref mn, .int en, .int (nI sz), .ref mr, .int (nI wa), .ref mq, .int la, .ref md, .int at0, .int lk])), (mq, .inl (cB, 1000, .inl wq))]) [0, 1] rfl
      have hDc := hD.sub (ws' := [(y, .inr (5, [.int 0, .int (nI bi), .int (nI ne), .int (nI li), .int (nI sp), .int (nI q), .ref ms, .ref mw, .ref mu, .ref mc, .ref mn, .int en, .int (nI sz), .ref mr, .int (nI wa), .ref mq, .int la, .ref md, .int at0, .int lk])), (mq, .inl (cB, 1000, .inl wq))]) [0, 1] (by decide) rfl
      have hKc := hK.sub (tys' := [(cB, .byte)]) [0] rfl
      refine mci (va_runV (As := [.int b0]) (rest := []) ⟨hx, hb, hml, hown, hg⟩ (c_M_comes l D y ms mw mu mc mn mr mq md bi ne li sp q sz wa 0 en la at0 lk cB wq b0 hb0 hwa) (cwV 1 hg (gV gw_662 gw_664 gs_24 gw_7 gw_665) rfl rfl rfl (by decide +kernel) ⟨Nat.le_of_ble_eq_true rfl, Nat.le_of_ble_eq_true rfl⟩) ⟨fun a U g mk q => by obtain ⟨q0, qP, qK, qD⟩ := q; exact ⟨q0, qP, va_K.moved (u := U) (U := U.calling g mk a) (Vm.Alike.refl U.vm) qK, qD⟩, va_recv hKc hPc (ci := 5) (q0 := 0) rfl rfl, fun U hU hW => ⟨rfl, by rw [hU]; exact hPc, va_K.moved hW.alike hKc, hDc.weaken (fun _ _ _ _ => trivial)⟩⟩ rfl rfl hl.1 rfl (lv_room (Nat.le_of_ble_eq_true rfl)) d_M_feed_27 (⟨Nat.le_of_ble_eq_true rfl, Nat.le_of_ble_eq_true rfl⟩)) hS hP hD [0, 1] rfl rfl rfl (fun H locs hP hD hS => ?_)
      have hP : va_P D CLS [(y, .inr (5, [.int 0, .int (nI bi), .int (nI ne), .int (nI li), .int (nI sp), .int (nI q), .ref ms, .ref mw, .ref mu, .ref mc, .ref mn, .int en, .int (nI sz), .ref mr, .int (nI (wa + 1)), .ref mq, .int la, .ref md, .int at0, .int lk])), (mq, .inl (cB, 1000, .inl (upd wq wa b0)))] H := hP
      have hD : va_D A [(y, .inr (5, [.int 0, .int (nI bi), .int (nI ne), .int (nI li), .int (nI sp), .int (nI q), .ref ms, .ref mw, .ref mu, .ref mc, .ref mn, .int en, .int (nI sz), .ref mr, .int (nI (wa + 1)), .ref mq, .int la, .ref md, .int at0, .int lk])), (mq, .inl (cB, 1000, .inl (upd wq wa b0)))] := hD
      refine lv_if_eq (tgt := 37) hx hb d_M_feed_30 (by decide) (fun c_3 => ?_) (fun c_3 => ?_)
      · skip
        exact absurd c_3 (by decide)
      · skip
        refine lv_iconst (v := 1) hx hb d_M_feed_33 (by decide) ?_
        refine lv_goto (tgt := 38) hx hb d_M_feed_34 (by decide) ?_
        exact W.zret (v := 1) hx hb hr (rfl) (fun t ht hW => ⟨rfl, by rw [ht]; exact hP, (hAe ▸ hS).F ht⟩) (hAe ▸ hS).2.2 d_M_feed_38
  · skip
    refine lv_iload_n hx hb d_M_feed_5 rfl (lv_at hl 1 rfl) ?_
    refine lv_iconst (v := 1) hx hb d_M_feed_6 (by decide) ?_
    refine lv_icmp_ne (tgt := 14) hx hb d_M_feed_7 (by decide) (fun c_4 => ?_) (fun c_4 => ?_)
    · skip
      exact absurd hb0 (fun q9 => q9.elim c_1 c_4)
    · skip
      refine lv_iconst (v := 0) hx hb d_M_feed_10 (by decide) ?_
      refine lv_goto (tgt := 15) hx hb d_M_feed_11 (by decide) ?_
      refine va_put (D := D) (ci := 5) (v := .int 0) (ty := .int) (C := R_M) (T := T_M) (N := 20) hx hb hg in_M ty_M tok_M nm_M hown hK hP hD hS 0 rfl rfl 0 (by decide) (hg _ gw_524) (fun _ h9 => h9) rfl (by decide +kernel) (rfl) (rfl) (Nat.le_of_ble_eq_true rfl) d_M_feed_15 (fun H locs hP hD hS => ?_)
      have hP : va_P D CLS [(y, .inr (5, [.int 0, .int (nI bi), .int (nI ne), .int (nI li), .int (nI sp), .int (nI q), .ref ms, .ref mw, .ref mu, .ref mc, .ref mn, .int en, .int (nI sz), .ref mr, .int (nI wa), .ref mq, .int la, .ref md, .int at0, .int lk])), (mq, .inl (cB, 1000, .inl wq))] H := hP
      have hD : va_D A [(y, .inr (5, [.int 0, .int (nI bi), .int (nI ne), .int (nI li), .int (nI sp), .int (nI q), .ref ms, .ref mw, .ref mu, .ref mc, .ref mn, .int en, .int (nI sz), .ref mr, .int (nI wa), .ref mq, .int la, .ref md, .int at0, .int lk])), (mq, .inl (cB, 1000, .inl wq))] := hD
      refine lv_aload_n hx hb d_M_feed_18 rfl (lv_at hl 0 rfl) ?_
      refine va_get (D := D) (ci := 5) (v := .int 0) (C := R_M) (T := T_M) (N := 20) hx hb hg in_M hown hK hP 0 rfl rfl 0 (by decide) (hg _ gw_524) (fun _ h9 => h9) rfl d_M_feed_19 ?_
      refine lv_if_ne (tgt := 37) hx hb d_M_feed_22 (by decide) (fun c_5 => ?_) (fun c_5 => ?_)
      · skip
        exact absurd rfl c_5
      · skip
        refine lv_aload_n hx hb d_M_feed_25 rfl (lv_at hl 0 rfl) ?_
        refine lv_iload_n hx hb d_M_feed_26 rfl (lv_at hl 1 rfl) ?_
        have hPc := hP.sub (ws' := [(y, .inr (5, [.int 0, .int (nI bi), .int (nI ne), .int (nI li), .int (nI sp), .int (nI q), .ref ms, .ref mw, .ref mu, .ref mc, .ref mn, .int en, .int (nI sz), .ref mr, .int (nI wa), .ref mq, .int la, .ref md, .int at0, .int lk])), (mq, .inl (cB, 1000, .inl wq))]) [0, 1] rfl
        have hDc := hD.sub (ws' := [(y, .inr (5, [.int 0, .int (nI bi), .int (nI ne), .int (nI li), .int (nI sp), .int (nI q), .ref ms, .ref mw, .ref mu, .ref mc, .ref mn, .int en, .int (nI sz), .ref mr, .int (nI wa), .ref mq, .int la, .ref md, .int at0, .int lk])), (mq, .inl (cB, 1000, .inl wq))]) [0, 1] (by decide) rfl
        have hKc := hK.sub (tys' := [(cB, .byte)]) [0] rfl
        refine mci (va_runV (As := [.int b0]) (rest := []) ⟨hx, hb, hml, hown, hg⟩ (c_M_comes l D y ms mw mu mc mn mr mq md bi ne li sp q sz wa 0 en la at0 lk cB wq b0 hb0 hwa) (cwV 1 hg (gV gw_662 gw_664 gs_24 gw_7 gw_665) rfl rfl rfl (by decide +kernel) ⟨Nat.le_of_ble_eq_true rfl, Nat.le_of_ble_eq_true rfl⟩) ⟨fun a U g mk q => by obtain ⟨q0, qP, qK, qD⟩ := q; exact ⟨q0, qP, va_K.moved (u := U) (U := U.calling g mk a) (Vm.Alike.refl U.vm) qK, qD⟩, va_recv hKc hPc (ci := 5) (q0 := 0) rfl rfl, fun U hU hW => ⟨rfl, by rw [hU]; exact hPc, va_K.moved hW.alike hKc, hDc.weaken (fun _ _ _ _ => trivial)⟩⟩ rfl rfl hl.1 rfl (lv_room (Nat.le_of_ble_eq_true rfl)) d_M_feed_27 (⟨Nat.le_of_ble_eq_true rfl, Nat.le_of_ble_eq_true rfl⟩)) hS hP hD [0, 1] rfl rfl rfl (fun H locs hP hD hS => ?_)
        have hP : va_P D CLS [(y, .inr (5, [.int 0, .int (nI bi), .int (nI ne), .int (nI li), .int (nI sp), .int (nI q), .ref ms, .ref mw, .ref mu, .ref mc, .ref mn, .int en, .int (nI sz), .ref mr, .int (nI (wa + 1)), .ref mq, .int la, .ref md, .int at0, .int lk])), (mq, .inl (cB, 1000, .inl (upd wq wa b0)))] H := hP
        have hD : va_D A [(y, .inr (5, [.int 0, .int (nI bi), .int (nI ne), .int (nI li), .int (nI sp), .int (nI q), .ref ms, .ref mw, .ref mu, .ref mc, .ref mn, .int en, .int (nI sz), .ref mr, .int (nI (wa + 1)), .ref mq, .int la, .ref md, .int at0, .int lk])), (mq, .inl (cB, 1000, .inl (upd wq wa b0)))] := hD
        refine lv_if_eq (tgt := 37) hx hb d_M_feed_30 (by decide) (fun c_6 => ?_) (fun c_6 => ?_)
        · skip
          exact absurd c_6 (by decide)
        · skip
          refine lv_iconst (v := 1) hx hb d_M_feed_33 (by decide) ?_
          refine lv_goto (tgt := 38) hx hb d_M_feed_34 (by decide) ?_
          exact W.zret (v := 1) hx hb hr (rfl) (fun t ht hW => ⟨rfl, by rw [ht]; exact hP, (hAe ▸ hS).F ht⟩) (hAe ▸ hS).2.2 d_M_feed_38
set_option maxHeartbeats 4000000 in
set_option maxRecDepth 100000 in
theorem c_M_feedF (l : Launch) (D : va_G) (y ms mw mu mc mn mr mq md bi ne li sp q sz wa : Nat) (th en la at0 lk : Int32) (cB : ClassId) (wq : Nat → Int32) (b0 : Int32) (hb0 : b0 = 0 ∨ b0 = 1) (hwa : wa = 1000) : Met l y_M_feed (WSY y_M_feed b_M_feed 2 (some .boolean)) ({ frames := 1, cells := 0, slots := 0, locals := 21 }) (va_Pc [.ref y, .int b0] (fun U => va_P D CLS [(y, .inr (5, [.int th, .int (nI bi), .int (nI ne), .int (nI li), .int (nI sp), .int (nI q), .ref ms, .ref mw, .ref mu, .ref mc, .ref mn, .int en, .int (nI sz), .ref mr, .int (nI wa), .ref mq, .int la, .ref md, .int at0, .int lk])), (mq, .inl (cB, 1000, .inl wq))] U.heap ∧ va_K D CLS [(cB, .byte)] U ∧ va_D (fun _ => True) [(y, .inr (5, [.int th, .int (nI bi), .int (nI ne), .int (nI li), .int (nI sp), .int (nI q), .ref ms, .ref mw, .ref mu, .ref mc, .ref mn, .int en, .int (nI sz), .ref mr, .int (nI wa), .ref mq, .int la, .ref md, .int at0, .int lk])), (mq, .inl (cB, 1000, .inl wq))])) (QM (some (.int 0)) [(y, .inr (5, [.int th, .int (nI bi), .int (nI ne), .int (nI li), .int (nI sp), .int (nI q), .ref ms, .ref mw, .ref mu, .ref mc, .ref mn, .int en, .int (nI sz), .ref mr, .int (nI wa), .ref mq, .int la, .ref md, .int at0, .int lk])), (mq, .inl (cB, 1000, .inl wq))] [(y, .inr (5, [.int 0, .int (nI bi), .int (nI ne), .int (nI li), .int (nI sp), .int (nI q), .ref ms, .ref mw, .ref mu, .ref mc, .ref mn, .int en, .int (nI sz), .ref mr, .int (nI wa), .ref mq, .int la, .ref md, .int at0, .int lk])), (mq, .inl (cB, 1000, .inl wq))] D) 0 0 (ad [(y, .inr (5, [.int th, .int (nI bi), .int (nI ne), .int (nI li), .int (nI sp), .int (nI q), .ref ms, .ref mw, .ref mu, .ref mc, .ref mn, .int en, .int (nI sz), .ref mr, .int (nI wa), .ref mq, .int la, .ref md, .int at0, .int lk])), (mq, .inl (cB, 1000, .inl wq))]) := by
  refine Met.ofW (cc := b_M_feed) (maxL := 2) (ret := (some .boolean)) (by decide) rfl ?_
  intro p e s m args below meth c s₁ B hml hv
  obtain ⟨rfl, hP, hK, hD0⟩ := hv
  have hx := B.exec
  have hb := B.bytes
  have hr := B.returns
  have hts := atoms_spec (ws := WSY y_M_feed b_M_feed 2 (some .boolean)) B.pre
  have hg : ∀ w ∈ GW, w.before _ s = true := fun w h => hts w (List.mem_cons_of_mem _ h)
  have hown : s.vm.findClass "LineGolombModel" = some m.cls := findClass_of_methodNamed B.named
  have hlocks := B.notSynchronized
  obtain ⟨A, hAe⟩ : ∃ A, A = ad [(y, .inr (5, [.int th, .int (nI bi), .int (nI ne), .int (nI li), .int (nI sp), .int (nI q), .ref ms, .ref mw, .ref mu, .ref mc, .ref mn, .int en, .int (nI sz), .ref mr, .int (nI wa), .ref mq, .int la, .ref md, .int at0, .int lk])), (mq, .inl (cB, 1000, .inl wq))] := ⟨_, rfl⟩
  have hD : va_D A [(y, .inr (5, [.int th, .int (nI bi), .int (nI ne), .int (nI li), .int (nI sp), .int (nI q), .ref ms, .ref mw, .ref mu, .ref mc, .ref mn, .int en, .int (nI sz), .ref mr, .int (nI wa), .ref mq, .int la, .ref md, .int at0, .int lk])), (mq, .inl (cB, 1000, .inl wq))] := by rw [hAe]; exact va_D_ad hD0
  have hS : va_S A s.heap s.heap [] := va_S.rf
  have hl := lv_entry ([.ref y, .int b0]) (n := 2) (Nat.le_of_ble_eq_true rfl)
  rw [lg_entry_eq]
  generalize (lg_sl ([.ref y, .int b0]) ++ List.replicate (2 - (lg_sl ([.ref y, .int b0])).length) Slot.unset).toArray = ls at hl ⊢
  have hl : lv_has ls 2 [(0, .ref y), (1, .int b0)] := hl
  refine lv_aload_n hx hb d_M_feed_0 rfl (lv_at hl 0 rfl) ?_
  refine lv_iload_n hx hb d_M_feed_1 rfl (lv_at hl 1 rfl) ?_
  refine lv_if_eq (tgt := 10) hx hb d_M_feed_2 (by decide) (fun c_1 => ?_) (fun c_1 => ?_)
  · skip
    refine lv_iconst (v := 0) hx hb d_M_feed_10 (by decide) ?_
    refine lv_goto (tgt := 15) hx hb d_M_feed_11 (by decide) ?_
    refine va_put (D := D) (ci := 5) (v := .int 0) (ty := .int) (C := R_M) (T := T_M) (N := 20) hx hb hg in_M ty_M tok_M nm_M hown hK hP hD hS 0 rfl rfl 0 (by decide) (hg _ gw_524) (fun _ h9 => h9) rfl (by decide +kernel) (rfl) (rfl) (Nat.le_of_ble_eq_true rfl) d_M_feed_15 (fun H locs hP hD hS => ?_)
    have hP : va_P D CLS [(y, .inr (5, [.int 0, .int (nI bi), .int (nI ne), .int (nI li), .int (nI sp), .int (nI q), .ref ms, .ref mw, .ref mu, .ref mc, .ref mn, .int en, .int (nI sz), .ref mr, .int (nI wa), .ref mq, .int la, .ref md, .int at0, .int lk])), (mq, .inl (cB, 1000, .inl wq))] H := hP
    have hD : va_D A [(y, .inr (5, [.int 0, .int (nI bi), .int (nI ne), .int (nI li), .int (nI sp), .int (nI q), .ref ms, .ref mw, .ref mu, .ref mc, .ref mn, .int en, .int (nI sz), .ref mr, .int (nI wa), .ref mq, .int la, .ref md, .int at0, .int lk])), (mq, .inl (cB, 1000, .inl wq))] := hD
    refine lv_aload_n hx hb d_M_feed_18 rfl (lv_at hl 0 rfl) ?_
    refine va_get (D := D) (ci := 5) (v := .int 0) (C := R_M) (T := T_M) (N := 20) hx hb hg in_M hown hK hP 0 rfl rfl 0 (by decide) (hg _ gw_524) (fun _ h9 => h9) rfl d_M_feed_19 ?_
    refine lv_if_ne (tgt := 37) hx hb d_M_feed_22 (by decide) (fun c_2 => ?_) (fun c_2 => ?_)
    · skip
      exact absurd rfl c_2
    · skip
      refine lv_aload_n hx hb d_M_feed_25 rfl (lv_at hl 0 rfl) ?_
      refine lv_iload_n hx hb d_M_feed_26 rfl (lv_at hl 1 rfl) ?_
      have hPc := hP.sub (ws' := [(y, .inr (5, [.int 0, .int (nI bi), .int (nI ne), .int (nI li), .int (nI sp), .int (nI q), .ref ms, .ref mw, .ref mu, .ref mc, .ref mn, .int en, .int (nI sz), .ref mr, .int (nI wa), .ref mq, .int la, .ref md, .int at0, .int lk])), (mq, .inl (cB, 1000, .inl wq))]) [0, 1] rfl
      have hDc := hD.sub (ws' := [(y, .inr (5, [.int 0, .int (nI bi), .int (nI ne), .int (nI li), .int (nI sp), .int (nI q), .ref ms, .ref mw, .ref mu, .ref mc, .ref mn, .int en, .int (nI sz), .ref mr, .int (nI wa), .ref mq, .int la, .ref md, .int at0, .int lk])), (mq, .inl (cB, 1000, .inl wq))]) [0, 1] (by decide) rfl
      have hKc := hK.sub (tys' := [(cB, .byte)]) [0] rfl
      refine mci (va_runV (As := [.int b0]) (rest := []) ⟨hx, hb, hml, hown, hg⟩ (c_M_comesF l D y ms mw mu mc mn mr mq md bi ne li sp q sz wa 0 en la at0 lk cB wq b0 hwa) (cwV 1 hg (gV gw_662 gw_664 gs_24 gw_7 gw_665) rfl rfl rfl (by decide +kernel) ⟨Nat.le_of_ble_eq_true rfl, Nat.le_of_ble_eq_true rfl⟩) ⟨fun a U g mk q => by obtain ⟨q0, qP, qK, qD⟩ := q; exact ⟨q0, qP, va_K.moved (u := U) (U := U.calling g mk a) (Vm.Alike.refl U.vm) qK, qD⟩, va_recv hKc hPc (ci := 5) (q0 := 0) rfl rfl, fun U hU hW => ⟨rfl, by rw [hU]; exact hPc, va_K.moved hW.alike hKc, hDc.weaken (fun _ _ _ _ => trivial)⟩⟩ rfl rfl hl.1 rfl (lv_room (Nat.le_of_ble_eq_true rfl)) d_M_feed_27 (⟨Nat.le_of_ble_eq_true rfl, Nat.le_of_ble_eq_true rfl⟩)) hS hP hD [0, 1] rfl rfl rfl (fun H locs hP hD hS => ?_)
      have hP : va_P D CLS [(y, .inr (5, [.int 0, .int (nI bi), .int (nI ne), .int (nI li), .int (nI sp), .int (nI q), .ref ms, .ref mw, .ref mu, .ref mc, .ref mn, .int en, .int (nI sz), .ref mr, .int (nI wa), .ref mq, .int la, .ref md, .int at0, .int lk])), (mq, .inl (cB, 1000, .inl wq))] H := hP
      have hD : va_D A [(y, .inr (5, [.int 0, .int (nI bi), .int (nI ne), .int (nI li), .int (nI sp), .int (nI q), .ref ms, .ref mw, .ref mu, .ref mc, .ref mn, .int en, .int (nI sz), .ref mr, .int (nI wa), .ref mq, .int la, .ref md, .int at0, .int lk])), (mq, .inl (cB, 1000, .inl wq))] := hD
      refine lv_if_eq (tgt := 37) hx hb d_M_feed_30 (by decide) (fun c_3 => ?_) (fun c_3 => ?_)
      · skip
        refine lv_iconst (v := 0) hx hb d_M_feed_37 (by decide) ?_
        exact W.zret (v := 0) hx hb hr (rfl) (fun t ht hW => ⟨rfl, by rw [ht]; exact hP, (hAe ▸ hS).F ht⟩) (hAe ▸ hS).2.2 d_M_feed_38
      · skip
        exact absurd rfl c_3
  · skip
    refine lv_iload_n hx hb d_M_feed_5 rfl (lv_at hl 1 rfl) ?_
    refine lv_iconst (v := 1) hx hb d_M_feed_6 (by decide) ?_
    refine lv_icmp_ne (tgt := 14) hx hb d_M_feed_7 (by decide) (fun c_4 => ?_) (fun c_4 => ?_)
    · skip
      exact absurd hb0 (fun q9 => q9.elim c_1 c_4)
    · skip
      refine lv_iconst (v := 0) hx hb d_M_feed_10 (by decide) ?_
      refine lv_goto (tgt := 15) hx hb d_M_feed_11 (by decide) ?_
      refine va_put (D := D) (ci := 5) (v := .int 0) (ty := .int) (C := R_M) (T := T_M) (N := 20) hx hb hg in_M ty_M tok_M nm_M hown hK hP hD hS 0 rfl rfl 0 (by decide) (hg _ gw_524) (fun _ h9 => h9) rfl (by decide +kernel) (rfl) (rfl) (Nat.le_of_ble_eq_true rfl) d_M_feed_15 (fun H locs hP hD hS => ?_)
      have hP : va_P D CLS [(y, .inr (5, [.int 0, .int (nI bi), .int (nI ne), .int (nI li), .int (nI sp), .int (nI q), .ref ms, .ref mw, .ref mu, .ref mc, .ref mn, .int en, .int (nI sz), .ref mr, .int (nI wa), .ref mq, .int la, .ref md, .int at0, .int lk])), (mq, .inl (cB, 1000, .inl wq))] H := hP
      have hD : va_D A [(y, .inr (5, [.int 0, .int (nI bi), .int (nI ne), .int (nI li), .int (nI sp), .int (nI q), .ref ms, .ref mw, .ref mu, .ref mc, .ref mn, .int en, .int (nI sz), .ref mr, .int (nI wa), .ref mq, .int la, .ref md, .int at0, .int lk])), (mq, .inl (cB, 1000, .inl wq))] := hD
      refine lv_aload_n hx hb d_M_feed_18 rfl (lv_at hl 0 rfl) ?_
      refine va_get (D := D) (ci := 5) (v := .int 0) (C := R_M) (T := T_M) (N := 20) hx hb hg in_M hown hK hP 0 rfl rfl 0 (by decide) (hg _ gw_524) (fun _ h9 => h9) rfl d_M_feed_19 ?_
      refine lv_if_ne (tgt := 37) hx hb d_M_feed_22 (by decide) (fun c_5 => ?_) (fun c_5 => ?_)
      · skip
        exact absurd rfl c_5
      · skip
        refine lv_aload_n hx hb d_M_feed_25 rfl (lv_at hl 0 rfl) ?_
        refine lv_iload_n hx hb d_M_feed_26 rfl (lv_at hl 1 rfl) ?_
        have hPc := hP.sub (ws' := [(y, .inr (5, [.int 0, .int (nI bi), .int (nI ne), .int (nI li), .int (nI sp), .int (nI q), .ref ms, .ref mw, .ref mu, .ref mc, .ref mn, .int en, .int (nI sz), .ref mr, .int (nI wa), .ref mq, .int la, .ref md, .int at0, .int lk])), (mq, .inl (cB, 1000, .inl wq))]) [0, 1] rfl
        have hDc := hD.sub (ws' := [(y, .inr (5, [.int 0, .int (nI bi), .int (nI ne), .int (nI li), .int (nI sp), .int (nI q), .ref ms, .ref mw, .ref mu, .ref mc, .ref mn, .int en, .int (nI sz), .ref mr, .int (nI wa), .ref mq, .int la, .ref md, .int at0, .int lk])), (mq, .inl (cB, 1000, .inl wq))]) [0, 1] (by decide) rfl
        have hKc := hK.sub (tys' := [(cB, .byte)]) [0] rfl
        refine mci (va_runV (As := [.int b0]) (rest := []) ⟨hx, hb, hml, hown, hg⟩ (c_M_comesF l D y ms mw mu mc mn mr mq md bi ne li sp q sz wa 0 en la at0 lk cB wq b0 hwa) (cwV 1 hg (gV gw_662 gw_664 gs_24 gw_7 gw_665) rfl rfl rfl (by decide +kernel) ⟨Nat.le_of_ble_eq_true rfl, Nat.le_of_ble_eq_true rfl⟩) ⟨fun a U g mk q => by obtain ⟨q0, qP, qK, qD⟩ := q; exact ⟨q0, qP, va_K.moved (u := U) (U := U.calling g mk a) (Vm.Alike.refl U.vm) qK, qD⟩, va_recv hKc hPc (ci := 5) (q0 := 0) rfl rfl, fun U hU hW => ⟨rfl, by rw [hU]; exact hPc, va_K.moved hW.alike hKc, hDc.weaken (fun _ _ _ _ => trivial)⟩⟩ rfl rfl hl.1 rfl (lv_room (Nat.le_of_ble_eq_true rfl)) d_M_feed_27 (⟨Nat.le_of_ble_eq_true rfl, Nat.le_of_ble_eq_true rfl⟩)) hS hP hD [0, 1] rfl rfl rfl (fun H locs hP hD hS => ?_)
        have hP : va_P D CLS [(y, .inr (5, [.int 0, .int (nI bi), .int (nI ne), .int (nI li), .int (nI sp), .int (nI q), .ref ms, .ref mw, .ref mu, .ref mc, .ref mn, .int en, .int (nI sz), .ref mr, .int (nI wa), .ref mq, .int la, .ref md, .int at0, .int lk])), (mq, .inl (cB, 1000, .inl wq))] H := hP
        have hD : va_D A [(y, .inr (5, [.int 0, .int (nI bi), .int (nI ne), .int (nI li), .int (nI sp), .int (nI q), .ref ms, .ref mw, .ref mu, .ref mc, .ref mn, .int en, .int (nI sz), .ref mr, .int (nI wa), .ref mq, .int la, .ref md, .int at0, .int lk])), (mq, .inl (cB, 1000, .inl wq))] := hD
        refine lv_if_eq (tgt := 37) hx hb d_M_feed_30 (by decide) (fun c_6 => ?_) (fun c_6 => ?_)
        · skip
          refine lv_iconst (v := 0) hx hb d_M_feed_37 (by decide) ?_
          exact W.zret (v := 0) hx hb hr (rfl) (fun t ht hW => ⟨rfl, by rw [ht]; exact hP, (hAe ▸ hS).F ht⟩) (hAe ▸ hS).2.2 d_M_feed_38
        · skip
          exact absurd rfl c_6
set_option maxHeartbeats 4000000 in
set_option maxRecDepth 100000 in
theorem c_M_feedT (l : Launch) (D : va_G) (y ms mw mu mc mn mr mq md bi ne li sp q sz wa : Nat) (th en la at0 lk : Int32) (v0 : Int32) (hbad : ¬ (v0 = 0 ∨ v0 = 1)) : Met l y_M_feed (WSY y_M_feed b_M_feed 2 (some .boolean)) ({ frames := 1, cells := 0, slots := 0, locals := 21 }) (va_Pc [.ref y, .int v0] (fun U => va_P D CLS [(y, .inr (5, [.int th, .int (nI bi), .int (nI ne), .int (nI li), .int (nI sp), .int (nI q), .ref ms, .ref mw, .ref mu, .ref mc, .ref mn, .int en, .int (nI sz), .ref mr, .int (nI wa), .ref mq, .int la, .ref md, .int at0, .int lk]))] U.heap ∧ va_K D CLS [] U ∧ va_D (fun _ => True) [(y, .inr (5, [.int th, .int (nI bi), .int (nI ne), .int (nI li), .int (nI sp), .int (nI q), .ref ms, .ref mw, .ref mu, .ref mc, .ref mn, .int en, .int (nI sz), .ref mr, .int (nI wa), .ref mq, .int la, .ref md, .int at0, .int lk]))])) (QM (some (.int 0)) [(y, .inr (5, [.int th, .int (nI bi), .int (nI ne), .int (nI li), .int (nI sp), .int (nI q), .ref ms, .ref mw, .ref mu, .ref mc, .ref mn, .int en, .int (nI sz), .ref mr, .int (nI wa), .ref mq, .int la, .ref md, .int at0, .int lk]))] [(y, .inr (5, [.int 1, .int (nI bi), .int (nI ne), .int (nI li), .int (nI sp), .int (nI q), .ref ms, .ref mw, .ref mu, .ref mc, .ref mn, .int en, .int (nI sz), .ref mr, .int (nI wa), .ref mq, .int la, .ref md, .int at0, .int lk]))] D) 0 0 (ad [(y, .inr (5, [.int th, .int (nI bi), .int (nI ne), .int (nI li), .int (nI sp), .int (nI q), .ref ms, .ref mw, .ref mu, .ref mc, .ref mn, .int en, .int (nI sz), .ref mr, .int (nI wa), .ref mq, .int la, .ref md, .int at0, .int lk]))]) := by
  refine Met.ofW (cc := b_M_feed) (maxL := 2) (ret := (some .boolean)) (by decide) rfl ?_
  intro p e s m args below meth c s₁ B hml hv
  obtain ⟨rfl, hP, hK, hD0⟩ := hv
  have hx := B.exec
  have hb := B.bytes
  have hr := B.returns
  have hts := atoms_spec (ws := WSY y_M_feed b_M_feed 2 (some .boolean)) B.pre
  have hg : ∀ w ∈ GW, w.before _ s = true := fun w h => hts w (List.mem_cons_of_mem _ h)
  have hown : s.vm.findClass "LineGolombModel" = some m.cls := findClass_of_methodNamed B.named
  have hlocks := B.notSynchronized
  obtain ⟨A, hAe⟩ : ∃ A, A = ad [(y, .inr (5, [.int th, .int (nI bi), .int (nI ne), .int (nI li), .int (nI sp), .int (nI q), .ref ms, .ref mw, .ref mu, .ref mc, .ref mn, .int en, .int (nI sz), .ref mr, .int (nI wa), .ref mq, .int la, .ref md, .int at0, .int lk]))] := ⟨_, rfl⟩
  have hD : va_D A [(y, .inr (5, [.int th, .int (nI bi), .int (nI ne), .int (nI li), .int (nI sp), .int (nI q), .ref ms, .ref mw, .ref mu, .ref mc, .ref mn, .int en, .int (nI sz), .ref mr, .int (nI wa), .ref mq, .int la, .ref md, .int at0, .int lk]))] := by rw [hAe]; exact va_D_ad hD0
  have hS : va_S A s.heap s.heap [] := va_S.rf
  have hl := lv_entry ([.ref y, .int v0]) (n := 2) (Nat.le_of_ble_eq_true rfl)
  rw [lg_entry_eq]
  generalize (lg_sl ([.ref y, .int v0]) ++ List.replicate (2 - (lg_sl ([.ref y, .int v0])).length) Slot.unset).toArray = ls at hl ⊢
  have hl : lv_has ls 2 [(0, .ref y), (1, .int v0)] := hl
  refine lv_aload_n hx hb d_M_feed_0 rfl (lv_at hl 0 rfl) ?_
  refine lv_iload_n hx hb d_M_feed_1 rfl (lv_at hl 1 rfl) ?_
  refine lv_if_eq (tgt := 10) hx hb d_M_feed_2 (by decide) (fun c_1 => ?_) (fun c_1 => ?_)
  · skip
    exact absurd (Or.inl c_1) hbad
  · skip
    refine lv_iload_n hx hb d_M_feed_5 rfl (lv_at hl 1 rfl) ?_
    refine lv_iconst (v := 1) hx hb d_M_feed_6 (by decide) ?_
    refine lv_icmp_ne (tgt := 14) hx hb d_M_feed_7 (by decide) (fun c_2 => ?_) (fun c_2 => ?_)
    · skip
      refine lv_iconst (v := 1) hx hb d_M_feed_14 (by decide) ?_
      refine va_put (D := D) (ci := 5) (v := .int 1) (ty := .int) (C := R_M) (T := T_M) (N := 20) hx hb hg in_M ty_M tok_M nm_M hown hK hP hD hS 0 rfl rfl 0 (by decide) (hg _ gw_524) (fun _ h9 => h9) rfl (by decide +kernel) (rfl) (rfl) (Nat.le_of_ble_eq_true rfl) d_M_feed_15 (fun H locs hP hD hS => ?_)
      have hP : va_P D CLS [(y, .inr (5, [.int 1, .int (nI bi), .int (nI ne), .int (nI li), .int (nI sp), .int (nI q), .ref ms, .ref mw, .ref mu, .ref mc, .ref mn, .int en, .int (nI sz), .ref mr, .int (nI wa), .ref mq, .int la, .ref md, .int at0, .int lk]))] H := hP
      have hD : va_D A [(y, .inr (5, [.int 1, .int (nI bi), .int (nI ne), .int (nI li), .int (nI sp), .int (nI q), .ref ms, .ref mw, .ref mu, .ref mc, .ref mn, .int en, .int (nI sz), .ref mr, .int (nI wa), .ref mq, .int la, .ref md, .int at0, .int lk]))] := hD
      refine lv_aload_n hx hb d_M_feed_18 rfl (lv_at hl 0 rfl) ?_
      refine va_get (D := D) (ci := 5) (v := .int 1) (C := R_M) (T := T_M) (N := 20) hx hb hg in_M hown hK hP 0 rfl rfl 0 (by decide) (hg _ gw_524) (fun _ h9 => h9) rfl d_M_feed_19 ?_
      refine lv_if_ne (tgt := 37) hx hb d_M_feed_22 (by decide) (fun c_3 => ?_) (fun c_3 => ?_)
      · skip
        refine lv_iconst (v := 0) hx hb d_M_feed_37 (by decide) ?_
        exact W.zret (v := 0) hx hb hr (rfl) (fun t ht hW => ⟨rfl, by rw [ht]; exact hP, (hAe ▸ hS).F ht⟩) (hAe ▸ hS).2.2 d_M_feed_38
      · skip
        exact absurd c_3 (by decide)
    · skip
      exact absurd (Or.inr c_2) hbad
set_option maxHeartbeats 4000000 in
set_option maxRecDepth 100000 in
theorem c_M_map (l : Launch) (D : va_G) (y ms mw mu mc mn mr mq md bi ne li sp q sz wa : Nat) (th en la at0 lk : Int32) (e0 sp1 : Int32) (h1 : ¬ e0 < -65536) (h2 : ¬ 65536 < e0) : Met l y_M_map (WSY y_M_map b_M_map 3 (some .int)) ({ frames := 0, cells := 0, slots := 0, locals := 0 }) (va_Pc [.ref y, .int e0, .int sp1] (fun U => va_P D CLS [(y, .inr (5, [.int th, .int (nI bi), .int (nI ne), .int (nI li), .int (nI sp), .int (nI q), .ref ms, .ref mw, .ref mu, .ref mc, .ref mn, .int en, .int (nI sz), .ref mr, .int (nI wa), .ref mq, .int la, .ref md, .int at0, .int lk]))] U.heap ∧ va_K D CLS [] U ∧ va_D (fun _ => True) [(y, .inr (5, [.int th, .int (nI bi), .int (nI ne), .int (nI li), .int (nI sp), .int (nI q), .ref ms, .ref mw, .ref mu, .ref mc, .ref mn, .int en, .int (nI sz), .ref mr, .int (nI wa), .ref mq, .int la, .ref md, .int at0, .int lk]))])) (QM (some (.int (if e0 < 0 then (-2) * e0 - (if sp1 = 0 then 1 else 2) else 2 * e0 + (if sp1 = 0 then 0 else 1)))) [(y, .inr (5, [.int th, .int (nI bi), .int (nI ne), .int (nI li), .int (nI sp), .int (nI q), .ref ms, .ref mw, .ref mu, .ref mc, .ref mn, .int en, .int (nI sz), .ref mr, .int (nI wa), .ref mq, .int la, .ref md, .int at0, .int lk]))] [(y, .inr (5, [.int 0, .int (nI bi), .int (nI ne), .int (nI li), .int (nI sp), .int (nI q), .ref ms, .ref mw, .ref mu, .ref mc, .ref mn, .int en, .int (nI sz), .ref mr, .int (nI wa), .ref mq, .int la, .ref md, .int at0, .int lk]))] D) 0 0 (ad [(y, .inr (5, [.int th, .int (nI bi), .int (nI ne), .int (nI li), .int (nI sp), .int (nI q), .ref ms, .ref mw, .ref mu, .ref mc, .ref mn, .int en, .int (nI sz), .ref mr, .int (nI wa), .ref mq, .int la, .ref md, .int at0, .int lk]))]) := by
  refine Met.ofW (cc := b_M_map) (maxL := 3) (ret := (some .int)) (by decide) rfl ?_
  intro p e s m args below meth c s₁ B hml hv
  obtain ⟨rfl, hP, hK, hD0⟩ := hv
  have hx := B.exec
  have hb := B.bytes
  have hr := B.returns
  have hts := atoms_spec (ws := WSY y_M_map b_M_map 3 (some .int)) B.pre
  have hg : ∀ w ∈ GW, w.before _ s = true := fun w h => hts w (List.mem_cons_of_mem _ h)
  have hown : s.vm.findClass "LineGolombModel" = some m.cls := findClass_of_methodNamed B.named
  have hlocks := B.notSynchronized
  obtain ⟨A, hAe⟩ : ∃ A, A = ad [(y, .inr (5, [.int th, .int (nI bi), .int (nI ne), .int (nI li), .int (nI sp), .int (nI q), .ref ms, .ref mw, .ref mu, .ref mc, .ref mn, .int en, .int (nI sz), .ref mr, .int (nI wa), .ref mq, .int la, .ref md, .int at0, .int lk]))] := ⟨_, rfl⟩
  have hD : va_D A [(y, .inr (5, [.int th, .int (nI bi), .int (nI ne), .int (nI li), .int (nI sp), .int (nI q), .ref ms, .ref mw, .ref mu, .ref mc, .ref mn, .int en, .int (nI sz), .ref mr, .int (nI wa), .ref mq, .int la, .ref md, .int at0, .int lk]))] := by rw [hAe]; exact va_D_ad hD0
  have hS : va_S A s.heap s.heap [] := va_S.rf
  have hl := lv_entry ([.ref y, .int e0, .int sp1]) (n := 3) (Nat.le_of_ble_eq_true rfl)
  rw [lg_entry_eq]
  generalize (lg_sl ([.ref y, .int e0, .int sp1]) ++ List.replicate (3 - (lg_sl ([.ref y, .int e0, .int sp1])).length) Slot.unset).toArray = ls at hl ⊢
  have hl : lv_has ls 3 [(0, .ref y), (1, .int e0), (2, .int sp1)] := hl
  refine lv_aload_n hx hb d_M_map_0 rfl (lv_at hl 0 rfl) ?_
  refine lv_iload_n hx hb d_M_map_1 rfl (lv_at hl 1 rfl) ?_
  refine lv_ldc (v := (-65536)) hx hb hown (hg _ gw_711) d_M_map_2 ?_
  refine lv_icmp_lt (tgt := 13) hx hb d_M_map_4 (by decide) (fun c_1 => ?_) (fun c_1 => ?_)
  · skip
    exact absurd c_1 h1
  · skip
    refine lv_iload_n hx hb d_M_map_7 rfl (lv_at hl 1 rfl) ?_
    refine lv_ldc (v := 65536) hx hb hown (hg _ gw_712) d_M_map_8 ?_
    refine lv_icmp_le (tgt := 17) hx hb d_M_map_10 (by decide) (fun c_2 => ?_) (fun c_2 => ?_)
    · skip
      refine lv_iconst (v := 0) hx hb d_M_map_17 (by decide) ?_
      refine va_put (D := D) (ci := 5) (v := .int 0) (ty := .int) (C := R_M) (T := T_M) (N := 20) hx hb hg in_M ty_M tok_M nm_M hown hK hP hD hS 0 rfl rfl 0 (by decide) (hg _ gw_524) (fun _ h9 => h9) rfl (by decide +kernel) (rfl) (rfl) (Nat.le_of_ble_eq_true rfl) d_M_map_18 (fun H locs hP hD hS => ?_)
      have hP : va_P D CLS [(y, .inr (5, [.int 0, .int (nI bi), .int (nI ne), .int (nI li), .int (nI sp), .int (nI q), .ref ms, .ref mw, .ref mu, .ref mc, .ref mn, .int en, .int (nI sz), .ref mr, .int (nI wa), .ref mq, .int la, .ref md, .int at0, .int lk]))] H := hP
      have hD : va_D A [(y, .inr (5, [.int 0, .int (nI bi), .int (nI ne), .int (nI li), .int (nI sp), .int (nI q), .ref ms, .ref mw, .ref mu, .ref mc, .ref mn, .int en, .int (nI sz), .ref mr, .int (nI wa), .ref mq, .int la, .ref md, .int at0, .int lk]))] := hD
      refine lv_aload_n hx hb d_M_map_21 rfl (lv_at hl 0 rfl) ?_
      refine va_get (D := D) (ci := 5) (v := .int 0) (C := R_M) (T := T_M) (N := 20) hx hb hg in_M hown hK hP 0 rfl rfl 0 (by decide) (hg _ gw_524) (fun _ h9 => h9) rfl d_M_map_22 ?_
      refine lv_if_le (tgt := 30) hx hb d_M_map_25 (by decide) (fun c_3 => ?_) (fun c_3 => ?_)
      · skip
        refine lv_iload_n hx hb d_M_map_30 rfl (lv_at hl 1 rfl) ?_
        refine lv_if_ge (tgt := 51) hx hb d_M_map_31 (by decide) (fun c_4 => ?_) (fun c_4 => ?_)
        · skip
          have hneg : ¬ e0 < 0 := Int32.not_lt.mpr c_4
          refine lv_iconst (v := 2) hx hb d_M_map_51 (by decide) ?_
          refine lv_iload_n hx hb d_M_map_52 rfl (lv_at hl 1 rfl) ?_
          refine lv_imul hx hb d_M_map_53 ?_
          refine lv_iload_n hx hb d_M_map_54 rfl (lv_at hl 2 rfl) ?_
          refine lv_if_eq (tgt := 62) hx hb d_M_map_55 (by decide) (fun c_5 => ?_) (fun c_5 => ?_)
          · skip
            refine lv_iconst (v := 0) hx hb d_M_map_62 (by decide) ?_
            refine lv_iadd hx hb d_M_map_63 ?_
            refine tpi (y := if e0 < 0 then (-2) * e0 - (if sp1 = 0 then 1 else 2) else 2 * e0 + (if sp1 = 0 then 0 else 1)) (by rw [if_neg hneg, if_pos c_5]) ?_
            exact W.iret (v := if e0 < 0 then (-2) * e0 - (if sp1 = 0 then 1 else 2) else 2 * e0 + (if sp1 = 0 then 0 else 1)) hx hb hr (fun t ht hW => ⟨rfl, by rw [ht]; exact hP, (hAe ▸ hS).F ht⟩) (hAe ▸ hS).2.2 d_M_map_64
          · skip
            refine lv_iconst (v := 1) hx hb d_M_map_58 (by decide) ?_
            refine lv_goto (tgt := 63) hx hb d_M_map_59 (by decide) ?_
            refine lv_iadd hx hb d_M_map_63 ?_
            refine tpi (y := if e0 < 0 then (-2) * e0 - (if sp1 = 0 then 1 else 2) else 2 * e0 + (if sp1 = 0 then 0 else 1)) (by rw [if_neg hneg, if_neg c_5]) ?_
            exact W.iret (v := if e0 < 0 then (-2) * e0 - (if sp1 = 0 then 1 else 2) else 2 * e0 + (if sp1 = 0 then 0 else 1)) hx hb hr (fun t ht hW => ⟨rfl, by rw [ht]; exact hP, (hAe ▸ hS).F ht⟩) (hAe ▸ hS).2.2 d_M_map_64
        · skip
          have hneg : e0 < 0 := Int32.not_le.mp c_4
          refine lv_bipush (v := (-2)) hx hb d_M_map_34 (by decide) ?_
          refine lv_iload_n hx hb d_M_map_36 rfl (lv_at hl 1 rfl) ?_
          refine lv_imul hx hb d_M_map_37 ?_
          refine lv_iload_n hx hb d_M_map_38 rfl (lv_at hl 2 rfl) ?_
          refine lv_if_eq (tgt := 46) hx hb d_M_map_39 (by decide) (fun c_6 => ?_) (fun c_6 => ?_)
          · skip
            refine lv_iconst (v := 1) hx hb d_M_map_46 (by decide) ?_
            refine lv_isub hx hb d_M_map_47 ?_
            refine lv_goto (tgt := 64) hx hb d_M_map_48 (by decide) ?_
            refine tpi (y := if e0 < 0 then (-2) * e0 - (if sp1 = 0 then 1 else 2) else 2 * e0 + (if sp1 = 0 then 0 else 1)) (by rw [if_pos hneg, if_pos c_6]) ?_
            exact W.iret (v := if e0 < 0 then (-2) * e0 - (if sp1 = 0 then 1 else 2) else 2 * e0 + (if sp1 = 0 then 0 else 1)) hx hb hr (fun t ht hW => ⟨rfl, by rw [ht]; exact hP, (hAe ▸ hS).F ht⟩) (hAe ▸ hS).2.2 d_M_map_64
          · skip
            refine lv_iconst (v := 2) hx hb d_M_map_42 (by decide) ?_
            refine lv_goto (tgt := 47) hx hb d_M_map_43 (by decide) ?_
            refine lv_isub hx hb d_M_map_47 ?_
            refine lv_goto (tgt := 64) hx hb d_M_map_48 (by decide) ?_
            refine tpi (y := if e0 < 0 then (-2) * e0 - (if sp1 = 0 then 1 else 2) else 2 * e0 + (if sp1 = 0 then 0 else 1)) (by rw [if_pos hneg, if_neg c_6]) ?_
            exact W.iret (v := if e0 < 0 then (-2) * e0 - (if sp1 = 0 then 1 else 2) else 2 * e0 + (if sp1 = 0 then 0 else 1)) hx hb hr (fun t ht hW => ⟨rfl, by rw [ht]; exact hP, (hAe ▸ hS).F ht⟩) (hAe ▸ hS).2.2 d_M_map_64
      · skip
        exact absurd (by decide) c_3
    · skip
      exact absurd (Int32.not_lt.mp h2) c_2
set_option maxHeartbeats 4000000 in
set_option maxRecDepth 100000 in
theorem c_M_mapT (l : Launch) (D : va_G) (y ms mw mu mc mn mr mq md bi ne li sp q sz wa : Nat) (th en la at0 lk : Int32) (v0 v1 : Int32) (hbad : v0 < -65536 ∨ 65536 < v0) : Met l y_M_map (WSY y_M_map b_M_map 3 (some .int)) ({ frames := 0, cells := 0, slots := 0, locals := 0 }) (va_Pc [.ref y, .int v0, .int v1] (fun U => va_P D CLS [(y, .inr (5, [.int th, .int (nI bi), .int (nI ne), .int (nI li), .int (nI sp), .int (nI q), .ref ms, .ref mw, .ref mu, .ref mc, .ref mn, .int en, .int (nI sz), .ref mr, .int (nI wa), .ref mq, .int la, .ref md, .int at0, .int lk]))] U.heap ∧ va_K D CLS [] U ∧ va_D (fun _ => True) [(y, .inr (5, [.int th, .int (nI bi), .int (nI ne), .int (nI li), .int (nI sp), .int (nI q), .ref ms, .ref mw, .ref mu, .ref mc, .ref mn, .int en, .int (nI sz), .ref mr, .int (nI wa), .ref mq, .int la, .ref md, .int at0, .int lk]))])) (QM (some (.int 0)) [(y, .inr (5, [.int th, .int (nI bi), .int (nI ne), .int (nI li), .int (nI sp), .int (nI q), .ref ms, .ref mw, .ref mu, .ref mc, .ref mn, .int en, .int (nI sz), .ref mr, .int (nI wa), .ref mq, .int la, .ref md, .int at0, .int lk]))] [(y, .inr (5, [.int 1, .int (nI bi), .int (nI ne), .int (nI li), .int (nI sp), .int (nI q), .ref ms, .ref mw, .ref mu, .ref mc, .ref mn, .int en, .int (nI sz), .ref mr, .int (nI wa), .ref mq, .int la, .ref md, .int at0, .int lk]))] D) 0 0 (ad [(y, .inr (5, [.int th, .int (nI bi), .int (nI ne), .int (nI li), .int (nI sp), .int (nI q), .ref ms, .ref mw, .ref mu, .ref mc, .ref mn, .int en, .int (nI sz), .ref mr, .int (nI wa), .ref mq, .int la, .ref md, .int at0, .int lk]))]) := by
  refine Met.ofW (cc := b_M_map) (maxL := 3) (ret := (some .int)) (by decide) rfl ?_
  intro p e s m args below meth c s₁ B hml hv
  obtain ⟨rfl, hP, hK, hD0⟩ := hv
  have hx := B.exec
  have hb := B.bytes
  have hr := B.returns
  have hts := atoms_spec (ws := WSY y_M_map b_M_map 3 (some .int)) B.pre
  have hg : ∀ w ∈ GW, w.before _ s = true := fun w h => hts w (List.mem_cons_of_mem _ h)
  have hown : s.vm.findClass "LineGolombModel" = some m.cls := findClass_of_methodNamed B.named
  have hlocks := B.notSynchronized
  obtain ⟨A, hAe⟩ : ∃ A, A = ad [(y, .inr (5, [.int th, .int (nI bi), .int (nI ne), .int (nI li), .int (nI sp), .int (nI q), .ref ms, .ref mw, .ref mu, .ref mc, .ref mn, .int en, .int (nI sz), .ref mr, .int (nI wa), .ref mq, .int la, .ref md, .int at0, .int lk]))] := ⟨_, rfl⟩
  have hD : va_D A [(y, .inr (5, [.int th, .int (nI bi), .int (nI ne), .int (nI li), .int (nI sp), .int (nI q), .ref ms, .ref mw, .ref mu, .ref mc, .ref mn, .int en, .int (nI sz), .ref mr, .int (nI wa), .ref mq, .int la, .ref md, .int at0, .int lk]))] := by rw [hAe]; exact va_D_ad hD0
  have hS : va_S A s.heap s.heap [] := va_S.rf
  have hl := lv_entry ([.ref y, .int v0, .int v1]) (n := 3) (Nat.le_of_ble_eq_true rfl)
  rw [lg_entry_eq]
  generalize (lg_sl ([.ref y, .int v0, .int v1]) ++ List.replicate (3 - (lg_sl ([.ref y, .int v0, .int v1])).length) Slot.unset).toArray = ls at hl ⊢
  have hl : lv_has ls 3 [(0, .ref y), (1, .int v0), (2, .int v1)] := hl
  refine lv_aload_n hx hb d_M_map_0 rfl (lv_at hl 0 rfl) ?_
  refine lv_iload_n hx hb d_M_map_1 rfl (lv_at hl 1 rfl) ?_
  refine lv_ldc (v := (-65536)) hx hb hown (hg _ gw_711) d_M_map_2 ?_
  refine lv_icmp_lt (tgt := 13) hx hb d_M_map_4 (by decide) (fun c_1 => ?_) (fun c_1 => ?_)
  · skip
    refine lv_iconst (v := 1) hx hb d_M_map_13 (by decide) ?_
    refine lv_goto (tgt := 18) hx hb d_M_map_14 (by decide) ?_
    refine va_put (D := D) (ci := 5) (v := .int 1) (ty := .int) (C := R_M) (T := T_M) (N := 20) hx hb hg in_M ty_M tok_M nm_M hown hK hP hD hS 0 rfl rfl 0 (by decide) (hg _ gw_524) (fun _ h9 => h9) rfl (by decide +kernel) (rfl) (rfl) (Nat.le_of_ble_eq_true rfl) d_M_map_18 (fun H locs hP hD hS => ?_)
    have hP : va_P D CLS [(y, .inr (5, [.int 1, .int (nI bi), .int (nI ne), .int (nI li), .int (nI sp), .int (nI q), .ref ms, .ref mw, .ref mu, .ref mc, .ref mn, .int en, .int (nI sz), .ref mr, .int (nI wa), .ref mq, .int la, .ref md, .int at0, .int lk]))] H := hP
    have hD : va_D A [(y, .inr (5, [.int 1, .int (nI bi), .int (nI ne), .int (nI li), .int (nI sp), .int (nI q), .ref ms, .ref mw, .ref mu, .ref mc, .ref mn, .int en, .int (nI sz), .ref mr, .int (nI wa), .ref mq, .int la, .ref md, .int at0, .int lk]))] := hD
    refine lv_aload_n hx hb d_M_map_21 rfl (lv_at hl 0 rfl) ?_
    refine va_get (D := D) (ci := 5) (v := .int 1) (C := R_M) (T := T_M) (N := 20) hx hb hg in_M hown hK hP 0 rfl rfl 0 (by decide) (hg _ gw_524) (fun _ h9 => h9) rfl d_M_map_22 ?_
    refine lv_if_le (tgt := 30) hx hb d_M_map_25 (by decide) (fun c_2 => ?_) (fun c_2 => ?_)
    · skip
      exact absurd c_2 (by decide)
    · skip
      refine lv_iconst (v := 0) hx hb d_M_map_28 (by decide) ?_
      exact W.iret (v := 0) hx hb hr (fun t ht hW => ⟨rfl, by rw [ht]; exact hP, (hAe ▸ hS).F ht⟩) (hAe ▸ hS).2.2 d_M_map_29
  · skip
    refine lv_iload_n hx hb d_M_map_7 rfl (lv_at hl 1 rfl) ?_
    refine lv_ldc (v := 65536) hx hb hown (hg _ gw_712) d_M_map_8 ?_
    refine lv_icmp_le (tgt := 17) hx hb d_M_map_10 (by decide) (fun c_3 => ?_) (fun c_3 => ?_)
    · skip
      exact absurd hbad (fun q9 => q9.elim c_1 (Int32.not_lt.mpr c_3))
    · skip
      refine lv_iconst (v := 1) hx hb d_M_map_13 (by decide) ?_
      refine lv_goto (tgt := 18) hx hb d_M_map_14 (by decide) ?_
      refine va_put (D := D) (ci := 5) (v := .int 1) (ty := .int) (C := R_M) (T := T_M) (N := 20) hx hb hg in_M ty_M tok_M nm_M hown hK hP hD hS 0 rfl rfl 0 (by decide) (hg _ gw_524) (fun _ h9 => h9) rfl (by decide +kernel) (rfl) (rfl) (Nat.le_of_ble_eq_true rfl) d_M_map_18 (fun H locs hP hD hS => ?_)
      have hP : va_P D CLS [(y, .inr (5, [.int 1, .int (nI bi), .int (nI ne), .int (nI li), .int (nI sp), .int (nI q), .ref ms, .ref mw, .ref mu, .ref mc, .ref mn, .int en, .int (nI sz), .ref mr, .int (nI wa), .ref mq, .int la, .ref md, .int at0, .int lk]))] H := hP
      have hD : va_D A [(y, .inr (5, [.int 1, .int (nI bi), .int (nI ne), .int (nI li), .int (nI sp), .int (nI q), .ref ms, .ref mw, .ref mu, .ref mc, .ref mn, .int en, .int (nI sz), .ref mr, .int (nI wa), .ref mq, .int la, .ref md, .int at0, .int lk]))] := hD
      refine lv_aload_n hx hb d_M_map_21 rfl (lv_at hl 0 rfl) ?_
      refine va_get (D := D) (ci := 5) (v := .int 1) (C := R_M) (T := T_M) (N := 20) hx hb hg in_M hown hK hP 0 rfl rfl 0 (by decide) (hg _ gw_524) (fun _ h9 => h9) rfl d_M_map_22 ?_
      refine lv_if_le (tgt := 30) hx hb d_M_map_25 (by decide) (fun c_4 => ?_) (fun c_4 => ?_)
      · skip
        exact absurd c_4 (by decide)
      · skip
        refine lv_iconst (v := 0) hx hb d_M_map_28 (by decide) ?_
        exact W.iret (v := 0) hx hb hr (fun t ht hW => ⟨rfl, by rw [ht]; exact hP, (hAe ▸ hS).F ht⟩) (hAe ▸ hS).2.2 d_M_map_29
set_option maxHeartbeats 4000000 in
set_option maxRecDepth 100000 in
theorem c_M_codeG (l : Launch) (D : va_G) (y ms mw mu mc mn mr mq md bi ne li sp q sz wa : Nat) (th en la at0 lk : Int32) (cB : ClassId) (wr dr : Nat → Int32) (K N : Nat) (hq : q ≤ 29) (hKq : K ≤ q) (hN : N ≤ 2 ^ q) (hli : q + 1 ≤ li) (hlb : li ≤ 200) (hsz : sz ≤ 6000) (hu : sz + nlen q K N (li - q - 1) ≤ 6000) : Met l y_M_code (WSY y_M_code b_M_code 3 (some .int)) ({ frames := 3, cells := 0, slots := 0, locals := 72 }) (va_Pc [.ref y, .int (nI K), .int (nI N)] (fun U => va_P D CLS [(y, .inr (5, [.int th, .int (nI bi), .int (nI ne), .int (nI li), .int (nI sp), .int (nI q), .ref ms, .ref mw, .ref mu, .ref mc, .ref mn, .int en, .int (nI sz), .ref mr, .int (nI wa), .ref mq, .int la, .ref md, .int at0, .int lk])), (mr, .inl (cB, 6000, .inl wr)), (md, .inl (cB, 400, .inl dr))] U.heap ∧ va_K D CLS [(cB, .byte)] U ∧ va_D (fun _ => True) [(y, .inr (5, [.int th, .int (nI bi), .int (nI ne), .int (nI li), .int (nI sp), .int (nI q), .ref ms, .ref mw, .ref mu, .ref mc, .ref mn, .int en, .int (nI sz), .ref mr, .int (nI wa), .ref mq, .int la, .ref md, .int at0, .int lk])), (mr, .inl (cB, 6000, .inl wr)), (md, .inl (cB, 400, .inl dr))])) (QM (some (.int (nI (0 + nlen q K N (li - q - 1))))) [(y, .inr (5, [.int th, .int (nI bi), .int (nI ne), .int (nI li), .int (nI sp), .int (nI q), .ref ms, .ref mw, .ref mu, .ref mc, .ref mn, .int en, .int (nI sz), .ref mr, .int (nI wa), .ref mq, .int la, .ref md, .int at0, .int lk])), (mr, .inl (cB, 6000, .inl wr)), (md, .inl (cB, 400, .inl dr))] [(y, .inr (5, [.int 0, .int (nI bi), .int (nI ne), .int (nI li), .int (nI sp), .int (nI q), .ref ms, .ref mw, .ref mu, .ref mc, .ref mn, .int en, .int (nI (sz + (0 + nlen q K N (li - q - 1)))), .ref mr, .int (nI wa), .ref mq, .int (nI (0 + nlen q K N (li - q - 1))), .ref md, .int at0, .int lk])), (mr, .inl (cB, 6000, .inl (cpw wr sz (wnum dr q K N (li - q - 1) 0) (0 + nlen q K N (li - q - 1))))), (md, .inl (cB, 400, .inl (wnum dr q K N (li - q - 1) 0)))] D) 0 0 (ad [(y, .inr (5, [.int th, .int (nI bi), .int (nI ne), .int (nI li), .int (nI sp), .int (nI q), .ref ms, .ref mw, .ref mu, .ref mc, .ref mn, .int en, .int (nI sz), .ref mr, .int (nI wa), .ref mq, .int la, .ref md, .int at0, .int lk])), (mr, .inl (cB, 6000, .inl wr)), (md, .inl (cB, 400, .inl dr))]) := by
  refine Met.ofW (cc := b_M_code) (maxL := 3) (ret := (some .int)) (by decide) rfl ?_
  intro p e s m args below meth c s₁ B hml hv
  obtain ⟨rfl, hP, hK, hD0⟩ := hv
  have hx := B.exec
  have hb := B.bytes
  have hr := B.returns
  have hts := atoms_spec (ws := WSY y_M_code b_M_code 3 (some .int)) B.pre
  have hg : ∀ w ∈ GW, w.before _ s = true := fun w h => hts w (List.mem_cons_of_mem _ h)
  have hown : s.vm.findClass "LineGolombModel" = some m.cls := findClass_of_methodNamed B.named
  have hlocks := B.notSynchronized
  obtain ⟨A, hAe⟩ : ∃ A, A = ad [(y, .inr (5, [.int th, .int (nI bi), .int (nI ne), .int (nI li), .int (nI sp), .int (nI q), .ref ms, .ref mw, .ref mu, .ref mc, .ref mn, .int en, .int (nI sz), .ref mr, .int (nI wa), .ref mq, .int la, .ref md, .int at0, .int lk])), (mr, .inl (cB, 6000, .inl wr)), (md, .inl (cB, 400, .inl dr))] := ⟨_, rfl⟩
  have hD : va_D A [(y, .inr (5, [.int th, .int (nI bi), .int (nI ne), .int (nI li), .int (nI sp), .int (nI q), .ref ms, .ref mw, .ref mu, .ref mc, .ref mn, .int en, .int (nI sz), .ref mr, .int (nI wa), .ref mq, .int la, .ref md, .int at0, .int lk])), (mr, .inl (cB, 6000, .inl wr)), (md, .inl (cB, 400, .inl dr))] := by rw [hAe]; exact va_D_ad hD0
  have hS : va_S A s.heap s.heap [] := va_S.rf
  have hl := lv_entry ([.ref y, .int (nI K), .int (nI N)]) (n := 3) (Nat.le_of_ble_eq_true rfl)
  rw [lg_entry_eq]
  generalize (lg_sl ([.ref y, .int (nI K), .int (nI N)]) ++ List.replicate (3 - (lg_sl ([.ref y, .int (nI K), .int (nI N)])).length) Slot.unset).toArray = ls at hl ⊢
  have hl : lv_has ls 3 [(0, .ref y), (1, .int (nI K)), (2, .int (nI N))] := hl
  have hp := pw30 (show q ≤ 30 by omega)
  have hq29 : 2 ^ q ≤ 2 ^ 29 := Nat.pow_le_pow_right (by decide) hq
  have hlen : nlen q K N (li - q - 1) ≤ 400 := by unfold nlen; split <;> omega
  refine lv_aload_n hx hb d_M_code_0 rfl (lv_at hl 0 rfl) ?_
  refine lv_iload_n hx hb d_M_code_1 rfl (lv_at hl 1 rfl) ?_
  refine lv_if_lt (tgt := 28) hx hb d_M_code_2 (by decide) (fun c_1 => ?_) (fun c_1 => ?_)
  · skip
    exact absurd c_1 (nI_pos (by omega))
  · skip
    refine lv_iload_n hx hb d_M_code_5 rfl (lv_at hl 1 rfl) ?_
    refine lv_aload_n hx hb d_M_code_6 rfl (lv_at hl 0 rfl) ?_
    refine va_get (D := D) (ci := 5) (v := .int (nI q)) (C := R_M) (T := T_M) (N := 20) hx hb hg in_M hown hK hP 0 rfl rfl 5 (by decide) (hg _ gw_529) (fun _ h9 => h9) rfl d_M_code_7 ?_
    refine lv_icmp_gt (tgt := 28) hx hb d_M_code_10 (by decide) (fun c_2 => ?_) (fun c_2 => ?_)
    · skip
      exact absurd c_2 (nI_nlt hKq (by omega))
    · skip
      refine lv_iload_n hx hb d_M_code_13 rfl (lv_at hl 2 rfl) ?_
      refine lv_if_lt (tgt := 28) hx hb d_M_code_14 (by decide) (fun c_3 => ?_) (fun c_3 => ?_)
      · skip
        exact absurd c_3 (nI_pos (by omega))
      · skip
        refine lv_iload_n hx hb d_M_code_17 rfl (lv_at hl 2 rfl) ?_
        refine lv_aload_n hx hb d_M_code_18 rfl (lv_at hl 0 rfl) ?_
        refine va_get (D := D) (ci := 5) (v := .int (nI q)) (C := R_M) (T := T_M) (N := 20) hx hb hg in_M hown hK hP 0 rfl rfl 5 (by decide) (hg _ gw_529) (fun _ h9 => h9) rfl d_M_code_19 ?_
        have hPc := hP.sub (ws' := []) [] rfl
        have hKc := hK.sub (tys' := []) [] rfl
        refine pci (va_runS (As := [.int (nI q)]) (rest := [.int (nI N), .ref y]) ⟨hx, hb, hml, hown, hg⟩ (c_M_power l D q (by omega)) (va_cwS 1 hg (gS gw_517 gw_518 gw_7 gw_519) rfl rfl rfl (by decide +kernel) ⟨Nat.le_of_ble_eq_true rfl, Nat.le_of_ble_eq_true rfl⟩) ⟨fun a U g mk q => by obtain ⟨q0, qP, qK⟩ := q; exact ⟨q0, qP, va_K.moved (u := U) (U := U.calling g mk a) (Vm.Alike.refl U.vm) qK⟩, fun U hU hW => ⟨rfl, by rw [hU]; exact hPc, va_K.moved hW.alike hKc⟩⟩ rfl rfl hl.1 rfl (lv_room (Nat.le_of_ble_eq_true rfl)) d_M_code_22 (⟨Nat.le_of_ble_eq_true rfl, Nat.le_of_ble_eq_true rfl⟩)) ?_
        refine lv_icmp_le (tgt := 32) hx hb d_M_code_25 (by decide) (fun c_4 => ?_) (fun c_4 => ?_)
        · skip
          refine lv_iconst (v := 0) hx hb d_M_code_32 (by decide) ?_
          refine va_put (D := D) (ci := 5) (v := .int 0) (ty := .int) (C := R_M) (T := T_M) (N := 20) hx hb hg in_M ty_M tok_M nm_M hown hK hP hD hS 0 rfl rfl 0 (by decide) (hg _ gw_524) (fun _ h9 => h9) rfl (by decide +kernel) (rfl) (rfl) (Nat.le_of_ble_eq_true rfl) d_M_code_33 (fun H locs hP hD hS => ?_)
          have hP : va_P D CLS [(y, .inr (5, [.int 0, .int (nI bi), .int (nI ne), .int (nI li), .int (nI sp), .int (nI q), .ref ms, .ref mw, .ref mu, .ref mc, .ref mn, .int en, .int (nI sz), .ref mr, .int (nI wa), .ref mq, .int la, .ref md, .int at0, .int lk])), (mr, .inl (cB, 6000, .inl wr)), (md, .inl (cB, 400, .inl dr))] H := hP
          have hD : va_D A [(y, .inr (5, [.int 0, .int (nI bi), .int (nI ne), .int (nI li), .int (nI sp), .int (nI q), .ref ms, .ref mw, .ref mu, .ref mc, .ref mn, .int en, .int (nI sz), .ref mr, .int (nI wa), .ref mq, .int la, .ref md, .int at0, .int lk])), (mr, .inl (cB, 6000, .inl wr)), (md, .inl (cB, 400, .inl dr))] := hD
          refine lv_aload_n hx hb d_M_code_36 rfl (lv_at hl 0 rfl) ?_
          refine va_get (D := D) (ci := 5) (v := .int 0) (C := R_M) (T := T_M) (N := 20) hx hb hg in_M hown hK hP 0 rfl rfl 0 (by decide) (hg _ gw_524) (fun _ h9 => h9) rfl d_M_code_37 ?_
          refine lv_if_le (tgt := 45) hx hb d_M_code_40 (by decide) (fun c_5 => ?_) (fun c_5 => ?_)
          · skip
            refine lv_aload_n hx hb d_M_code_45 rfl (lv_at hl 0 rfl) ?_
            refine lv_iconst (v := 0) hx hb d_M_code_46 (by decide) ?_
            refine tpi (y := nI 0) (rfl) ?_
            refine va_put (D := D) (ci := 5) (v := .int (nI 0)) (ty := .int) (C := R_M) (T := T_M) (N := 20) hx hb hg in_M ty_M tok_M nm_M hown hK hP hD hS 0 rfl rfl 16 (by decide) (hg _ gw_540) (fun _ h9 => h9) rfl (by decide +kernel) (rfl) (rfl) (Nat.le_of_ble_eq_true rfl) d_M_code_47 (fun H locs hP hD hS => ?_)
            have hP : va_P D CLS [(y, .inr (5, [.int 0, .int (nI bi), .int (nI ne), .int (nI li), .int (nI sp), .int (nI q), .ref ms, .ref mw, .ref mu, .ref mc, .ref mn, .int en, .int (nI sz), .ref mr, .int (nI wa), .ref mq, .int (nI 0), .ref md, .int at0, .int lk])), (mr, .inl (cB, 6000, .inl wr)), (md, .inl (cB, 400, .inl dr))] H := hP
            have hD : va_D A [(y, .inr (5, [.int 0, .int (nI bi), .int (nI ne), .int (nI li), .int (nI sp), .int (nI q), .ref ms, .ref mw, .ref mu, .ref mc, .ref mn, .int en, .int (nI sz), .ref mr, .int (nI wa), .ref mq, .int (nI 0), .ref md, .int at0, .int lk])), (mr, .inl (cB, 6000, .inl wr)), (md, .inl (cB, 400, .inl dr))] := hD
            refine lv_aload_n hx hb d_M_code_50 rfl (lv_at hl 0 rfl) ?_
            refine lv_iload_n hx hb d_M_code_51 rfl (lv_at hl 2 rfl) ?_
            refine lv_iload_n hx hb d_M_code_52 rfl (lv_at hl 1 rfl) ?_
            refine lv_aload_n hx hb d_M_code_53 rfl (lv_at hl 0 rfl) ?_
            refine va_get (D := D) (ci := 5) (v := .int (nI li)) (C := R_M) (T := T_M) (N := 20) hx hb hg in_M hown hK hP 0 rfl rfl 3 (by decide) (hg _ gw_527) (fun _ h9 => h9) rfl d_M_code_54 ?_
            have hPc := hP.sub (ws' := [(y, .inr (5, [.int 0, .int (nI bi), .int (nI ne), .int (nI li), .int (nI sp), .int (nI q), .ref ms, .ref mw, .ref mu, .ref mc, .ref mn, .int en, .int (nI sz), .ref mr, .int (nI wa), .ref mq, .int (nI 0), .ref md, .int at0, .int lk])), (md, .inl (cB, 400, .inl dr))]) [0, 2] rfl
            have hDc := hD.sub (ws' := [(y, .inr (5, [.int 0, .int (nI bi), .int (nI ne), .int (nI li), .int (nI sp), .int (nI q), .ref ms, .ref mw, .ref mu, .ref mc, .ref mn, .int en, .int (nI sz), .ref mr, .int (nI wa), .ref mq, .int (nI 0), .ref md, .int at0, .int lk])), (md, .inl (cB, 400, .inl dr))]) [0, 2] (by decide) rfl
            have hKc := hK.sub (tys' := [(cB, .byte)]) [0] rfl
            refine mcv (va_runV (As := [.int (nI N), .int (nI K), .int (nI li)]) (rest := []) ⟨hx, hb, hml, hown, hg⟩ (c_M_layNumber l D y ms mw mu mc mn mr mq md bi ne li sp q sz wa 0 en (nI 0) at0 lk cB dr 0 N K li (by omega) (by omega) (by omega) hli hlb (by omega)) (cwV 3 hg (gV gw_594 gw_596 gs_13 gw_7 gw_597) rfl rfl rfl (by decide +kernel) ⟨Nat.le_of_ble_eq_true rfl, Nat.le_of_ble_eq_true rfl⟩) ⟨fun a U g mk q => by obtain ⟨q0, qP, qK, qD⟩ := q; exact ⟨q0, qP, va_K.moved (u := U) (U := U.calling g mk a) (Vm.Alike.refl U.vm) qK, qD⟩, va_recv hKc hPc (ci := 5) (q0 := 0) rfl rfl, fun U hU hW => ⟨rfl, by rw [hU]; exact hPc, va_K.moved hW.alike hKc, hDc.weaken (fun _ _ _ _ => trivial)⟩⟩ rfl rfl hl.1 rfl (lv_room (Nat.le_of_ble_eq_true rfl)) d_M_code_57 (⟨Nat.le_of_ble_eq_true rfl, Nat.le_of_ble_eq_true rfl⟩)) hS hP hD [0, 2] rfl rfl rfl (fun H locs hP hD hS => ?_)
            have hP : va_P D CLS [(y, .inr (5, [.int 0, .int (nI bi), .int (nI ne), .int (nI li), .int (nI sp), .int (nI q), .ref ms, .ref mw, .ref mu, .ref mc, .ref mn, .int en, .int (nI sz), .ref mr, .int (nI wa), .ref mq, .int (nI (0 + nlen q K N (li - q - 1))), .ref md, .int at0, .int lk])), (mr, .inl (cB, 6000, .inl wr)), (md, .inl (cB, 400, .inl (wnum dr q K N (li - q - 1) 0)))] H := hP
            have hD : va_D A [(y, .inr (5, [.int 0, .int (nI bi), .int (nI ne), .int (nI li), .int (nI sp), .int (nI q), .ref ms, .ref mw, .ref mu, .ref mc, .ref mn, .int en, .int (nI sz), .ref mr, .int (nI wa), .ref mq, .int (nI (0 + nlen q K N (li - q - 1))), .ref md, .int at0, .int lk])), (mr, .inl (cB, 6000, .inl wr)), (md, .inl (cB, 400, .inl (wnum dr q K N (li - q - 1) 0)))] := hD
            refine lv_aload_n hx hb d_M_code_60 rfl (lv_at hl 0 rfl) ?_
            refine lv_aload_n hx hb d_M_code_61 rfl (lv_at hl 0 rfl) ?_
            have hPc := hP.sub (ws' := [(y, .inr (5, [.int 0, .int (nI bi), .int (nI ne), .int (nI li), .int (nI sp), .int (nI q), .ref ms, .ref mw, .ref mu, .ref mc, .ref mn, .int en, .int (nI sz), .ref mr, .int (nI wa), .ref mq, .int (nI (0 + nlen q K N (li - q - 1))), .ref md, .int at0, .int lk]))]) [0] rfl
            have hKc := hK.sub (tys' := []) [] rfl
            refine pci (va_runV (As := []) (rest := [.ref y]) ⟨hx, hb, hml, hown, hg⟩ (c_M_hasRoom l D y ms mw mu mc mn mr mq md bi ne li sp q sz wa 0 en (nI (0 + nlen q K N (li - q - 1))) at0 lk (0 + nlen q K N (li - q - 1)) hsz (by omega)) (cwV 0 hg (gV gw_606 gw_608 gs_16 gw_7 gw_609) rfl rfl rfl (by decide +kernel) ⟨Nat.le_of_ble_eq_true rfl, Nat.le_of_ble_eq_true rfl⟩) ⟨fun a U g mk q => by obtain ⟨q0, qP, qK⟩ := q; exact ⟨q0, qP, va_K.moved (u := U) (U := U.calling g mk a) (Vm.Alike.refl U.vm) qK⟩, va_recv hKc hPc (ci := 5) (q0 := 0) rfl rfl, fun U hU hW => ⟨rfl, by rw [hU]; exact hPc, va_K.moved hW.alike hKc⟩⟩ rfl rfl hl.1 rfl (lv_room (Nat.le_of_ble_eq_true rfl)) d_M_code_62 (⟨Nat.le_of_ble_eq_true rfl, Nat.le_of_ble_eq_true rfl⟩)) ?_
            refine tpi (y := 1) (if_pos (by omega)) ?_
            refine lv_if_eq (tgt := 72) hx hb d_M_code_65 (by decide) (fun c_6 => ?_) (fun c_6 => ?_)
            · skip
              exact absurd c_6 (by decide)
            · skip
              refine lv_iconst (v := 0) hx hb d_M_code_68 (by decide) ?_
              refine lv_goto (tgt := 73) hx hb d_M_code_69 (by decide) ?_
              refine va_put (D := D) (ci := 5) (v := .int 0) (ty := .int) (C := R_M) (T := T_M) (N := 20) hx hb hg in_M ty_M tok_M nm_M hown hK hP hD hS 0 rfl rfl 0 (by decide) (hg _ gw_524) (fun _ h9 => h9) rfl (by decide +kernel) (rfl) (rfl) (Nat.le_of_ble_eq_true rfl) d_M_code_73 (fun H locs hP hD hS => ?_)
              have hP : va_P D CLS [(y, .inr (5, [.int 0, .int (nI bi), .int (nI ne), .int (nI li), .int (nI sp), .int (nI q), .ref ms, .ref mw, .ref mu, .ref mc, .ref mn, .int en, .int (nI sz), .ref mr, .int (nI wa), .ref mq, .int (nI (0 + nlen q K N (li - q - 1))), .ref md, .int at0, .int lk])), (mr, .inl (cB, 6000, .inl wr)), (md, .inl (cB, 400, .inl (wnum dr q K N (li - q - 1) 0)))] H := hP
              have hD : va_D A [(y, .inr (5, [.int 0, .int (nI bi), .int (nI ne), .int (nI li), .int (nI sp), .int (nI q), .ref ms, .ref mw, .ref mu, .ref mc, .ref mn, .int en, .int (nI sz), .ref mr, .int (nI wa), .ref mq, .int (nI (0 + nlen q K N (li - q - 1))), .ref md, .int at0, .int lk])), (mr, .inl (cB, 6000, .inl wr)), (md, .inl (cB, 400, .inl (wnum dr q K N (li - q - 1) 0)))] := hD
              refine lv_aload_n hx hb d_M_code_76 rfl (lv_at hl 0 rfl) ?_
              refine va_get (D := D) (ci := 5) (v := .int 0) (C := R_M) (T := T_M) (N := 20) hx hb hg in_M hown hK hP 0 rfl rfl 0 (by decide) (hg _ gw_524) (fun _ h9 => h9) rfl d_M_code_77 ?_
              refine lv_if_le (tgt := 87) hx hb d_M_code_80 (by decide) (fun c_7 => ?_) (fun c_7 => ?_)
              · skip
                refine lv_aload_n hx hb d_M_code_87 rfl (lv_at hl 0 rfl) ?_
                have hPc := hP.sub (ws' := [(y, .inr (5, [.int 0, .int (nI bi), .int (nI ne), .int (nI li), .int (nI sp), .int (nI q), .ref ms, .ref mw, .ref mu, .ref mc, .ref mn, .int en, .int (nI sz), .ref mr, .int (nI wa), .ref mq, .int (nI (0 + nlen q K N (li - q - 1))), .ref md, .int at0, .int lk])), (mr, .inl (cB, 6000, .inl wr)), (md, .inl (cB, 400, .inl (wnum dr q K N (li - q - 1) 0)))]) [0, 1, 2] rfl
                have hDc := hD.sub (ws' := [(y, .inr (5, [.int 0, .int (nI bi), .int (nI ne), .int (nI li), .int (nI sp), .int (nI q), .ref ms, .ref mw, .ref mu, .ref mc, .ref mn, .int en, .int (nI sz), .ref mr, .int (nI wa), .ref mq, .int (nI (0 + nlen q K N (li - q - 1))), .ref md, .int at0, .int lk])), (mr, .inl (cB, 6000, .inl wr)), (md, .inl (cB, 400, .inl (wnum dr q K N (li - q - 1) 0)))]) [0, 1, 2] (by decide) rfl
                have hKc := hK.sub (tys' := [(cB, .byte)]) [0] rfl
                refine mci (va_runV (As := []) (rest := []) ⟨hx, hb, hml, hown, hg⟩ (c_M_write l D y ms mw mu mc mn mr mq md bi ne li sp q sz wa 0 en (nI (0 + nlen q K N (li - q - 1))) at0 lk cB wr (wnum dr q K N (li - q - 1) 0) (0 + nlen q K N (li - q - 1)) (by omega) (by omega) (fun j hj => wnum01 j (Nat.zero_le _) hj)) (cwV 0 hg (gV gw_610 gw_612 gs_17 gw_7 gw_613) rfl rfl rfl (by decide +kernel) ⟨Nat.le_of_ble_eq_true rfl, Nat.le_of_ble_eq_true rfl⟩) ⟨fun a U g mk q => by obtain ⟨q0, qP, qK, qD⟩ := q; exact ⟨q0, qP, va_K.moved (u := U) (U := U.calling g mk a) (Vm.Alike.refl U.vm) qK, qD⟩, va_recv hKc hPc (ci := 5) (q0 := 0) rfl rfl, fun U hU hW => ⟨rfl, by rw [hU]; exact hPc, va_K.moved hW.alike hKc, hDc.weaken (fun _ _ _ _ => trivial)⟩⟩ rfl rfl hl.1 rfl (lv_room (Nat.le_of_ble_eq_true rfl)) d_M_code_88 (⟨Nat.le_of_ble_eq_true rfl, Nat.le_of_ble_eq_true rfl⟩)) hS hP hD [0, 1, 2] rfl rfl rfl (fun H locs hP hD hS => ?_)
                have hP : va_P D CLS [(y, .inr (5, [.int 0, .int (nI bi), .int (nI ne), .int (nI li), .int (nI sp), .int (nI q), .ref ms, .ref mw, .ref mu, .ref mc, .ref mn, .int en, .int (nI (sz + (0 + nlen q K N (li - q - 1)))), .ref mr, .int (nI wa), .ref mq, .int (nI (0 + nlen q K N (li - q - 1))), .ref md, .int at0, .int lk])), (mr, .inl (cB, 6000, .inl (cpw wr sz (wnum dr q K N (li - q - 1) 0) (0 + nlen q K N (li - q - 1))))), (md, .inl (cB, 400, .inl (wnum dr q K N (li - q - 1) 0)))] H := hP
                have hD : va_D A [(y, .inr (5, [.int 0, .int (nI bi), .int (nI ne), .int (nI li), .int (nI sp), .int (nI q), .ref ms, .ref mw, .ref mu, .ref mc, .ref mn, .int en, .int (nI (sz + (0 + nlen q K N (li - q - 1)))), .ref mr, .int (nI wa), .ref mq, .int (nI (0 + nlen q K N (li - q - 1))), .ref md, .int at0, .int lk])), (mr, .inl (cB, 6000, .inl (cpw wr sz (wnum dr q K N (li - q - 1) 0) (0 + nlen q K N (li - q - 1))))), (md, .inl (cB, 400, .inl (wnum dr q K N (li - q - 1) 0)))] := hD
                exact W.iret (v := nI (0 + nlen q K N (li - q - 1))) hx hb hr (fun t ht hW => ⟨rfl, by rw [ht]; exact hP, (hAe ▸ hS).F ht⟩) (hAe ▸ hS).2.2 d_M_code_91
              · skip
                exact absurd (by decide) c_7
          · skip
            exact absurd (by decide) c_5
        · skip
          exact absurd (nI_le hN (by omega)) c_4
set_option maxHeartbeats 4000000 in
set_option maxRecDepth 100000 in
theorem c_M_codeU (l : Launch) (D : va_G) (y ms mw mu mc mn mr mq md bi ne li sp q sz wa : Nat) (th en la at0 lk : Int32) (cB : ClassId) (wr dr : Nat → Int32) (K N : Nat) (hq : q ≤ 29) (hKq : K ≤ q) (hN : N ≤ 2 ^ q) (hli : q + 1 ≤ li) (hlb : li ≤ 200) (hsz : sz ≤ 6000) (hu : ¬ sz + nlen q K N (li - q - 1) ≤ 6000) : Met l y_M_code (WSY y_M_code b_M_code 3 (some .int)) ({ frames := 3, cells := 0, slots := 0, locals := 72 }) (va_Pc [.ref y, .int (nI K), .int (nI N)] (fun U => va_P D CLS [(y, .inr (5, [.int th, .int (nI bi), .int (nI ne), .int (nI li), .int (nI sp), .int (nI q), .ref ms, .ref mw, .ref mu, .ref mc, .ref mn, .int en, .int (nI sz), .ref mr, .int (nI wa), .ref mq, .int la, .ref md, .int at0, .int lk])), (mr, .inl (cB, 6000, .inl wr)), (md, .inl (cB, 400, .inl dr))] U.heap ∧ va_K D CLS [(cB, .byte)] U ∧ va_D (fun _ => True) [(y, .inr (5, [.int th, .int (nI bi), .int (nI ne), .int (nI li), .int (nI sp), .int (nI q), .ref ms, .ref mw, .ref mu, .ref mc, .ref mn, .int en, .int (nI sz), .ref mr, .int (nI wa), .ref mq, .int la, .ref md, .int at0, .int lk])), (mr, .inl (cB, 6000, .inl wr)), (md, .inl (cB, 400, .inl dr))])) (QM (some (.int 0)) [(y, .inr (5, [.int th, .int (nI bi), .int (nI ne), .int (nI li), .int (nI sp), .int (nI q), .ref ms, .ref mw, .ref mu, .ref mc, .ref mn, .int en, .int (nI sz), .ref mr, .int (nI wa), .ref mq, .int la, .ref md, .int at0, .int lk])), (mr, .inl (cB, 6000, .inl wr)), (md, .inl (cB, 400, .inl dr))] [(y, .inr (5, [.int 2, .int (nI bi), .int (nI ne), .int (nI li), .int (nI sp), .int (nI q), .ref ms, .ref mw, .ref mu, .ref mc, .ref mn, .int en, .int (nI sz), .ref mr, .int (nI wa), .ref mq, .int (nI (0 + nlen q K N (li - q - 1))), .ref md, .int at0, .int lk])), (mr, .inl (cB, 6000, .inl wr)), (md, .inl (cB, 400, .inl (wnum dr q K N (li - q - 1) 0)))] D) 0 0 (ad [(y, .inr (5, [.int th, .int (nI bi), .int (nI ne), .int (nI li), .int (nI sp), .int (nI q), .ref ms, .ref mw, .ref mu, .ref mc, .ref mn, .int en, .int (nI sz), .ref mr, .int (nI wa), .ref mq, .int la, .ref md, .int at0, .int lk])), (mr, .inl (cB, 6000, .inl wr)), (md, .inl (cB, 400, .inl dr))]) := by
  refine Met.ofW (cc := b_M_code) (maxL := 3) (ret := (some .int)) (by decide) rfl ?_
  intro p e s m args below meth c s₁ B hml hv
  obtain ⟨rfl, hP, hK, hD0⟩ := hv
  have hx := B.exec
  have hb := B.bytes
  have hr := B.returns
  have hts := atoms_spec (ws := WSY y_M_code b_M_code 3 (some .int)) B.pre
  have hg : ∀ w ∈ GW, w.before _ s = true := fun w h => hts w (List.mem_cons_of_mem _ h)
  have hown : s.vm.findClass "LineGolombModel" = some m.cls := findClass_of_methodNamed B.named
  have hlocks := B.notSynchronized
  obtain ⟨A, hAe⟩ : ∃ A, A = ad [(y, .inr (5, [.int th, .int (nI bi), .int (nI ne), .int (nI li), .int (nI sp), .int (nI q), .ref ms, .ref mw, .ref mu, .ref mc, .ref mn, .int en, .int (nI sz), .ref mr, .int (nI wa), .ref mq, .int la, .ref md, .int at0, .int lk])), (mr, .inl (cB, 6000, .inl wr)), (md, .inl (cB, 400, .inl dr))] := ⟨_, rfl⟩
  have hD : va_D A [(y, .inr (5, [.int th, .int (nI bi), .int (nI ne), .int (nI li), .int (nI sp), .int (nI q), .ref ms, .ref mw, .ref mu, .ref mc, .ref mn, .int en, .int (nI sz), .ref mr, .int (nI wa), .ref mq, .int la, .ref md, .int at0, .int lk])), (mr, .inl (cB, 6000, .inl wr)), (md, .inl (cB, 400, .inl dr))] := by rw [hAe]; exact va_D_ad hD0
  have hS : va_S A s.heap s.heap [] := va_S.rf
  have hl := lv_entry ([.ref y, .int (nI K), .int (nI N)]) (n := 3) (Nat.le_of_ble_eq_true rfl)
  rw [lg_entry_eq]
  generalize (lg_sl ([.ref y, .int (nI K), .int (nI N)]) ++ List.replicate (3 - (lg_sl ([.ref y, .int (nI K), .int (nI N)])).length) Slot.unset).toArray = ls at hl ⊢
  have hl : lv_has ls 3 [(0, .ref y), (1, .int (nI K)), (2, .int (nI N))] := hl
  have hp := pw30 (show q ≤ 30 by omega)
  have hq29 : 2 ^ q ≤ 2 ^ 29 := Nat.pow_le_pow_right (by decide) hq
  have hlen : nlen q K N (li - q - 1) ≤ 400 := by unfold nlen; split <;> omega
  refine lv_aload_n hx hb d_M_code_0 rfl (lv_at hl 0 rfl) ?_
  refine lv_iload_n hx hb d_M_code_1 rfl (lv_at hl 1 rfl) ?_
  refine lv_if_lt (tgt := 28) hx hb d_M_code_2 (by decide) (fun c_1 => ?_) (fun c_1 => ?_)
  · skip
    exact absurd c_1 (nI_pos (by omega))
  · skip
    refine lv_iload_n hx hb d_M_code_5 rfl (lv_at hl 1 rfl) ?_
    refine lv_aload_n hx hb d_M_code_6 rfl (lv_at hl 0 rfl) ?_
    refine va_get (D := D) (ci := 5) (v := .int (nI q)) (C := R_M) (T := T_M) (N := 20) hx hb hg in_M hown hK hP 0 rfl rfl 5 (by decide) (hg _ gw_529) (fun _ h9 => h9) rfl d_M_code_7 ?_
    refine lv_icmp_gt (tgt := 28) hx hb d_M_code_10 (by decide) (fun c_2 => ?_) (fun c_2 => ?_)
    · skip
      exact absurd c_2 (nI_nlt hKq (by omega))
    · skip
      refine lv_iload_n hx hb d_M_code_13 rfl (lv_at hl 2 rfl) ?_
      refine lv_if_lt (tgt := 28) hx hb d_M_code_14 (by decide) (fun c_3 => ?_) (fun c_3 => ?_)
      · skip
        exact absurd c_3 (nI_pos (by omega))
      · skip
        refine lv_iload_n hx hb d_M_code_17 rfl (lv_at hl 2 rfl) ?_
        refine lv_aload_n hx hb d_M_code_18 rfl (lv_at hl 0 rfl) ?_
        refine va_get (D := D) (ci := 5) (v := .int (nI q)) (C := R_M) (T := T_M) (N := 20) hx hb hg in_M hown hK hP 0 rfl rfl 5 (by decide) (hg _ gw_529) (fun _ h9 => h9) rfl d_M_code_19 ?_
        have hPc := hP.sub (ws' := []) [] rfl
        have hKc := hK.sub (tys' := []) [] rfl
        refine pci (va_runS (As := [.int (nI q)]) (rest := [.int (nI N), .ref y]) ⟨hx, hb, hml, hown, hg⟩ (c_M_power l D q (by omega)) (va_cwS 1 hg (gS gw_517 gw_518 gw_7 gw_519) rfl rfl rfl (by decide +kernel) ⟨Nat.le_of_ble_eq_true rfl, Nat.le_of_ble_eq_true rfl⟩) ⟨fun a U g mk q => by obtain ⟨q0, qP, qK⟩ := q; exact ⟨q0, qP, va_K.moved (u := U) (U := U.calling g mk a) (Vm.Alike.refl U.vm) qK⟩, fun U hU hW => ⟨rfl, by rw [hU]; exact hPc, va_K.moved hW.alike hKc⟩⟩ rfl rfl hl.1 rfl (lv_room (Nat.le_of_ble_eq_true rfl)) d_M_code_22 (⟨Nat.le_of_ble_eq_true rfl, Nat.le_of_ble_eq_true rfl⟩)) ?_
        refine lv_icmp_le (tgt := 32) hx hb d_M_code_25 (by decide) (fun c_4 => ?_) (fun c_4 => ?_)
        · skip
          refine lv_iconst (v := 0) hx hb d_M_code_32 (by decide) ?_
          refine va_put (D := D) (ci := 5) (v := .int 0) (ty := .int) (C := R_M) (T := T_M) (N := 20) hx hb hg in_M ty_M tok_M nm_M hown hK hP hD hS 0 rfl rfl 0 (by decide) (hg _ gw_524) (fun _ h9 => h9) rfl (by decide +kernel) (rfl) (rfl) (Nat.le_of_ble_eq_true rfl) d_M_code_33 (fun H locs hP hD hS => ?_)
          have hP : va_P D CLS [(y, .inr (5, [.int 0, .int (nI bi), .int (nI ne), .int (nI li), .int (nI sp), .int (nI q), .ref ms, .ref mw, .ref mu, .ref mc, .ref mn, .int en, .int (nI sz), .ref mr, .int (nI wa), .ref mq, .int la, .ref md, .int at0, .int lk])), (mr, .inl (cB, 6000, .inl wr)), (md, .inl (cB, 400, .inl dr))] H := hP
          have hD : va_D A [(y, .inr (5, [.int 0, .int (nI bi), .int (nI ne), .int (nI li), .int (nI sp), .int (nI q), .ref ms, .ref mw, .ref mu, .ref mc, .ref mn, .int en, .int (nI sz), .ref mr, .int (nI wa), .ref mq, .int la, .ref md, .int at0, .int lk])), (mr, .inl (cB, 6000, .inl wr)), (md, .inl (cB, 400, .inl dr))] := hD
          refine lv_aload_n hx hb d_M_code_36 rfl (lv_at hl 0 rfl) ?_
          refine va_get (D := D) (ci := 5) (v := .int 0) (C := R_M) (T := T_M) (N := 20) hx hb hg in_M hown hK hP 0 rfl rfl 0 (by decide) (hg _ gw_524) (fun _ h9 => h9) rfl d_M_code_37 ?_
          refine lv_if_le (tgt := 45) hx hb d_M_code_40 (by decide) (fun c_5 => ?_) (fun c_5 => ?_)
          · skip
            refine lv_aload_n hx hb d_M_code_45 rfl (lv_at hl 0 rfl) ?_
            refine lv_iconst (v := 0) hx hb d_M_code_46 (by decide) ?_
            refine tpi (y := nI 0) (rfl) ?_
            refine va_put (D := D) (ci := 5) (v := .int (nI 0)) (ty := .int) (C := R_M) (T := T_M) (N := 20) hx hb hg in_M ty_M tok_M nm_M hown hK hP hD hS 0 rfl rfl 16 (by decide) (hg _ gw_540) (fun _ h9 => h9) rfl (by decide +kernel) (rfl) (rfl) (Nat.le_of_ble_eq_true rfl) d_M_code_47 (fun H locs hP hD hS => ?_)
            have hP : va_P D CLS [(y, .inr (5, [.int 0, .int (nI bi), .int (nI ne), .int (nI li), .int (nI sp), .int (nI q), .ref ms, .ref mw, .ref mu, .ref mc, .ref mn, .int en, .int (nI sz), .ref mr, .int (nI wa), .ref mq, .int (nI 0), .ref md, .int at0, .int lk])), (mr, .inl (cB, 6000, .inl wr)), (md, .inl (cB, 400, .inl dr))] H := hP
            have hD : va_D A [(y, .inr (5, [.int 0, .int (nI bi), .int (nI ne), .int (nI li), .int (nI sp), .int (nI q), .ref ms, .ref mw, .ref mu, .ref mc, .ref mn, .int en, .int (nI sz), .ref mr, .int (nI wa), .ref mq, .int (nI 0), .ref md, .int at0, .int lk])), (mr, .inl (cB, 6000, .inl wr)), (md, .inl (cB, 400, .inl dr))] := hD
            refine lv_aload_n hx hb d_M_code_50 rfl (lv_at hl 0 rfl) ?_
            refine lv_iload_n hx hb d_M_code_51 rfl (lv_at hl 2 rfl) ?_
            refine lv_iload_n hx hb d_M_code_52 rfl (lv_at hl 1 rfl) ?_
            refine lv_aload_n hx hb d_M_code_53 rfl (lv_at hl 0 rfl) ?_
            refine va_get (D := D) (ci := 5) (v := .int (nI li)) (C := R_M) (T := T_M) (N := 20) hx hb hg in_M hown hK hP 0 rfl rfl 3 (by decide) (hg _ gw_527) (fun _ h9 => h9) rfl d_M_code_54 ?_
            have hPc := hP.sub (ws' := [(y, .inr (5, [.int 0, .int (nI bi), .int (nI ne), .int (nI li), .int (nI sp), .int (nI q), .ref ms, .ref mw, .ref mu, .ref mc, .ref mn, .int en, .int (nI sz), .ref mr, .int (nI wa), .ref mq, .int (nI 0), .ref md, .int at0, .int lk])), (md, .inl (cB, 400, .inl dr))]) [0, 2] rfl
            have hDc := hD.sub (ws' := [(y, .inr (5, [.int 0, .int (nI bi), .int (nI ne), .int (nI li), .int (nI sp), .int (nI q), .ref ms, .ref mw, .ref mu, .ref mc, .ref mn, .int en, .int (nI sz), .ref mr, .int (nI wa), .ref mq, .int (nI 0), .ref md, .int at0, .int lk])), (md, .inl (cB, 400, .inl dr))]) [0, 2] (by decide) rfl
            have hKc := hK.sub (tys' := [(cB, .byte)]) [0] rfl
            refine mcv (va_runV (As := [.int (nI N), .int (nI K), .int (nI li)]) (rest := []) ⟨hx, hb, hml, hown, hg⟩ (c_M_layNumber l D y ms mw mu mc mn mr mq md bi ne li sp q sz wa 0 en (nI 0) at0 lk cB dr 0 N K li (by omega) (by omega) (by omega) hli hlb (by omega)) (cwV 3 hg (gV gw_594 gw_596 gs_13 gw_7 gw_597) rfl rfl rfl (by decide +kernel) ⟨Nat.le_of_ble_eq_true rfl, Nat.le_of_ble_eq_true rfl⟩) ⟨fun a U g mk q => by obtain ⟨q0, qP, qK, qD⟩ := q; exact ⟨q0, qP, va_K.moved (u := U) (U := U.calling g mk a) (Vm.Alike.refl U.vm) qK, qD⟩, va_recv hKc hPc (ci := 5) (q0 := 0) rfl rfl, fun U hU hW => ⟨rfl, by rw [hU]; exact hPc, va_K.moved hW.alike hKc, hDc.weaken (fun _ _ _ _ => trivial)⟩⟩ rfl rfl hl.1 rfl (lv_room (Nat.le_of_ble_eq_true rfl)) d_M_code_57 (⟨Nat.le_of_ble_eq_true rfl, Nat.le_of_ble_eq_true rfl⟩)) hS hP hD [0, 2] rfl rfl rfl (fun H locs hP hD hS => ?_)
            have hP : va_P D CLS [(y, .inr (5, [.int 0, .int (nI bi), .int (nI ne), .int (nI li), .int (nI sp), .int (nI q), .ref ms, .ref mw, .ref mu, .ref mc, .ref mn, .int en, .int (nI sz), .ref mr, .int (nI wa), .ref mq, .int (nI (0 + nlen q K N (li - q - 1))), .ref md, .int at0, .int lk])), (mr, .inl (cB, 6000, .inl wr)), (md, .inl (cB, 400, .inl (wnum dr q K N (li - q - 1) 0)))] H := hP
            have hD : va_D A [(y, .inr (5, [.int 0, .int (nI bi), .int (nI ne), .int (nI li), .int (nI sp), .int (nI q), .ref ms, .ref mw, .ref mu, .ref mc, .ref mn, .int en, .int (nI sz), .ref mr, .int (nI wa), .ref mq, .int (nI (0 + nlen q K N (li - q - 1))), .ref md, .int at0, .int lk])), (mr, .inl (cB, 6000, .inl wr)), (md, .inl (cB, 400, .inl (wnum dr q K N (li - q - 1) 0)))] := hD
            refine lv_aload_n hx hb d_M_code_60 rfl (lv_at hl 0 rfl) ?_
            refine lv_aload_n hx hb d_M_code_61 rfl (lv_at hl 0 rfl) ?_
            have hPc := hP.sub (ws' := [(y, .inr (5, [.int 0, .int (nI bi), .int (nI ne), .int (nI li), .int (nI sp), .int (nI q), .ref ms, .ref mw, .ref mu, .ref mc, .ref mn, .int en, .int (nI sz), .ref mr, .int (nI wa), .ref mq, .int (nI (0 + nlen q K N (li - q - 1))), .ref md, .int at0, .int lk]))]) [0] rfl
            have hKc := hK.sub (tys' := []) [] rfl
            refine pci (va_runV (As := []) (rest := [.ref y]) ⟨hx, hb, hml, hown, hg⟩ (c_M_hasRoom l D y ms mw mu mc mn mr mq md bi ne li sp q sz wa 0 en (nI (0 + nlen q K N (li - q - 1))) at0 lk (0 + nlen q K N (li - q - 1)) hsz (by omega)) (cwV 0 hg (gV gw_606 gw_608 gs_16 gw_7 gw_609) rfl rfl rfl (by decide +kernel) ⟨Nat.le_of_ble_eq_true rfl, Nat.le_of_ble_eq_true rfl⟩) ⟨fun a U g mk q => by obtain ⟨q0, qP, qK⟩ := q; exact ⟨q0, qP, va_K.moved (u := U) (U := U.calling g mk a) (Vm.Alike.refl U.vm) qK⟩, va_recv hKc hPc (ci := 5) (q0 := 0) rfl rfl, fun U hU hW => ⟨rfl, by rw [hU]; exact hPc, va_K.moved hW.alike hKc⟩⟩ rfl rfl hl.1 rfl (lv_room (Nat.le_of_ble_eq_true rfl)) d_M_code_62 (⟨Nat.le_of_ble_eq_true rfl, Nat.le_of_ble_eq_true rfl⟩)) ?_
            refine tpi (y := 0) (if_neg (by omega)) ?_
            refine lv_if_eq (tgt := 72) hx hb d_M_code_65 (by decide) (fun c_6 => ?_) (fun c_6 => ?_)
            · skip
              refine lv_iconst (v := 2) hx hb d_M_code_72 (by decide) ?_
              refine va_put (D := D) (ci := 5) (v := .int 2) (ty := .int) (C := R_M) (T := T_M) (N := 20) hx hb hg in_M ty_M tok_M nm_M hown hK hP hD hS 0 rfl rfl 0 (by decide) (hg _ gw_524) (fun _ h9 => h9) rfl (by decide +kernel) (rfl) (rfl) (Nat.le_of_ble_eq_true rfl) d_M_code_73 (fun H locs hP hD hS => ?_)
              have hP : va_P D CLS [(y, .inr (5, [.int 2, .int (nI bi), .int (nI ne), .int (nI li), .int (nI sp), .int (nI q), .ref ms, .ref mw, .ref mu, .ref mc, .ref mn, .int en, .int (nI sz), .ref mr, .int (nI wa), .ref mq, .int (nI (0 + nlen q K N (li - q - 1))), .ref md, .int at0, .int lk])), (mr, .inl (cB, 6000, .inl wr)), (md, .inl (cB, 400, .inl (wnum dr q K N (li - q - 1) 0)))] H := hP
              have hD : va_D A [(y, .inr (5, [.int 2, .int (nI bi), .int (nI ne), .int (nI li), .int (nI sp), .int (nI q), .ref ms, .ref mw, .ref mu, .ref mc, .ref mn, .int en, .int (nI sz), .ref mr, .int (nI wa), .ref mq, .int (nI (0 + nlen q K N (li - q - 1))), .ref md, .int at0, .int lk])), (mr, .inl (cB, 6000, .inl wr)), (md, .inl (cB, 400, .inl (wnum dr q K N (li - q - 1) 0)))] := hD
              refine lv_aload_n hx hb d_M_code_76 rfl (lv_at hl 0 rfl) ?_
              refine va_get (D := D) (ci := 5) (v := .int 2) (C := R_M) (T := T_M) (N := 20) hx hb hg in_M hown hK hP 0 rfl rfl 0 (by decide) (hg _ gw_524) (fun _ h9 => h9) rfl d_M_code_77 ?_
              refine lv_if_le (tgt := 87) hx hb d_M_code_80 (by decide) (fun c_7 => ?_) (fun c_7 => ?_)
              · skip
                exact absurd c_7 (by decide)
              · skip
                refine lv_iconst (v := 0) hx hb d_M_code_83 (by decide) ?_
                refine lv_goto (tgt := 91) hx hb d_M_code_84 (by decide) ?_
                exact W.iret (v := 0) hx hb hr (fun t ht hW => ⟨rfl, by rw [ht]; exact hP, (hAe ▸ hS).F ht⟩) (hAe ▸ hS).2.2 d_M_code_91
            · skip
              exact absurd rfl c_6
          · skip
            exact absurd (by decide) c_5
        · skip
          exact absurd (nI_le hN (by omega)) c_4
set_option maxHeartbeats 4000000 in
set_option maxRecDepth 100000 in
theorem c_M_codeT (l : Launch) (D : va_G) (y ms mw mu mc mn mr mq md bi ne li sp q sz wa : Nat) (th en la at0 lk : Int32) (k0 v0 : Int32) (hq : q ≤ 29) (hbad : k0 < 0 ∨ nI q < k0 ∨ v0 < 0 ∨ nI (2 ^ q) < v0) : Met l y_M_code (WSY y_M_code b_M_code 3 (some .int)) ({ frames := 3, cells := 0, slots := 0, locals := 72 }) (va_Pc [.ref y, .int k0, .int v0] (fun U => va_P D CLS [(y, .inr (5, [.int th, .int (nI bi), .int (nI ne), .int (nI li), .int (nI sp), .int (nI q), .ref ms, .ref mw, .ref mu, .ref mc, .ref mn, .int en, .int (nI sz), .ref mr, .int (nI wa), .ref mq, .int la, .ref md, .int at0, .int lk]))] U.heap ∧ va_K D CLS [] U ∧ va_D (fun _ => True) [(y, .inr (5, [.int th, .int (nI bi), .int (nI ne), .int (nI li), .int (nI sp), .int (nI q), .ref ms, .ref mw, .ref mu, .ref mc, .ref mn, .int en, .int (nI sz), .ref mr, .int (nI wa), .ref mq, .int la, .ref md, .int at0, .int lk]))])) (QM (some (.int 0)) [(y, .inr (5, [.int th, .int (nI bi), .int (nI ne), .int (nI li), .int (nI sp), .int (nI q), .ref ms, .ref mw, .ref mu, .ref mc, .ref mn, .int en, .int (nI sz), .ref mr, .int (nI wa), .ref mq, .int la, .ref md, .int at0, .int lk]))] [(y, .inr (5, [.int 1, .int (nI bi), .int (nI ne), .int (nI li), .int (nI sp), .int (nI q), .ref ms, .ref mw, .ref mu, .ref mc, .ref mn, .int en, .int (nI sz), .ref mr, .int (nI wa), .ref mq, .int la, .ref md, .int at0, .int lk]))] D) 0 0 (ad [(y, .inr (5, [.int th, .int (nI bi), .int (nI ne), .int (nI li), .int (nI sp), .int (nI q), .ref ms, .ref mw, .ref mu, .ref mc, .ref mn, .int en, .int (nI sz), .ref mr, .int (nI wa), .ref mq, .int la, .ref md, .int at0, .int lk]))]) := by
  refine Met.ofW (cc := b_M_code) (maxL := 3) (ret := (some .int)) (by decide) rfl ?_
  intro p e s m args below meth c s₁ B hml hv
  obtain ⟨rfl, hP, hK, hD0⟩ := hv
  have hx := B.exec
  have hb := B.bytes
  have hr := B.returns
  have hts := atoms_spec (ws := WSY y_M_code b_M_code 3 (some .int)) B.pre
  have hg : ∀ w ∈ GW, w.before _ s = true := fun w h => hts w (List.mem_cons_of_mem _ h)
  have hown : s.vm.findClass "LineGolombModel" = some m.cls := findClass_of_methodNamed B.named
  have hlocks := B.notSynchronized
  obtain ⟨A, hAe⟩ : ∃ A, A = ad [(y, .inr (5, [.int th, .int (nI bi), .int (nI ne), .int (nI li), .int (nI sp), .int (nI q), .ref ms, .ref mw, .ref mu, .ref mc, .ref mn, .int en, .int (nI sz), .ref mr, .int (nI wa), .ref mq, .int la, .ref md, .int at0, .int lk]))] := ⟨_, rfl⟩
  have hD : va_D A [(y, .inr (5, [.int th, .int (nI bi), .int (nI ne), .int (nI li), .int (nI sp), .int (nI q), .ref ms, .ref mw, .ref mu, .ref mc, .ref mn, .int en, .int (nI sz), .ref mr, .int (nI wa), .ref mq, .int la, .ref md, .int at0, .int lk]))] := by rw [hAe]; exact va_D_ad hD0
  have hS : va_S A s.heap s.heap [] := va_S.rf
  have hl := lv_entry ([.ref y, .int k0, .int v0]) (n := 3) (Nat.le_of_ble_eq_true rfl)
  rw [lg_entry_eq]
  generalize (lg_sl ([.ref y, .int k0, .int v0]) ++ List.replicate (3 - (lg_sl ([.ref y, .int k0, .int v0])).length) Slot.unset).toArray = ls at hl ⊢
  have hl : lv_has ls 3 [(0, .ref y), (1, .int k0), (2, .int v0)] := hl
  refine lv_aload_n hx hb d_M_code_0 rfl (lv_at hl 0 rfl) ?_
  refine lv_iload_n hx hb d_M_code_1 rfl (lv_at hl 1 rfl) ?_
  refine lv_if_lt (tgt := 28) hx hb d_M_code_2 (by decide) (fun c_1 => ?_) (fun c_1 => ?_)
  · skip
    refine lv_iconst (v := 1) hx hb d_M_code_28 (by decide) ?_
    refine lv_goto (tgt := 33) hx hb d_M_code_29 (by decide) ?_
    refine va_put (D := D) (ci := 5) (v := .int 1) (ty := .int) (C := R_M) (T := T_M) (N := 20) hx hb hg in_M ty_M tok_M nm_M hown hK hP hD hS 0 rfl rfl 0 (by decide) (hg _ gw_524) (fun _ h9 => h9) rfl (by decide +kernel) (rfl) (rfl) (Nat.le_of_ble_eq_true rfl) d_M_code_33 (fun H locs hP hD hS => ?_)
    have hP : va_P D CLS [(y, .inr (5, [.int 1, .int (nI bi), .int (nI ne), .int (nI li), .int (nI sp), .int (nI q), .ref ms, .ref mw, .ref mu, .ref mc, .ref mn, .int en, .int (nI sz), .ref mr, .int (nI wa), .ref mq, .int la, .ref md, .int at0, .int lk]))] H := hP
    have hD : va_D A [(y, .inr (5, [.int 1, .int (nI bi), .int (nI ne), .int (nI li), .int (nI sp), .int (nI q), .ref ms, .ref mw, .ref mu, .ref mc, .ref mn, .int en, .int (nI sz), .ref mr, .int (nI wa), .ref mq, .int la, .ref md, .int at0, .int lk]))] := hD
    refine lv_aload_n hx hb d_M_code_36 rfl (lv_at hl 0 rfl) ?_
    refine va_get (D := D) (ci := 5) (v := .int 1) (C := R_M) (T := T_M) (N := 20) hx hb hg in_M hown hK hP 0 rfl rfl 0 (by decide) (hg _ gw_524) (fun _ h9 => h9) rfl d_M_code_37 ?_
    refine lv_if_le (tgt := 45) hx hb d_M_code_40 (by decide) (fun c_2 => ?_) (fun c_2 => ?_)
    · skip
      exact absurd c_2 (by decide)
    · skip
      refine lv_iconst (v := 0) hx hb d_M_code_43 (by decide) ?_
      exact W.iret (v := 0) hx hb hr (fun t ht hW => ⟨rfl, by rw [ht]; exact hP, (hAe ▸ hS).F ht⟩) (hAe ▸ hS).2.2 d_M_code_44
  · skip
    refine lv_iload_n hx hb d_M_code_5 rfl (lv_at hl 1 rfl) ?_
    refine lv_aload_n hx hb d_M_code_6 rfl (lv_at hl 0 rfl) ?_
    refine va_get (D := D) (ci := 5) (v := .int (nI q)) (C := R_M) (T := T_M) (N := 20) hx hb hg in_M hown hK hP 0 rfl rfl 5 (by decide) (hg _ gw_529) (fun _ h9 => h9) rfl d_M_code_7 ?_
    refine lv_icmp_gt (tgt := 28) hx hb d_M_code_10 (by decide) (fun c_3 => ?_) (fun c_3 => ?_)
    · skip
      refine lv_iconst (v := 1) hx hb d_M_code_28 (by decide) ?_
      refine lv_goto (tgt := 33) hx hb d_M_code_29 (by decide) ?_
      refine va_put (D := D) (ci := 5) (v := .int 1) (ty := .int) (C := R_M) (T := T_M) (N := 20) hx hb hg in_M ty_M tok_M nm_M hown hK hP hD hS 0 rfl rfl 0 (by decide) (hg _ gw_524) (fun _ h9 => h9) rfl (by decide +kernel) (rfl) (rfl) (Nat.le_of_ble_eq_true rfl) d_M_code_33 (fun H locs hP hD hS => ?_)
      have hP : va_P D CLS [(y, .inr (5, [.int 1, .int (nI bi), .int (nI ne), .int (nI li), .int (nI sp), .int (nI q), .ref ms, .ref mw, .ref mu, .ref mc, .ref mn, .int en, .int (nI sz), .ref mr, .int (nI wa), .ref mq, .int la, .ref md, .int at0, .int lk]))] H := hP
      have hD : va_D A [(y, .inr (5, [.int 1, .int (nI bi), .int (nI ne), .int (nI li), .int (nI sp), .int (nI q), .ref ms, .ref mw, .ref mu, .ref mc, .ref mn, .int en, .int (nI sz), .ref mr, .int (nI wa), .ref mq, .int la, .ref md, .int at0, .int lk]))] := hD
      refine lv_aload_n hx hb d_M_code_36 rfl (lv_at hl 0 rfl) ?_
      refine va_get (D := D) (ci := 5) (v := .int 1) (C := R_M) (T := T_M) (N := 20) hx hb hg in_M hown hK hP 0 rfl rfl 0 (by decide) (hg _ gw_524) (fun _ h9 => h9) rfl d_M_code_37 ?_
      refine lv_if_le (tgt := 45) hx hb d_M_code_40 (by decide) (fun c_4 => ?_) (fun c_4 => ?_)
      · skip
        exact absurd c_4 (by decide)
      · skip
        refine lv_iconst (v := 0) hx hb d_M_code_43 (by decide) ?_
        exact W.iret (v := 0) hx hb hr (fun t ht hW => ⟨rfl, by rw [ht]; exact hP, (hAe ▸ hS).F ht⟩) (hAe ▸ hS).2.2 d_M_code_44
    · skip
      refine lv_iload_n hx hb d_M_code_13 rfl (lv_at hl 2 rfl) ?_
      refine lv_if_lt (tgt := 28) hx hb d_M_code_14 (by decide) (fun c_5 => ?_) (fun c_5 => ?_)
      · skip
        refine lv_iconst (v := 1) hx hb d_M_code_28 (by decide) ?_
        refine lv_goto (tgt := 33) hx hb d_M_code_29 (by decide) ?_
        refine va_put (D := D) (ci := 5) (v := .int 1) (ty := .int) (C := R_M) (T := T_M) (N := 20) hx hb hg in_M ty_M tok_M nm_M hown hK hP hD hS 0 rfl rfl 0 (by decide) (hg _ gw_524) (fun _ h9 => h9) rfl (by decide +kernel) (rfl) (rfl) (Nat.le_of_ble_eq_true rfl) d_M_code_33 (fun H locs hP hD hS => ?_)
        have hP : va_P D CLS [(y, .inr (5, [.int 1, .int (nI bi), .int (nI ne), .int (nI li), .int (nI sp), .int (nI q), .ref ms, .ref mw, .ref mu, .ref mc, .ref mn, .int en, .int (nI sz), .ref mr, .int (nI wa), .ref mq, .int la, .ref md, .int at0, .int lk]))] H := hP
        have hD : va_D A [(y, .inr (5, [.int 1, .int (nI bi), .int (nI ne), .int (nI li), .int (nI sp), .int (nI q), .ref ms, .ref mw, .ref mu, .ref mc, .ref mn, .int en, .int (nI sz), .ref mr, .int (nI wa), .ref mq, .int la, .ref md, .int at0, .int lk]))] := hD
        refine lv_aload_n hx hb d_M_code_36 rfl (lv_at hl 0 rfl) ?_
        refine va_get (D := D) (ci := 5) (v := .int 1) (C := R_M) (T := T_M) (N := 20) hx hb hg in_M hown hK hP 0 rfl rfl 0 (by decide) (hg _ gw_524) (fun _ h9 => h9) rfl d_M_code_37 ?_
        refine lv_if_le (tgt := 45) hx hb d_M_code_40 (by decide) (fun c_6 => ?_) (fun c_6 => ?_)
        · skip
          exact absurd c_6 (by decide)
        · skip
          refine lv_iconst (v := 0) hx hb d_M_code_43 (by decide) ?_
          exact W.iret (v := 0) hx hb hr (fun t ht hW => ⟨rfl, by rw [ht]; exact hP, (hAe ▸ hS).F ht⟩) (hAe ▸ hS).2.2 d_M_code_44
      · skip
        refine lv_iload_n hx hb d_M_code_17 rfl (lv_at hl 2 rfl) ?_
        refine lv_aload_n hx hb d_M_code_18 rfl (lv_at hl 0 rfl) ?_
        refine va_get (D := D) (ci := 5) (v := .int (nI q)) (C := R_M) (T := T_M) (N := 20) hx hb hg in_M hown hK hP 0 rfl rfl 5 (by decide) (hg _ gw_529) (fun _ h9 => h9) rfl d_M_code_19 ?_
        have hPc := hP.sub (ws' := []) [] rfl
        have hKc := hK.sub (tys' := []) [] rfl
        refine pci (va_runS (As := [.int (nI q)]) (rest := [.int v0, .ref y]) ⟨hx, hb, hml, hown, hg⟩ (c_M_power l D q (by omega)) (va_cwS 1 hg (gS gw_517 gw_518 gw_7 gw_519) rfl rfl rfl (by decide +kernel) ⟨Nat.le_of_ble_eq_true rfl, Nat.le_of_ble_eq_true rfl⟩) ⟨fun a U g mk q => by obtain ⟨q0, qP, qK⟩ := q; exact ⟨q0, qP, va_K.moved (u := U) (U := U.calling g mk a) (Vm.Alike.refl U.vm) qK⟩, fun U hU hW => ⟨rfl, by rw [hU]; exact hPc, va_K.moved hW.alike hKc⟩⟩ rfl rfl hl.1 rfl (lv_room (Nat.le_of_ble_eq_true rfl)) d_M_code_22 (⟨Nat.le_of_ble_eq_true rfl, Nat.le_of_ble_eq_true rfl⟩)) ?_
        refine lv_icmp_le (tgt := 32) hx hb d_M_code_25 (by decide) (fun c_7 => ?_) (fun c_7 => ?_)
        · skip
          exfalso
          rcases hbad with q9 | q9 | q9 | q9
          · exact c_1 q9
          · exact c_3 q9
          · exact c_5 q9
          · exact absurd q9 (Int32.not_lt.mpr c_7)
        · skip
          refine lv_iconst (v := 1) hx hb d_M_code_28 (by decide) ?_
          refine lv_goto (tgt := 33) hx hb d_M_code_29 (by decide) ?_
          refine va_put (D := D) (ci := 5) (v := .int 1) (ty := .int) (C := R_M) (T := T_M) (N := 20) hx hb hg in_M ty_M tok_M nm_M hown hK hP hD hS 0 rfl rfl 0 (by decide) (hg _ gw_524) (fun _ h9 => h9) rfl (by decide +kernel) (rfl) (rfl) (Nat.le_of_ble_eq_true rfl) d_M_code_33 (fun H locs hP hD hS => ?_)
          have hP : va_P D CLS [(y, .inr (5, [.int 1, .int (nI bi), .int (nI ne), .int (nI li), .int (nI sp), .int (nI q), .ref ms, .ref mw, .ref mu, .ref mc, .ref mn, .int en, .int (nI sz), .ref mr, .int (nI wa), .ref mq, .int la, .ref md, .int at0, .int lk]))] H := hP
          have hD : va_D A [(y, .inr (5, [.int 1, .int (nI bi), .int (nI ne), .int (nI li), .int (nI sp), .int (nI q), .ref ms, .ref mw, .ref mu, .ref mc, .ref mn, .int en, .int (nI sz), .ref mr, .int (nI wa), .ref mq, .int la, .ref md, .int at0, .int lk]))] := hD
          refine lv_aload_n hx hb d_M_code_36 rfl (lv_at hl 0 rfl) ?_
          refine va_get (D := D) (ci := 5) (v := .int 1) (C := R_M) (T := T_M) (N := 20) hx hb hg in_M hown hK hP 0 rfl rfl 0 (by decide) (hg _ gw_524) (fun _ h9 => h9) rfl d_M_code_37 ?_
          refine lv_if_le (tgt := 45) hx hb d_M_code_40 (by decide) (fun c_8 => ?_) (fun c_8 => ?_)
          · skip
            exact absurd c_8 (by decide)
          · skip
            refine lv_iconst (v := 0) hx hb d_M_code_43 (by decide) ?_
            exact W.iret (v := 0) hx hb hr (fun t ht hW => ⟨rfl, by rw [ht]; exact hP, (hAe ▸ hS).F ht⟩) (hAe ▸ hS).2.2 d_M_code_44
set_option maxHeartbeats 4000000 in
set_option maxRecDepth 100000 in
theorem c_M_readN (l : Launch) (D : va_G) (y ms mw mu mc mn mr mq md bi ne li sp q sz wa : Nat) (th en la at0 lk : Int32) (cB : ClassId) (wq : Nat → Int32) (K z : Nat) (hwa : wa ≤ 1000) (hqb : ∀ j, j < wa → wq j = 0 ∨ wq j = 1) (hKq : K ≤ q) (hq : q ≤ 29) (hli : q + 1 ≤ li) (hlb : li ≤ 200) (hz1 : z ≤ (li - q - 1) + 1) (hz2 : z ≤ wa) (hz3 : ∀ j, j < z → wq j = 0) (hz4 : z = (li - q - 1) + 1 ∨ z = wa ∨ wq z ≠ 0) (hzN : z = (li - q - 1) + 1) : Met l y_M_read (WSY y_M_read b_M_read 3 (some .int)) ({ frames := 3, cells := 0, slots := 0, locals := 72 }) (va_Pc [.ref y, .int (nI K)] (fun U => va_P D CLS [(y, .inr (5, [.int th, .int (nI bi), .int (nI ne), .int (nI li), .int (nI sp), .int (nI q), .ref ms, .ref mw, .ref mu, .ref mc, .ref mn, .int en, .int (nI sz), .ref mr, .int (nI wa), .ref mq, .int la, .ref md, .int at0, .int lk])), (mq, .inl (cB, 1000, .inl wq))] U.heap ∧ va_K D CLS [(cB, .byte)] U ∧ va_D (fun _ => True) [(y, .inr (5, [.int th, .int (nI bi), .int (nI ne), .int (nI li), .int (nI sp), .int (nI q), .ref ms, .ref mw, .ref mu, .ref mc, .ref mn, .int en, .int (nI sz), .ref mr, .int (nI wa), .ref mq, .int la, .ref md, .int at0, .int lk])), (mq, .inl (cB, 1000, .inl wq))])) (QM (some (.int (-2))) [(y, .inr (5, [.int th, .int (nI bi), .int (nI ne), .int (nI li), .int (nI sp), .int (nI q), .ref ms, .ref mw, .ref mu, .ref mc, .ref mn, .int en, .int (nI sz), .ref mr, .int (nI wa), .ref mq, .int la, .ref md, .int at0, .int lk])), (mq, .inl (cB, 1000, .inl wq))] [(y, .inr (5, [.int 0, .int (nI bi), .int (nI ne), .int (nI li), .int (nI sp), .int (nI q), .ref ms, .ref mw, .ref mu, .ref mc, .ref mn, .int en, .int (nI sz), .ref mr, .int (nI (wa - ((li - q - 1) + 1))), .ref mq, .int la, .ref md, .int (nI ((li - q - 1) + 1)), .int 0])), (mq, .inl (cB, 1000, .inl (gof wq ((li - q - 1) + 1) (wa - ((li - q - 1) + 1)))))] D) 0 0 (ad [(y, .inr (5, [.int th, .int (nI bi), .int (nI ne), .int (nI li), .int (nI sp), .int (nI q), .ref ms, .ref mw, .ref mu, .ref mc, .ref mn, .int en, .int (nI sz), .ref mr, .int (nI wa), .ref mq, .int la, .ref md, .int at0, .int lk])), (mq, .inl (cB, 1000, .inl wq))]) := by
  refine Met.ofW (cc := b_M_read) (maxL := 3) (ret := (some .int)) (by decide) rfl ?_
  intro p e s m args below meth c s₁ B hml hv
  obtain ⟨rfl, hP, hK, hD0⟩ := hv
  have hx := B.exec
  have hb := B.bytes
  have hr := B.returns
  have hts := atoms_spec (ws := WSY y_M_read b_M_read 3 (some .int)) B.pre
  have hg : ∀ w ∈ GW, w.before _ s = true := fun w h => hts w (List.mem_cons_of_mem _ h)
  have hown : s.vm.findClass "LineGolombModel" = some m.cls := findClass_of_methodNamed B.named
  have hlocks := B.notSynchronized
  obtain ⟨A, hAe⟩ : ∃ A, A = ad [(y, .inr (5, [.int th, .int (nI bi), .int (nI ne), .int (nI li), .int (nI sp), .int (nI q), .ref ms, .ref mw, .ref mu, .ref mc, .ref mn, .int en, .int (nI sz), .ref mr, .int (nI wa), .ref mq, .int la, .ref md, .int at0, .int lk])), (mq, .inl (cB, 1000, .inl wq))] := ⟨_, rfl⟩
  have hD : va_D A [(y, .inr (5, [.int th, .int (nI bi), .int (nI ne), .int (nI li), .int (nI sp), .int (nI q), .ref ms, .ref mw, .ref mu, .ref mc, .ref mn, .int en, .int (nI sz), .ref mr, .int (nI wa), .ref mq, .int la, .ref md, .int at0, .int lk])), (mq, .inl (cB, 1000, .inl wq))] := by rw [hAe]; exact va_D_ad hD0
  have hS : va_S A s.heap s.heap [] := va_S.rf
  have hl := lv_entry ([.ref y, .int (nI K)]) (n := 3) (Nat.le_of_ble_eq_true rfl)
  rw [lg_entry_eq]
  generalize (lg_sl ([.ref y, .int (nI K)]) ++ List.replicate (3 - (lg_sl ([.ref y, .int (nI K)])).length) Slot.unset).toArray = ls at hl ⊢
  have hl : lv_has ls 3 [(0, .ref y), (1, .int (nI K))] := hl
  refine lv_aload_n hx hb d_M_read_0 rfl (lv_at hl 0 rfl) ?_
  refine lv_iload_n hx hb d_M_read_1 rfl (lv_at hl 1 rfl) ?_
  refine lv_if_lt (tgt := 13) hx hb d_M_read_2 (by decide) (fun c_1 => ?_) (fun c_1 => ?_)
  · skip
    exact absurd c_1 (nI_pos (by omega))
  · skip
    refine lv_iload_n hx hb d_M_read_5 rfl (lv_at hl 1 rfl) ?_
    refine lv_aload_n hx hb d_M_read_6 rfl (lv_at hl 0 rfl) ?_
    refine va_get (D := D) (ci := 5) (v := .int (nI q)) (C := R_M) (T := T_M) (N := 20) hx hb hg in_M hown hK hP 0 rfl rfl 5 (by decide) (hg _ gw_529) (fun _ h9 => h9) rfl d_M_read_7 ?_
    refine lv_icmp_le (tgt := 17) hx hb d_M_read_10 (by decide) (fun c_2 => ?_) (fun c_2 => ?_)
    · skip
      refine lv_iconst (v := 0) hx hb d_M_read_17 (by decide) ?_
      refine va_put (D := D) (ci := 5) (v := .int 0) (ty := .int) (C := R_M) (T := T_M) (N := 20) hx hb hg in_M ty_M tok_M nm_M hown hK hP hD hS 0 rfl rfl 0 (by decide) (hg _ gw_524) (fun _ h9 => h9) rfl (by decide +kernel) (rfl) (rfl) (Nat.le_of_ble_eq_true rfl) d_M_read_18 (fun H locs hP hD hS => ?_)
      have hP : va_P D CLS [(y, .inr (5, [.int 0, .int (nI bi), .int (nI ne), .int (nI li), .int (nI sp), .int (nI q), .ref ms, .ref mw, .ref mu, .ref mc, .ref mn, .int en, .int (nI sz), .ref mr, .int (nI wa), .ref mq, .int la, .ref md, .int at0, .int lk])), (mq, .inl (cB, 1000, .inl wq))] H := hP
      have hD : va_D A [(y, .inr (5, [.int 0, .int (nI bi), .int (nI ne), .int (nI li), .int (nI sp), .int (nI q), .ref ms, .ref mw, .ref mu, .ref mc, .ref mn, .int en, .int (nI sz), .ref mr, .int (nI wa), .ref mq, .int la, .ref md, .int at0, .int lk])), (mq, .inl (cB, 1000, .inl wq))] := hD
      refine lv_aload_n hx hb d_M_read_21 rfl (lv_at hl 0 rfl) ?_
      refine va_get (D := D) (ci := 5) (v := .int 0) (C := R_M) (T := T_M) (N := 20) hx hb hg in_M hown hK hP 0 rfl rfl 0 (by decide) (hg _ gw_524) (fun _ h9 => h9) rfl d_M_read_22 ?_
      refine lv_if_le (tgt := 30) hx hb d_M_read_25 (by decide) (fun c_3 => ?_) (fun c_3 => ?_)
      · skip
        refine lv_aload_n hx hb d_M_read_30 rfl (lv_at hl 0 rfl) ?_
        refine lv_iload_n hx hb d_M_read_31 rfl (lv_at hl 1 rfl) ?_
        refine lv_aload_n hx hb d_M_read_32 rfl (lv_at hl 0 rfl) ?_
        refine va_get (D := D) (ci := 5) (v := .int (nI li)) (C := R_M) (T := T_M) (N := 20) hx hb hg in_M hown hK hP 0 rfl rfl 3 (by decide) (hg _ gw_527) (fun _ h9 => h9) rfl d_M_read_33 ?_
        have hPc := hP.sub (ws' := [(y, .inr (5, [.int 0, .int (nI bi), .int (nI ne), .int (nI li), .int (nI sp), .int (nI q), .ref ms, .ref mw, .ref mu, .ref mc, .ref mn, .int en, .int (nI sz), .ref mr, .int (nI wa), .ref mq, .int la, .ref md, .int at0, .int lk])), (mq, .inl (cB, 1000, .inl wq))]) [0, 1] rfl
        have hDc := hD.sub (ws' := [(y, .inr (5, [.int 0, .int (nI bi), .int (nI ne), .int (nI li), .int (nI sp), .int (nI q), .ref ms, .ref mw, .ref mu, .ref mc, .ref mn, .int en, .int (nI sz), .ref mr, .int (nI wa), .ref mq, .int la, .ref md, .int at0, .int lk])), (mq, .inl (cB, 1000, .inl wq))]) [0, 1] (by decide) rfl
        have hKc := hK.sub (tys' := [(cB, .byte)]) [0] rfl
        refine mci (va_runV (As := [.int (nI K), .int (nI li)]) (rest := []) ⟨hx, hb, hml, hown, hg⟩ (c_M_lookN l D y ms mw mu mc mn mr mq md bi ne li sp q sz wa 0 en la at0 lk cB wq K li z hwa (by omega) (by omega) hli hlb hz1 hz2 hz3 hz4 hzN) (cwV 2 hg (gV gw_674 gw_676 gs_25 gw_7 gw_677) rfl rfl rfl (by decide +kernel) ⟨Nat.le_of_ble_eq_true rfl, Nat.le_of_ble_eq_true rfl⟩) ⟨fun a U g mk q => by obtain ⟨q0, qP, qK, qD⟩ := q; exact ⟨q0, qP, va_K.moved (u := U) (U := U.calling g mk a) (Vm.Alike.refl U.vm) qK, qD⟩, va_recv hKc hPc (ci := 5) (q0 := 0) rfl rfl, fun U hU hW => ⟨rfl, by rw [hU]; exact hPc, va_K.moved hW.alike hKc, hDc.weaken (fun _ _ _ _ => trivial)⟩⟩ rfl rfl hl.1 rfl (lv_room (Nat.le_of_ble_eq_true rfl)) d_M_read_36 (⟨Nat.le_of_ble_eq_true rfl, Nat.le_of_ble_eq_true rfl⟩)) hS hP hD [0, 1] rfl rfl rfl (fun H locs hP hD hS => ?_)
        have hP : va_P D CLS [(y, .inr (5, [.int 0, .int (nI bi), .int (nI ne), .int (nI li), .int (nI sp), .int (nI q), .ref ms, .ref mw, .ref mu, .ref mc, .ref mn, .int en, .int (nI sz), .ref mr, .int (nI wa), .ref mq, .int la, .ref md, .int (nI ((li - q - 1) + 1)), .int 0])), (mq, .inl (cB, 1000, .inl wq))] H := hP
        have hD : va_D A [(y, .inr (5, [.int 0, .int (nI bi), .int (nI ne), .int (nI li), .int (nI sp), .int (nI q), .ref ms, .ref mw, .ref mu, .ref mc, .ref mn, .int en, .int (nI sz), .ref mr, .int (nI wa), .ref mq, .int la, .ref md, .int (nI ((li - q - 1) + 1)), .int 0])), (mq, .inl (cB, 1000, .inl wq))] := hD
        refine lv_istore_n (lv' := [(2, .int (-2)), (0, .ref y), (1, .int (nI K))]) hx hb d_M_read_39 rfl hl (by decide) rfl (fun ls hl => ?_)
        refine lv_iload_n hx hb d_M_read_40 rfl (lv_at hl 0 rfl) ?_
        refine lv_iconst (v := (-1)) hx hb d_M_read_41 (by decide) ?_
        refine lv_icmp_eq (tgt := 53) hx hb d_M_read_42 (by decide) (fun c_4 => ?_) (fun c_4 => ?_)
        · skip
          exact absurd c_4 (by decide)
        · skip
          refine lv_aload_n hx hb d_M_read_45 rfl (lv_at hl 1 rfl) ?_
          refine lv_aload_n hx hb d_M_read_46 rfl (lv_at hl 1 rfl) ?_
          refine va_get (D := D) (ci := 5) (v := .int (nI ((li - q - 1) + 1))) (C := R_M) (T := T_M) (N := 20) hx hb hg in_M hown hK hP 0 rfl rfl 18 (by decide) (hg _ gw_542) (fun _ h9 => h9) rfl d_M_read_47 ?_
          have hPc := hP.sub (ws' := [(y, .inr (5, [.int 0, .int (nI bi), .int (nI ne), .int (nI li), .int (nI sp), .int (nI q), .ref ms, .ref mw, .ref mu, .ref mc, .ref mn, .int en, .int (nI sz), .ref mr, .int (nI wa), .ref mq, .int la, .ref md, .int (nI ((li - q - 1) + 1)), .int 0])), (mq, .inl (cB, 1000, .inl wq))]) [0, 1] rfl
          have hDc := hD.sub (ws' := [(y, .inr (5, [.int 0, .int (nI bi), .int (nI ne), .int (nI li), .int (nI sp), .int (nI q), .ref ms, .ref mw, .ref mu, .ref mc, .ref mn, .int en, .int (nI sz), .ref mr, .int (nI wa), .ref mq, .int la, .ref md, .int (nI ((li - q - 1) + 1)), .int 0])), (mq, .inl (cB, 1000, .inl wq))]) [0, 1] (by decide) rfl
          have hKc := hK.sub (tys' := [(cB, .byte)]) [0] rfl
          refine mcv (va_runV (As := [.int (nI ((li - q - 1) + 1))]) (rest := []) ⟨hx, hb, hml, hown, hg⟩ (c_M_go l D y ms mw mu mc mn mr mq md bi ne li sp q sz wa 0 en la (nI ((li - q - 1) + 1)) 0 cB wq ((li - q - 1) + 1) hwa (by omega) hqb) (cwV 1 hg (gV gw_686 gw_688 gs_28 gw_7 gw_689) rfl rfl rfl (by decide +kernel) ⟨Nat.le_of_ble_eq_true rfl, Nat.le_of_ble_eq_true rfl⟩) ⟨fun a U g mk q => by obtain ⟨q0, qP, qK, qD⟩ := q; exact ⟨q0, qP, va_K.moved (u := U) (U := U.calling g mk a) (Vm.Alike.refl U.vm) qK, qD⟩, va_recv hKc hPc (ci := 5) (q0 := 0) rfl rfl, fun U hU hW => ⟨rfl, by rw [hU]; exact hPc, va_K.moved hW.alike hKc, hDc.weaken (fun _ _ _ _ => trivial)⟩⟩ rfl rfl hl.1 rfl (lv_room (Nat.le_of_ble_eq_true rfl)) d_M_read_50 (⟨Nat.le_of_ble_eq_true rfl, Nat.le_of_ble_eq_true rfl⟩)) hS hP hD [0, 1] rfl rfl rfl (fun H locs hP hD hS => ?_)
          have hP : va_P D CLS [(y, .inr (5, [.int 0, .int (nI bi), .int (nI ne), .int (nI li), .int (nI sp), .int (nI q), .ref ms, .ref mw, .ref mu, .ref mc, .ref mn, .int en, .int (nI sz), .ref mr, .int (nI (wa - ((li - q - 1) + 1))), .ref mq, .int la, .ref md, .int (nI ((li - q - 1) + 1)), .int 0])), (mq, .inl (cB, 1000, .inl (gof wq ((li - q - 1) + 1) (wa - ((li - q - 1) + 1)))))] H := hP
          have hD : va_D A [(y, .inr (5, [.int 0, .int (nI bi), .int (nI ne), .int (nI li), .int (nI sp), .int (nI q), .ref ms, .ref mw, .ref mu, .ref mc, .ref mn, .int en, .int (nI sz), .ref mr, .int (nI (wa - ((li - q - 1) + 1))), .ref mq, .int la, .ref md, .int (nI ((li - q - 1) + 1)), .int 0])), (mq, .inl (cB, 1000, .inl (gof wq ((li - q - 1) + 1) (wa - ((li - q - 1) + 1)))))] := hD
          refine lv_iload_n hx hb d_M_read_53 rfl (lv_at hl 0 rfl) ?_
          exact W.iret (v := -2) hx hb hr (fun t ht hW => ⟨rfl, by rw [ht]; exact hP, (hAe ▸ hS).F ht⟩) (hAe ▸ hS).2.2 d_M_read_54
      · skip
        exact absurd (by decide) c_3
    · skip
      exact absurd (nI_le hKq (by omega)) c_2
set_option maxHeartbeats 4000000 in
set_option maxRecDepth 100000 in
theorem c_M_readW (l : Launch) (D : va_G) (y ms mw mu mc mn mr mq md bi ne li sp q sz wa : Nat) (th en la at0 lk : Int32) (cB : ClassId) (wq : Nat → Int32) (K z : Nat) (hwa : wa ≤ 1000) (hqb : ∀ j, j < wa → wq j = 0 ∨ wq j = 1) (hKq : K ≤ q) (hq : q ≤ 29) (hli : q + 1 ≤ li) (hlb : li ≤ 200) (hz1 : z ≤ (li - q - 1) + 1) (hz2 : z ≤ wa) (hz3 : ∀ j, j < z → wq j = 0) (hz4 : z = (li - q - 1) + 1 ∨ z = wa ∨ wq z ≠ 0) (hzm : z ≤ (li - q - 1)) (hw : wa < z + 1 + tln q K (li - q - 1) z) : Met l y_M_read (WSY y_M_read b_M_read 3 (some .int)) ({ frames := 3, cells := 0, slots := 0, locals := 72 }) (va_Pc [.ref y, .int (nI K)] (fun U => va_P D CLS [(y, .inr (5, [.int th, .int (nI bi), .int (nI ne), .int (nI li), .int (nI sp), .int (nI q), .ref ms, .ref mw, .ref mu, .ref mc, .ref mn, .int en, .int (nI sz), .ref mr, .int (nI wa), .ref mq, .int la, .ref md, .int at0, .int lk])), (mq, .inl (cB, 1000, .inl wq))] U.heap ∧ va_K D CLS [(cB, .byte)] U ∧ va_D (fun _ => True) [(y, .inr (5, [.int th, .int (nI bi), .int (nI ne), .int (nI li), .int (nI sp), .int (nI q), .ref ms, .ref mw, .ref mu, .ref mc, .ref mn, .int en, .int (nI sz), .ref mr, .int (nI wa), .ref mq, .int la, .ref md, .int at0, .int lk])), (mq, .inl (cB, 1000, .inl wq))])) (QM (some (.int (-1))) [(y, .inr (5, [.int th, .int (nI bi), .int (nI ne), .int (nI li), .int (nI sp), .int (nI q), .ref ms, .ref mw, .ref mu, .ref mc, .ref mn, .int en, .int (nI sz), .ref mr, .int (nI wa), .ref mq, .int la, .ref md, .int at0, .int lk])), (mq, .inl (cB, 1000, .inl wq))] [(y, .inr (5, [.int 0, .int (nI bi), .int (nI ne), .int (nI li), .int (nI sp), .int (nI q), .ref ms, .ref mw, .ref mu, .ref mc, .ref mn, .int en, .int (nI sz), .ref mr, .int (nI wa), .ref mq, .int la, .ref md, .int (nI wa), .int 1])), (mq, .inl (cB, 1000, .inl wq))] D) 0 0 (ad [(y, .inr (5, [.int th, .int (nI bi), .int (nI ne), .int (nI li), .int (nI sp), .int (nI q), .ref ms, .ref mw, .ref mu, .ref mc, .ref mn, .int en, .int (nI sz), .ref mr, .int (nI wa), .ref mq, .int la, .ref md, .int at0, .int lk])), (mq, .inl (cB, 1000, .inl wq))]) := by
  refine Met.ofW (cc := b_M_read) (maxL := 3) (ret := (some .int)) (by decide) rfl ?_
  intro p e s m args below meth c s₁ B hml hv
  obtain ⟨rfl, hP, hK, hD0⟩ := hv
  have hx := B.exec
  have hb := B.bytes
  have hr := B.returns
  have hts := atoms_spec (ws := WSY y_M_read b_M_read 3 (some .int)) B.pre
  have hg : ∀ w ∈ GW, w.before _ s = true := fun w h => hts w (List.mem_cons_of_mem _ h)
  have hown : s.vm.findClass "LineGolombModel" = some m.cls := findClass_of_methodNamed B.named
  have hlocks := B.notSynchronized
  obtain ⟨A, hAe⟩ : ∃ A, A = ad [(y, .inr (5, [.int th, .int (nI bi), .int (nI ne), .int (nI li), .int (nI sp), .int (nI q), .ref ms, .ref mw, .ref mu, .ref mc, .ref mn, .int en, .int (nI sz), .ref mr, .int (nI wa), .ref mq, .int la, .ref md, .int at0, .int lk])), (mq, .inl (cB, 1000, .inl wq))] := ⟨_, rfl⟩
  have hD : va_D A [(y, .inr (5, [.int th, .int (nI bi), .int (nI ne), .int (nI li), .int (nI sp), .int (nI q), .ref ms, .ref mw, .ref mu, .ref mc, .ref mn, .int en, .int (nI sz), .ref mr, .int (nI wa), .ref mq, .int la, .ref md, .int at0, .int lk])), (mq, .inl (cB, 1000, .inl wq))] := by rw [hAe]; exact va_D_ad hD0
  have hS : va_S A s.heap s.heap [] := va_S.rf
  have hl := lv_entry ([.ref y, .int (nI K)]) (n := 3) (Nat.le_of_ble_eq_true rfl)
  rw [lg_entry_eq]
  generalize (lg_sl ([.ref y, .int (nI K)]) ++ List.replicate (3 - (lg_sl ([.ref y, .int (nI K)])).length) Slot.unset).toArray = ls at hl ⊢
  have hl : lv_has ls 3 [(0, .ref y), (1, .int (nI K))] := hl
  refine lv_aload_n hx hb d_M_read_0 rfl (lv_at hl 0 rfl) ?_
  refine lv_iload_n hx hb d_M_read_1 rfl (lv_at hl 1 rfl) ?_
  refine lv_if_lt (tgt := 13) hx hb d_M_read_2 (by decide) (fun c_1 => ?_) (fun c_1 => ?_)
  · skip
    exact absurd c_1 (nI_pos (by omega))
  · skip
    refine lv_iload_n hx hb d_M_read_5 rfl (lv_at hl 1 rfl) ?_
    refine lv_aload_n hx hb d_M_read_6 rfl (lv_at hl 0 rfl) ?_
    refine va_get (D := D) (ci := 5) (v := .int (nI q)) (C := R_M) (T := T_M) (N := 20) hx hb hg in_M hown hK hP 0 rfl rfl 5 (by decide) (hg _ gw_529) (fun _ h9 => h9) rfl d_M_read_7 ?_
    refine lv_icmp_le (tgt := 17) hx hb d_M_read_10 (by decide) (fun c_2 => ?_) (fun c_2 => ?_)
    · skip
      refine lv_iconst (v := 0) hx hb d_M_read_17 (by decide) ?_
      refine va_put (D := D) (ci := 5) (v := .int 0) (ty := .int) (C := R_M) (T := T_M) (N := 20) hx hb hg in_M ty_M tok_M nm_M hown hK hP hD hS 0 rfl rfl 0 (by decide) (hg _ gw_524) (fun _ h9 => h9) rfl (by decide +kernel) (rfl) (rfl) (Nat.le_of_ble_eq_true rfl) d_M_read_18 (fun H locs hP hD hS => ?_)
      have hP : va_P D CLS [(y, .inr (5, [.int 0, .int (nI bi), .int (nI ne), .int (nI li), .int (nI sp), .int (nI q), .ref ms, .ref mw, .ref mu, .ref mc, .ref mn, .int en, .int (nI sz), .ref mr, .int (nI wa), .ref mq, .int la, .ref md, .int at0, .int lk])), (mq, .inl (cB, 1000, .inl wq))] H := hP
      have hD : va_D A [(y, .inr (5, [.int 0, .int (nI bi), .int (nI ne), .int (nI li), .int (nI sp), .int (nI q), .ref ms, .ref mw, .ref mu, .ref mc, .ref mn, .int en, .int (nI sz), .ref mr, .int (nI wa), .ref mq, .int la, .ref md, .int at0, .int lk])), (mq, .inl (cB, 1000, .inl wq))] := hD
      refine lv_aload_n hx hb d_M_read_21 rfl (lv_at hl 0 rfl) ?_
      refine va_get (D := D) (ci := 5) (v := .int 0) (C := R_M) (T := T_M) (N := 20) hx hb hg in_M hown hK hP 0 rfl rfl 0 (by decide) (hg _ gw_524) (fun _ h9 => h9) rfl d_M_read_22 ?_
      refine lv_if_le (tgt := 30) hx hb d_M_read_25 (by decide) (fun c_3 => ?_) (fun c_3 => ?_)
      · skip
        refine lv_aload_n hx hb d_M_read_30 rfl (lv_at hl 0 rfl) ?_
        refine lv_iload_n hx hb d_M_read_31 rfl (lv_at hl 1 rfl) ?_
        refine lv_aload_n hx hb d_M_read_32 rfl (lv_at hl 0 rfl) ?_
        refine va_get (D := D) (ci := 5) (v := .int (nI li)) (C := R_M) (T := T_M) (N := 20) hx hb hg in_M hown hK hP 0 rfl rfl 3 (by decide) (hg _ gw_527) (fun _ h9 => h9) rfl d_M_read_33 ?_
        have hPc := hP.sub (ws' := [(y, .inr (5, [.int 0, .int (nI bi), .int (nI ne), .int (nI li), .int (nI sp), .int (nI q), .ref ms, .ref mw, .ref mu, .ref mc, .ref mn, .int en, .int (nI sz), .ref mr, .int (nI wa), .ref mq, .int la, .ref md, .int at0, .int lk])), (mq, .inl (cB, 1000, .inl wq))]) [0, 1] rfl
        have hDc := hD.sub (ws' := [(y, .inr (5, [.int 0, .int (nI bi), .int (nI ne), .int (nI li), .int (nI sp), .int (nI q), .ref ms, .ref mw, .ref mu, .ref mc, .ref mn, .int en, .int (nI sz), .ref mr, .int (nI wa), .ref mq, .int la, .ref md, .int at0, .int lk])), (mq, .inl (cB, 1000, .inl wq))]) [0, 1] (by decide) rfl
        have hKc := hK.sub (tys' := [(cB, .byte)]) [0] rfl
        refine mci (va_runV (As := [.int (nI K), .int (nI li)]) (rest := []) ⟨hx, hb, hml, hown, hg⟩ (c_M_lookW l D y ms mw mu mc mn mr mq md bi ne li sp q sz wa 0 en la at0 lk cB wq K li z hwa (by omega) (by omega) hli hlb hz1 hz2 hz3 hz4 hzm hw) (cwV 2 hg (gV gw_674 gw_676 gs_25 gw_7 gw_677) rfl rfl rfl (by decide +kernel) ⟨Nat.le_of_ble_eq_true rfl, Nat.le_of_ble_eq_true rfl⟩) ⟨fun a U g mk q => by obtain ⟨q0, qP, qK, qD⟩ := q; exact ⟨q0, qP, va_K.moved (u := U) (U := U.calling g mk a) (Vm.Alike.refl U.vm) qK, qD⟩, va_recv hKc hPc (ci := 5) (q0 := 0) rfl rfl, fun U hU hW => ⟨rfl, by rw [hU]; exact hPc, va_K.moved hW.alike hKc, hDc.weaken (fun _ _ _ _ => trivial)⟩⟩ rfl rfl hl.1 rfl (lv_room (Nat.le_of_ble_eq_true rfl)) d_M_read_36 (⟨Nat.le_of_ble_eq_true rfl, Nat.le_of_ble_eq_true rfl⟩)) hS hP hD [0, 1] rfl rfl rfl (fun H locs hP hD hS => ?_)
        have hP : va_P D CLS [(y, .inr (5, [.int 0, .int (nI bi), .int (nI ne), .int (nI li), .int (nI sp), .int (nI q), .ref ms, .ref mw, .ref mu, .ref mc, .ref mn, .int en, .int (nI sz), .ref mr, .int (nI wa), .ref mq, .int la, .ref md, .int (nI wa), .int 1])), (mq, .inl (cB, 1000, .inl wq))] H := hP
        have hD : va_D A [(y, .inr (5, [.int 0, .int (nI bi), .int (nI ne), .int (nI li), .int (nI sp), .int (nI q), .ref ms, .ref mw, .ref mu, .ref mc, .ref mn, .int en, .int (nI sz), .ref mr, .int (nI wa), .ref mq, .int la, .ref md, .int (nI wa), .int 1])), (mq, .inl (cB, 1000, .inl wq))] := hD
        refine lv_istore_n (lv' := [(2, .int (-1)), (0, .ref y), (1, .int (nI K))]) hx hb d_M_read_39 rfl hl (by decide) rfl (fun ls hl => ?_)
        refine lv_iload_n hx hb d_M_read_40 rfl (lv_at hl 0 rfl) ?_
        refine lv_iconst (v := (-1)) hx hb d_M_read_41 (by decide) ?_
        refine lv_icmp_eq (tgt := 53) hx hb d_M_read_42 (by decide) (fun c_4 => ?_) (fun c_4 => ?_)
        · skip
          refine lv_iload_n hx hb d_M_read_53 rfl (lv_at hl 0 rfl) ?_
          exact W.iret (v := -1) hx hb hr (fun t ht hW => ⟨rfl, by rw [ht]; exact hP, (hAe ▸ hS).F ht⟩) (hAe ▸ hS).2.2 d_M_read_54
        · skip
          exact absurd rfl c_4
      · skip
        exact absurd (by decide) c_3
    · skip
      exact absurd (nI_le hKq (by omega)) c_2
set_option maxHeartbeats 4000000 in
set_option maxRecDepth 100000 in
theorem c_M_readG (l : Launch) (D : va_G) (y ms mw mu mc mn mr mq md bi ne li sp q sz wa : Nat) (th en la at0 lk : Int32) (cB : ClassId) (wq : Nat → Int32) (K z : Nat) (hwa : wa ≤ 1000) (hqb : ∀ j, j < wa → wq j = 0 ∨ wq j = 1) (hKq : K ≤ q) (hq : q ≤ 29) (hli : q + 1 ≤ li) (hlb : li ≤ 200) (hz1 : z ≤ (li - q - 1) + 1) (hz2 : z ≤ wa) (hz3 : ∀ j, j < z → wq j = 0) (hz4 : z = (li - q - 1) + 1 ∨ z = wa ∨ wq z ≠ 0) (hzm : z ≤ (li - q - 1)) (hw : z + 1 + tln q K (li - q - 1) z ≤ wa) (hzk : z * 2 ^ K < 2 ^ 31) (hrn : ¬ rnum (mbt wq wa) q K (li - q - 1) z = -1) : Met l y_M_read (WSY y_M_read b_M_read 3 (some .int)) ({ frames := 3, cells := 0, slots := 0, locals := 72 }) (va_Pc [.ref y, .int (nI K)] (fun U => va_P D CLS [(y, .inr (5, [.int th, .int (nI bi), .int (nI ne), .int (nI li), .int (nI sp), .int (nI q), .ref ms, .ref mw, .ref mu, .ref mc, .ref mn, .int en, .int (nI sz), .ref mr, .int (nI wa), .ref mq, .int la, .ref md, .int at0, .int lk])), (mq, .inl (cB, 1000, .inl wq))] U.heap ∧ va_K D CLS [(cB, .byte)] U ∧ va_D (fun _ => True) [(y, .inr (5, [.int th, .int (nI bi), .int (nI ne), .int (nI li), .int (nI sp), .int (nI q), .ref ms, .ref mw, .ref mu, .ref mc, .ref mn, .int en, .int (nI sz), .ref mr, .int (nI wa), .ref mq, .int la, .ref md, .int at0, .int lk])), (mq, .inl (cB, 1000, .inl wq))])) (QM (some (.int (rnum (mbt wq wa) q K (li - q - 1) z))) [(y, .inr (5, [.int th, .int (nI bi), .int (nI ne), .int (nI li), .int (nI sp), .int (nI q), .ref ms, .ref mw, .ref mu, .ref mc, .ref mn, .int en, .int (nI sz), .ref mr, .int (nI wa), .ref mq, .int la, .ref md, .int at0, .int lk])), (mq, .inl (cB, 1000, .inl wq))] [(y, .inr (5, [.int 0, .int (nI bi), .int (nI ne), .int (nI li), .int (nI sp), .int (nI q), .ref ms, .ref mw, .ref mu, .ref mc, .ref mn, .int en, .int (nI sz), .ref mr, .int (nI (wa - (z + 1 + tln q K (li - q - 1) z))), .ref mq, .int la, .ref md, .int (nI (z + 1 + tln q K (li - q - 1) z)), .int 0])), (mq, .inl (cB, 1000, .inl (gof wq (z + 1 + tln q K (li - q - 1) z) (wa - (z + 1 + tln q K (li - q - 1) z)))))] D) 0 0 (ad [(y, .inr (5, [.int th, .int (nI bi), .int (nI ne), .int (nI li), .int (nI sp), .int (nI q), .ref ms, .ref mw, .ref mu, .ref mc, .ref mn, .int en, .int (nI sz), .ref mr, .int (nI wa), .ref mq, .int la, .ref md, .int at0, .int lk])), (mq, .inl (cB, 1000, .inl wq))]) := by
  refine Met.ofW (cc := b_M_read) (maxL := 3) (ret := (some .int)) (by decide) rfl ?_
  intro p e s m args below meth c s₁ B hml hv
  obtain ⟨rfl, hP, hK, hD0⟩ := hv
  have hx := B.exec
  have hb := B.bytes
  have hr := B.returns
  have hts := atoms_spec (ws := WSY y_M_read b_M_read 3 (some .int)) B.pre
  have hg : ∀ w ∈ GW, w.before _ s = true := fun w h => hts w (List.mem_cons_of_mem _ h)
  have hown : s.vm.findClass "LineGolombModel" = some m.cls := findClass_of_methodNamed B.named
  have hlocks := B.notSynchronized
  obtain ⟨A, hAe⟩ : ∃ A, A = ad [(y, .inr (5, [.int th, .int (nI bi), .int (nI ne), .int (nI li), .int (nI sp), .int (nI q), .ref ms, .ref mw, .ref mu, .ref mc, .ref mn, .int en, .int (nI sz), .ref mr, .int (nI wa), .ref mq, .int la, .ref md, .int at0, .int lk])), (mq, .inl (cB, 1000, .inl wq))] := ⟨_, rfl⟩
  have hD : va_D A [(y, .inr (5, [.int th, .int (nI bi), .int (nI ne), .int (nI li), .int (nI sp), .int (nI q), .ref ms, .ref mw, .ref mu, .ref mc, .ref mn, .int en, .int (nI sz), .ref mr, .int (nI wa), .ref mq, .int la, .ref md, .int at0, .int lk])), (mq, .inl (cB, 1000, .inl wq))] := by rw [hAe]; exact va_D_ad hD0
  have hS : va_S A s.heap s.heap [] := va_S.rf
  have hl := lv_entry ([.ref y, .int (nI K)]) (n := 3) (Nat.le_of_ble_eq_true rfl)
  rw [lg_entry_eq]
  generalize (lg_sl ([.ref y, .int (nI K)]) ++ List.replicate (3 - (lg_sl ([.ref y, .int (nI K)])).length) Slot.unset).toArray = ls at hl ⊢
  have hl : lv_has ls 3 [(0, .ref y), (1, .int (nI K))] := hl
  refine lv_aload_n hx hb d_M_read_0 rfl (lv_at hl 0 rfl) ?_
  refine lv_iload_n hx hb d_M_read_1 rfl (lv_at hl 1 rfl) ?_
  refine lv_if_lt (tgt := 13) hx hb d_M_read_2 (by decide) (fun c_1 => ?_) (fun c_1 => ?_)
  · skip
    exact absurd c_1 (nI_pos (by omega))
  · skip
    refine lv_iload_n hx hb d_M_read_5 rfl (lv_at hl 1 rfl) ?_
    refine lv_aload_n hx hb d_M_read_6 rfl (lv_at hl 0 rfl) ?_
    refine va_get (D := D) (ci := 5) (v := .int (nI q)) (C := R_M) (T := T_M) (N := 20) hx hb hg in_M hown hK hP 0 rfl rfl 5 (by decide) (hg _ gw_529) (fun _ h9 => h9) rfl d_M_read_7 ?_
    refine lv_icmp_le (tgt := 17) hx hb d_M_read_10 (by decide) (fun c_2 => ?_) (fun c_2 => ?_)
    · skip
      refine lv_iconst (v := 0) hx hb d_M_read_17 (by decide) ?_
      refine va_put (D := D) (ci := 5) (v := .int 0) (ty := .int) (C := R_M) (T := T_M) (N := 20) hx hb hg in_M ty_M tok_M nm_M hown hK hP hD hS 0 rfl rfl 0 (by decide) (hg _ gw_524) (fun _ h9 => h9) rfl (by decide +kernel) (rfl) (rfl) (Nat.le_of_ble_eq_true rfl) d_M_read_18 (fun H locs hP hD hS => ?_)
      have hP : va_P D CLS [(y, .inr (5, [.int 0, .int (nI bi), .int (nI ne), .int (nI li), .int (nI sp), .int (nI q), .ref ms, .ref mw, .ref mu, .ref mc, .ref mn, .int en, .int (nI sz), .ref mr, .int (nI wa), .ref mq, .int la, .ref md, .int at0, .int lk])), (mq, .inl (cB, 1000, .inl wq))] H := hP
      have hD : va_D A [(y, .inr (5, [.int 0, .int (nI bi), .int (nI ne), .int (nI li), .int (nI sp), .int (nI q), .ref ms, .ref mw, .ref mu, .ref mc, .ref mn, .int en, .int (nI sz), .ref mr, .int (nI wa), .ref mq, .int la, .ref md, .int at0, .int lk])), (mq, .inl (cB, 1000, .inl wq))] := hD
      refine lv_aload_n hx hb d_M_read_21 rfl (lv_at hl 0 rfl) ?_
      refine va_get (D := D) (ci := 5) (v := .int 0) (C := R_M) (T := T_M) (N := 20) hx hb hg in_M hown hK hP 0 rfl rfl 0 (by decide) (hg _ gw_524) (fun _ h9 => h9) rfl d_M_read_22 ?_
      refine lv_if_le (tgt := 30) hx hb d_M_read_25 (by decide) (fun c_3 => ?_) (fun c_3 => ?_)
      · skip
        refine lv_aload_n hx hb d_M_read_30 rfl (lv_at hl 0 rfl) ?_
        refine lv_iload_n hx hb d_M_read_31 rfl (lv_at hl 1 rfl) ?_
        refine lv_aload_n hx hb d_M_read_32 rfl (lv_at hl 0 rfl) ?_
        refine va_get (D := D) (ci := 5) (v := .int (nI li)) (C := R_M) (T := T_M) (N := 20) hx hb hg in_M hown hK hP 0 rfl rfl 3 (by decide) (hg _ gw_527) (fun _ h9 => h9) rfl d_M_read_33 ?_
        have hPc := hP.sub (ws' := [(y, .inr (5, [.int 0, .int (nI bi), .int (nI ne), .int (nI li), .int (nI sp), .int (nI q), .ref ms, .ref mw, .ref mu, .ref mc, .ref mn, .int en, .int (nI sz), .ref mr, .int (nI wa), .ref mq, .int la, .ref md, .int at0, .int lk])), (mq, .inl (cB, 1000, .inl wq))]) [0, 1] rfl
        have hDc := hD.sub (ws' := [(y, .inr (5, [.int 0, .int (nI bi), .int (nI ne), .int (nI li), .int (nI sp), .int (nI q), .ref ms, .ref mw, .ref mu, .ref mc, .ref mn, .int en, .int (nI sz), .ref mr, .int (nI wa), .ref mq, .int la, .ref md, .int at0, .int lk])), (mq, .inl (cB, 1000, .inl wq))]) [0, 1] (by decide) rfl
        have hKc := hK.sub (tys' := [(cB, .byte)]) [0] rfl
        refine mci (va_runV (As := [.int (nI K), .int (nI li)]) (rest := []) ⟨hx, hb, hml, hown, hg⟩ (c_M_lookG l D y ms mw mu mc mn mr mq md bi ne li sp q sz wa 0 en la at0 lk cB wq K li z hwa (by omega) (by omega) hli hlb hz1 hz2 hz3 hz4 hzm hw hzk) (cwV 2 hg (gV gw_674 gw_676 gs_25 gw_7 gw_677) rfl rfl rfl (by decide +kernel) ⟨Nat.le_of_ble_eq_true rfl, Nat.le_of_ble_eq_true rfl⟩) ⟨fun a U g mk q => by obtain ⟨q0, qP, qK, qD⟩ := q; exact ⟨q0, qP, va_K.moved (u := U) (U := U.calling g mk a) (Vm.Alike.refl U.vm) qK, qD⟩, va_recv hKc hPc (ci := 5) (q0 := 0) rfl rfl, fun U hU hW => ⟨rfl, by rw [hU]; exact hPc, va_K.moved hW.alike hKc, hDc.weaken (fun _ _ _ _ => trivial)⟩⟩ rfl rfl hl.1 rfl (lv_room (Nat.le_of_ble_eq_true rfl)) d_M_read_36 (⟨Nat.le_of_ble_eq_true rfl, Nat.le_of_ble_eq_true rfl⟩)) hS hP hD [0, 1] rfl rfl rfl (fun H locs hP hD hS => ?_)
        have hP : va_P D CLS [(y, .inr (5, [.int 0, .int (nI bi), .int (nI ne), .int (nI li), .int (nI sp), .int (nI q), .ref ms, .ref mw, .ref mu, .ref mc, .ref mn, .int en, .int (nI sz), .ref mr, .int (nI wa), .ref mq, .int la, .ref md, .int (nI (z + 1 + tln q K (li - q - 1) z)), .int 0])), (mq, .inl (cB, 1000, .inl wq))] H := hP
        have hD : va_D A [(y, .inr (5, [.int 0, .int (nI bi), .int (nI ne), .int (nI li), .int (nI sp), .int (nI q), .ref ms, .ref mw, .ref mu, .ref mc, .ref mn, .int en, .int (nI sz), .ref mr, .int (nI wa), .ref mq, .int la, .ref md, .int (nI (z + 1 + tln q K (li - q - 1) z)), .int 0])), (mq, .inl (cB, 1000, .inl wq))] := hD
        refine lv_istore_n (lv' := [(2, .int (rnum (mbt wq wa) q K (li - q - 1) z)), (0, .ref y), (1, .int (nI K))]) hx hb d_M_read_39 rfl hl (by decide) rfl (fun ls hl => ?_)
        refine lv_iload_n hx hb d_M_read_40 rfl (lv_at hl 0 rfl) ?_
        refine lv_iconst (v := (-1)) hx hb d_M_read_41 (by decide) ?_
        refine lv_icmp_eq (tgt := 53) hx hb d_M_read_42 (by decide) (fun c_4 => ?_) (fun c_4 => ?_)
        · skip
          exact absurd c_4 hrn
        · skip
          refine lv_aload_n hx hb d_M_read_45 rfl (lv_at hl 1 rfl) ?_
          refine lv_aload_n hx hb d_M_read_46 rfl (lv_at hl 1 rfl) ?_
          refine va_get (D := D) (ci := 5) (v := .int (nI (z + 1 + tln q K (li - q - 1) z))) (C := R_M) (T := T_M) (N := 20) hx hb hg in_M hown hK hP 0 rfl rfl 18 (by decide) (hg _ gw_542) (fun _ h9 => h9) rfl d_M_read_47 ?_
          have hPc := hP.sub (ws' := [(y, .inr (5, [.int 0, .int (nI bi), .int (nI ne), .int (nI li), .int (nI sp), .int (nI q), .ref ms, .ref mw, .ref mu, .ref mc, .ref mn, .int en, .int (nI sz), .ref mr, .int (nI wa), .ref mq, .int la, .ref md, .int (nI (z + 1 + tln q K (li - q - 1) z)), .int 0])), (mq, .inl (cB, 1000, .inl wq))]) [0, 1] rfl
          have hDc := hD.sub (ws' := [(y, .inr (5, [.int 0, .int (nI bi), .int (nI ne), .int (nI li), .int (nI sp), .int (nI q), .ref ms, .ref mw, .ref mu, .ref mc, .ref mn, .int en, .int (nI sz), .ref mr, .int (nI wa), .ref mq, .int la, .ref md, .int (nI (z + 1 + tln q K (li - q - 1) z)), .int 0])), (mq, .inl (cB, 1000, .inl wq))]) [0, 1] (by decide) rfl
          have hKc := hK.sub (tys' := [(cB, .byte)]) [0] rfl
          refine mcv (va_runV (As := [.int (nI (z + 1 + tln q K (li - q - 1) z))]) (rest := []) ⟨hx, hb, hml, hown, hg⟩ (c_M_go l D y ms mw mu mc mn mr mq md bi ne li sp q sz wa 0 en la (nI (z + 1 + tln q K (li - q - 1) z)) 0 cB wq (z + 1 + tln q K (li - q - 1) z) hwa (by omega) hqb) (cwV 1 hg (gV gw_686 gw_688 gs_28 gw_7 gw_689) rfl rfl rfl (by decide +kernel) ⟨Nat.le_of_ble_eq_true rfl, Nat.le_of_ble_eq_true rfl⟩) ⟨fun a U g mk q => by obtain ⟨q0, qP, qK, qD⟩ := q; exact ⟨q0, qP, va_K.moved (u := U) (U := U.calling g mk a) (Vm.Alike.refl U.vm) qK, qD⟩, va_recv hKc hPc (ci := 5) (q0 := 0) rfl rfl, fun U hU hW => ⟨rfl, by rw [hU]; exact hPc, va_K.moved hW.alike hKc, hDc.weaken (fun _ _ _ _ => trivial)⟩⟩ rfl rfl hl.1 rfl (lv_room (Nat.le_of_ble_eq_true rfl)) d_M_read_50 (⟨Nat.le_of_ble_eq_true rfl, Nat.le_of_ble_eq_true rfl⟩)) hS hP hD [0, 1] rfl rfl rfl (fun H locs hP hD hS => ?_)
          have hP : va_P D CLS [(y, .inr (5, [.int 0, .int (nI bi), .int (nI ne), .int (nI li), .int (nI sp), .int (nI q), .ref ms, .ref mw, .ref mu, .ref mc, .ref mn, .int en, .int (nI sz), .ref mr, .int (nI (wa - (z + 1 + tln q K (li - q - 1) z))), .ref mq, .int la, .ref md, .int (nI (z + 1 + tln q K (li - q - 1) z)), .int 0])), (mq, .inl (cB, 1000, .inl (gof wq (z + 1 + tln q K (li - q - 1) z) (wa - (z + 1 + tln q K (li - q - 1) z)))))] H := hP
          have hD : va_D A [(y, .inr (5, [.int 0, .int (nI bi), .int (nI ne), .int (nI li), .int (nI sp), .int (nI q), .ref ms, .ref mw, .ref mu, .ref mc, .ref mn, .int en, .int (nI sz), .ref mr, .int (nI (wa - (z + 1 + tln q K (li - q - 1) z))), .ref mq, .int la, .ref md, .int (nI (z + 1 + tln q K (li - q - 1) z)), .int 0])), (mq, .inl (cB, 1000, .inl (gof wq (z + 1 + tln q K (li - q - 1) z) (wa - (z + 1 + tln q K (li - q - 1) z)))))] := hD
          refine lv_iload_n hx hb d_M_read_53 rfl (lv_at hl 0 rfl) ?_
          exact W.iret (v := rnum (mbt wq wa) q K (li - q - 1) z) hx hb hr (fun t ht hW => ⟨rfl, by rw [ht]; exact hP, (hAe ▸ hS).F ht⟩) (hAe ▸ hS).2.2 d_M_read_54
      · skip
        exact absurd (by decide) c_3
    · skip
      exact absurd (nI_le hKq (by omega)) c_2
set_option maxHeartbeats 4000000 in
set_option maxRecDepth 100000 in
theorem c_M_readT (l : Launch) (D : va_G) (y ms mw mu mc mn mr mq md bi ne li sp q sz wa : Nat) (th en la at0 lk : Int32) (k0 : Int32) (hbad : k0 < 0 ∨ nI q < k0) : Met l y_M_read (WSY y_M_read b_M_read 3 (some .int)) ({ frames := 3, cells := 0, slots := 0, locals := 72 }) (va_Pc [.ref y, .int k0] (fun U => va_P D CLS [(y, .inr (5, [.int th, .int (nI bi), .int (nI ne), .int (nI li), .int (nI sp), .int (nI q), .ref ms, .ref mw, .ref mu, .ref mc, .ref mn, .int en, .int (nI sz), .ref mr, .int (nI wa), .ref mq, .int la, .ref md, .int at0, .int lk]))] U.heap ∧ va_K D CLS [] U ∧ va_D (fun _ => True) [(y, .inr (5, [.int th, .int (nI bi), .int (nI ne), .int (nI li), .int (nI sp), .int (nI q), .ref ms, .ref mw, .ref mu, .ref mc, .ref mn, .int en, .int (nI sz), .ref mr, .int (nI wa), .ref mq, .int la, .ref md, .int at0, .int lk]))])) (QM (some (.int 0)) [(y, .inr (5, [.int th, .int (nI bi), .int (nI ne), .int (nI li), .int (nI sp), .int (nI q), .ref ms, .ref mw, .ref mu, .ref mc, .ref mn, .int en, .int (nI sz), .ref mr, .int (nI wa), .ref mq, .int la, .ref md, .int at0, .int lk]))] [(y, .inr (5, [.int 1, .int (nI bi), .int (nI ne), .int (nI li), .int (nI sp), .int (nI q), .ref ms, .ref mw, .ref mu, .ref mc, .ref mn, .int en, .int (nI sz), .ref mr, .int (nI wa), .ref mq, .int la, .ref md, .int at0, .int lk]))] D) 0 0 (ad [(y, .inr (5, [.int th, .int (nI bi), .int (nI ne), .int (nI li), .int (nI sp), .int (nI q), .ref ms, .ref mw, .ref mu, .ref mc, .ref mn, .int en, .int (nI sz), .ref mr, .int (nI wa), .ref mq, .int la, .ref md, .int at0, .int lk]))]) := by
  refine Met.ofW (cc := b_M_read) (maxL := 3) (ret := (some .int)) (by decide) rfl ?_
  intro p e s m args below meth c s₁ B hml hv
  obtain ⟨rfl, hP, hK, hD0⟩ := hv
  have hx := B.exec
  have hb := B.bytes
  have hr := B.returns
  have hts := atoms_spec (ws := WSY y_M_read b_M_read 3 (some .int)) B.pre
  have hg : ∀ w ∈ GW, w.before _ s = true := fun w h => hts w (List.mem_cons_of_mem _ h)
  have hown : s.vm.findClass "LineGolombModel" = some m.cls := findClass_of_methodNamed B.named
  have hlocks := B.notSynchronized
  obtain ⟨A, hAe⟩ : ∃ A, A = ad [(y, .inr (5, [.int th, .int (nI bi), .int (nI ne), .int (nI li), .int (nI sp), .int (nI q), .ref ms, .ref mw, .ref mu, .ref mc, .ref mn, .int en, .int (nI sz), .ref mr, .int (nI wa), .ref mq, .int la, .ref md, .int at0, .int lk]))] := ⟨_, rfl⟩
  have hD : va_D A [(y, .inr (5, [.int th, .int (nI bi), .int (nI ne), .int (nI li), .int (nI sp), .int (nI q), .ref ms, .ref mw, .ref mu, .ref mc, .ref mn, .int en, .int (nI sz), .ref mr, .int (nI wa), .ref mq, .int la, .ref md, .int at0, .int lk]))] := by rw [hAe]; exact va_D_ad hD0
  have hS : va_S A s.heap s.heap [] := va_S.rf
  have hl := lv_entry ([.ref y, .int k0]) (n := 3) (Nat.le_of_ble_eq_true rfl)
  rw [lg_entry_eq]
  generalize (lg_sl ([.ref y, .int k0]) ++ List.replicate (3 - (lg_sl ([.ref y, .int k0])).length) Slot.unset).toArray = ls at hl ⊢
  have hl : lv_has ls 3 [(0, .ref y), (1, .int k0)] := hl
  refine lv_aload_n hx hb d_M_read_0 rfl (lv_at hl 0 rfl) ?_
  refine lv_iload_n hx hb d_M_read_1 rfl (lv_at hl 1 rfl) ?_
  refine lv_if_lt (tgt := 13) hx hb d_M_read_2 (by decide) (fun c_1 => ?_) (fun c_1 => ?_)
  · skip
    refine lv_iconst (v := 1) hx hb d_M_read_13 (by decide) ?_
    refine lv_goto (tgt := 18) hx hb d_M_read_14 (by decide) ?_
    refine va_put (D := D) (ci := 5) (v := .int 1) (ty := .int) (C := R_M) (T := T_M) (N := 20) hx hb hg in_M ty_M tok_M nm_M hown hK hP hD hS 0 rfl rfl 0 (by decide) (hg _ gw_524) (fun _ h9 => h9) rfl (by decide +kernel) (rfl) (rfl) (Nat.le_of_ble_eq_true rfl) d_M_read_18 (fun H locs hP hD hS => ?_)
    have hP : va_P D CLS [(y, .inr (5, [.int 1, .int (nI bi), .int (nI ne), .int (nI li), .int (nI sp), .int (nI q), .ref ms, .ref mw, .ref mu, .ref mc, .ref mn, .int en, .int (nI sz), .ref mr, .int (nI wa), .ref mq, .int la, .ref md, .int at0, .int lk]))] H := hP
    have hD : va_D A [(y, .inr (5, [.int 1, .int (nI bi), .int (nI ne), .int (nI li), .int (nI sp), .int (nI q), .ref ms, .ref mw, .ref mu, .ref mc, .ref mn, .int en, .int (nI sz), .ref mr, .int (nI wa), .ref mq, .int la, .ref md, .int at0, .int lk]))] := hD
    refine lv_aload_n hx hb d_M_read_21 rfl (lv_at hl 0 rfl) ?_
    refine va_get (D := D) (ci := 5) (v := .int 1) (C := R_M) (T := T_M) (N := 20) hx hb hg in_M hown hK hP 0 rfl rfl 0 (by decide) (hg _ gw_524) (fun _ h9 => h9) rfl d_M_read_22 ?_
    refine lv_if_le (tgt := 30) hx hb d_M_read_25 (by decide) (fun c_2 => ?_) (fun c_2 => ?_)
    · skip
      exact absurd c_2 (by decide)
    · skip
      refine lv_iconst (v := 0) hx hb d_M_read_28 (by decide) ?_
      exact W.iret (v := 0) hx hb hr (fun t ht hW => ⟨rfl, by rw [ht]; exact hP, (hAe ▸ hS).F ht⟩) (hAe ▸ hS).2.2 d_M_read_29
  · skip
    refine lv_iload_n hx hb d_M_read_5 rfl (lv_at hl 1 rfl) ?_
    refine lv_aload_n hx hb d_M_read_6 rfl (lv_at hl 0 rfl) ?_
    refine va_get (D := D) (ci := 5) (v := .int (nI q)) (C := R_M) (T := T_M) (N := 20) hx hb hg in_M hown hK hP 0 rfl rfl 5 (by decide) (hg _ gw_529) (fun _ h9 => h9) rfl d_M_read_7 ?_
    refine lv_icmp_le (tgt := 17) hx hb d_M_read_10 (by decide) (fun c_3 => ?_) (fun c_3 => ?_)
    · skip
      exact absurd hbad (fun q9 => q9.elim c_1 (Int32.not_lt.mpr c_3))
    · skip
      refine lv_iconst (v := 1) hx hb d_M_read_13 (by decide) ?_
      refine lv_goto (tgt := 18) hx hb d_M_read_14 (by decide) ?_
      refine va_put (D := D) (ci := 5) (v := .int 1) (ty := .int) (C := R_M) (T := T_M) (N := 20) hx hb hg in_M ty_M tok_M nm_M hown hK hP hD hS 0 rfl rfl 0 (by decide) (hg _ gw_524) (fun _ h9 => h9) rfl (by decide +kernel) (rfl) (rfl) (Nat.le_of_ble_eq_true rfl) d_M_read_18 (fun H locs hP hD hS => ?_)
      have hP : va_P D CLS [(y, .inr (5, [.int 1, .int (nI bi), .int (nI ne), .int (nI li), .int (nI sp), .int (nI q), .ref ms, .ref mw, .ref mu, .ref mc, .ref mn, .int en, .int (nI sz), .ref mr, .int (nI wa), .ref mq, .int la, .ref md, .int at0, .int lk]))] H := hP
      have hD : va_D A [(y, .inr (5, [.int 1, .int (nI bi), .int (nI ne), .int (nI li), .int (nI sp), .int (nI q), .ref ms, .ref mw, .ref mu, .ref mc, .ref mn, .int en, .int (nI sz), .ref mr, .int (nI wa), .ref mq, .int la, .ref md, .int at0, .int lk]))] := hD
      refine lv_aload_n hx hb d_M_read_21 rfl (lv_at hl 0 rfl) ?_
      refine va_get (D := D) (ci := 5) (v := .int 1) (C := R_M) (T := T_M) (N := 20) hx hb hg in_M hown hK hP 0 rfl rfl 0 (by decide) (hg _ gw_524) (fun _ h9 => h9) rfl d_M_read_22 ?_
      refine lv_if_le (tgt := 30) hx hb d_M_read_25 (by decide) (fun c_4 => ?_) (fun c_4 => ?_)
      · skip
        exact absurd c_4 (by decide)
      · skip
        refine lv_iconst (v := 0) hx hb d_M_read_28 (by decide) ?_
        exact W.iret (v := 0) hx hb hr (fun t ht hW => ⟨rfl, by rw [ht]; exact hP, (hAe ▸ hS).F ht⟩) (hAe ▸ hS).2.2 d_M_read_29
