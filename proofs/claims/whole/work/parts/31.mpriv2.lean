/-! LineGolombModel: the private methods, second half -/
theorem mbt_in {wq : Nat → Int32} {wa j : Nat} (h : j < wa) : mbt wq wa j = wq j := if_pos h
theorem mbt_out {wq : Nat → Int32} {wa j : Nat} (h : ¬ j < wa) : mbt wq wa j = 0 := if_neg h
set_option maxHeartbeats 4000000 in
set_option maxRecDepth 100000 in
theorem c_M_write (l : Launch) (D : va_G) (y ms mw mu mc mn mr mq md bi ne li sp q sz wa : Nat) (th en la at0 lk : Int32) (cB : ClassId) (wr dr : Nat → Int32) (l0 : Nat) (hl0 : l0 ≤ 400) (hsz : sz + l0 ≤ 6000) (hdr : ∀ j, j < l0 → dr j = 0 ∨ dr j = 1) : Met l y_M_write (WSY y_M_write b_M_write 2 (some .int)) ({ frames := 0, cells := 0, slots := 0, locals := 0 }) (va_Pc [.ref y] (fun U => va_P D CLS [(y, .inr (5, [.int th, .int (nI bi), .int (nI ne), .int (nI li), .int (nI sp), .int (nI q), .ref ms, .ref mw, .ref mu, .ref mc, .ref mn, .int en, .int (nI sz), .ref mr, .int (nI wa), .ref mq, .int (nI l0), .ref md, .int at0, .int lk])), (mr, .inl (cB, 6000, .inl wr)), (md, .inl (cB, 400, .inl dr))] U.heap ∧ va_K D CLS [(cB, .byte)] U ∧ va_D (fun _ => True) [(y, .inr (5, [.int th, .int (nI bi), .int (nI ne), .int (nI li), .int (nI sp), .int (nI q), .ref ms, .ref mw, .ref mu, .ref mc, .ref mn, .int en, .int (nI sz), .ref mr, .int (nI wa), .ref mq, .int (nI l0), .ref md, .int at0, .int lk])), (mr, .inl (cB, 6000, .inl wr)), (md, .inl (cB, 400, .inl dr))])) (QM (some (.int (nI l0))) [(y, .inr (5, [.int th, .int (nI bi), .int (nI ne), .int (nI li), .int (nI sp), .int (nI q), .ref ms, .ref mw, .ref mu, .ref mc, .ref mn, .int en, .int (nI sz), .ref mr, .int (nI wa), .ref mq, .int (nI l0), .ref md, .int at0, .int lk])), (mr, .inl (cB, 6000, .inl wr)), (md, .inl (cB, 400, .inl dr))] [(y, .inr (5, [.int th, .int (nI bi), .int (nI ne), .int (nI li), .int (nI sp), .int (nI q), .ref ms, .ref mw, .ref mu, .ref mc, .ref mn, .int en, .int (nI (sz + l0)), .ref mr, .int (nI wa), .ref mq, .int (nI l0), .ref md, .int at0, .int lk])), (mr, .inl (cB, 6000, .inl (cpw wr sz dr l0))), (md, .inl (cB, 400, .inl dr))] D) 0 0 (ad [(y, .inr (5, [.int th, .int (nI bi), .int (nI ne), .int (nI li), .int (nI sp), .int (nI q), .ref ms, .ref mw, .ref mu, .ref mc, .ref mn, .int en, .int (nI sz), .ref mr, .int (nI wa), .ref mq, .int (nI l0), .ref md, .int at0, .int lk])), (mr, .inl (cB, 6000, .inl wr)), (md, .inl (cB, 400, .inl dr))]) := by
  refine Met.ofW (cc := b_M_write) (maxL := 2) (ret := (some .int)) (by decide) rfl ?_
  intro p e s m args below meth c s₁ B hml hv
  obtain ⟨rfl, hP, hK, hD0⟩ := hv
  have hx := B.exec
  have hb := B.bytes
  have hr := B.returns
  have hts := atoms_spec (ws := WSY y_M_write b_M_write 2 (some .int)) B.pre
  have hg : ∀ w ∈ GW, w.before _ s = true := fun w h => hts w (List.mem_cons_of_mem _ h)
  have hown : s.vm.findClass "LineGolombModel" = some m.cls := findClass_of_methodNamed B.named
  have hlocks := B.notSynchronized
  obtain ⟨A, hAe⟩ : ∃ A, A = ad [(y, .inr (5, [.int th, .int (nI bi), .int (nI ne), .int (nI li), .int (nI sp), .int (nI q), .ref ms, .ref mw, .ref mu, .ref mc, .ref mn, .int en, .int (nI sz), .ref mr, .int (nI wa), .ref mq, .int (nI l0), .ref md, .int at0, .int lk])), (mr, .inl (cB, 6000, .inl wr)), (md, .inl (cB, 400, .inl dr))] := ⟨_, rfl⟩
  have hD : va_D A [(y, .inr (5, [.int th, .int (nI bi), .int (nI ne), .int (nI li), .int (nI sp), .int (nI q), .ref ms, .ref mw, .ref mu, .ref mc, .ref mn, .int en, .int (nI sz), .ref mr, .int (nI wa), .ref mq, .int (nI l0), .ref md, .int at0, .int lk])), (mr, .inl (cB, 6000, .inl wr)), (md, .inl (cB, 400, .inl dr))] := by rw [hAe]; exact va_D_ad hD0
  have hS : va_S A s.heap s.heap [] := va_S.rf
  have hl := lv_entry ([.ref y]) (n := 2) (Nat.le_of_ble_eq_true rfl)
  rw [lg_entry_eq]
  generalize (lg_sl ([.ref y]) ++ List.replicate (2 - (lg_sl ([.ref y])).length) Slot.unset).toArray = ls at hl ⊢
  have hl : lv_has ls 2 [(0, .ref y)] := hl
  refine lv_iconst (v := 0) hx hb d_M_write_0 (by decide) ?_
  refine lv_istore_n (lv' := [(1, .int 0), (0, .ref y)]) hx hb d_M_write_1 rfl hl (by decide) rfl (fun ls hl => ?_)
  have loop : ∀ (d k : Nat), k + d = l0 → ∀ (H : Heap) (locs : List Loc), va_P D CLS [(y, .inr (5, [.int th, .int (nI bi), .int (nI ne), .int (nI li), .int (nI sp), .int (nI q), .ref ms, .ref mw, .ref mu, .ref mc, .ref mn, .int en, .int (nI sz), .ref mr, .int (nI wa), .ref mq, .int (nI l0), .ref md, .int at0, .int lk])), (mr, .inl (cB, 6000, .inl (cpw wr sz dr k))), (md, .inl (cB, 400, .inl dr))] H → va_D A [(y, .inr (5, [.int th, .int (nI bi), .int (nI ne), .int (nI li), .int (nI sp), .int (nI q), .ref ms, .ref mw, .ref mu, .ref mc, .ref mn, .int en, .int (nI sz), .ref mr, .int (nI wa), .ref mq, .int (nI l0), .ref md, .int at0, .int lk])), (mr, .inl (cB, 6000, .inl (cpw wr sz dr k))), (md, .inl (cB, 400, .inl dr))] → va_S A s.heap H locs → ∀ (ls : Array Slot), lv_has ls 2 [(1, .int (nI k)), (0, .ref y)] → W p l e (headSpec (WSY y_M_write b_M_write 2 (some .int)) ({ frames := 0, cells := 0, slots := 0, locals := 0 })).room s m ([.ref y] : List Value).toArray below meth c H locs 0 0 (MQ below (QM (some (.int (nI l0))) [(y, .inr (5, [.int th, .int (nI bi), .int (nI ne), .int (nI li), .int (nI sp), .int (nI q), .ref ms, .ref mw, .ref mu, .ref mc, .ref mn, .int en, .int (nI sz), .ref mr, .int (nI wa), .ref mq, .int (nI l0), .ref md, .int at0, .int lk])), (mr, .inl (cB, 6000, .inl wr)), (md, .inl (cB, 400, .inl dr))] [(y, .inr (5, [.int th, .int (nI bi), .int (nI ne), .int (nI li), .int (nI sp), .int (nI q), .ref ms, .ref mw, .ref mu, .ref mc, .ref mn, .int en, .int (nI (sz + l0)), .ref mr, .int (nI wa), .ref mq, .int (nI l0), .ref md, .int at0, .int lk])), (mr, .inl (cB, 6000, .inl (cpw wr sz dr l0))), (md, .inl (cB, 400, .inl dr))] D) ([.ref y] : List Value).toArray s 0 0 (ad [(y, .inr (5, [.int th, .int (nI bi), .int (nI ne), .int (nI li), .int (nI sp), .int (nI q), .ref ms, .ref mw, .ref mu, .ref mc, .ref mn, .int en, .int (nI sz), .ref mr, .int (nI wa), .ref mq, .int (nI l0), .ref md, .int at0, .int lk])), (mr, .inl (cB, 6000, .inl wr)), (md, .inl (cB, 400, .inl dr))])) (F0 m 2 ls []) := by
    intro d
    induction d with
    | zero =>
      intro k hk H locs hP hD hS ls hl
      obtain rfl : l0 = k := by omega
      refine lv_iload_n hx hb d_M_write_2 rfl (lv_at hl 0 rfl) ?_
      refine lv_aload_n hx hb d_M_write_3 rfl (lv_at hl 1 rfl) ?_
      refine va_get (D := D) (ci := 5) (v := .int (nI l0)) (C := R_M) (T := T_M) (N := 20) hx hb hg in_M hown hK hP 0 rfl rfl 16 (by decide) (hg _ gw_540) (fun _ h9 => h9) rfl d_M_write_4 ?_
      refine lv_icmp_ge (tgt := 33) hx hb d_M_write_7 (by decide) (fun c_1 => ?_) (fun c_1 => ?_)
      · skip
        refine lv_aload_n hx hb d_M_write_33 rfl (lv_at hl 1 rfl) ?_
        refine lv_aload_n hx hb d_M_write_34 rfl (lv_at hl 1 rfl) ?_
        refine va_get (D := D) (ci := 5) (v := .int (nI sz)) (C := R_M) (T := T_M) (N := 20) hx hb hg in_M hown hK hP 0 rfl rfl 12 (by decide) (hg _ gw_536) (fun _ h9 => h9) rfl d_M_write_35 ?_
        refine lv_aload_n hx hb d_M_write_38 rfl (lv_at hl 1 rfl) ?_
        refine va_get (D := D) (ci := 5) (v := .int (nI l0)) (C := R_M) (T := T_M) (N := 20) hx hb hg in_M hown hK hP 0 rfl rfl 16 (by decide) (hg _ gw_540) (fun _ h9 => h9) rfl d_M_write_39 ?_
        refine lv_iadd hx hb d_M_write_42 ?_
        refine tpi (y := nI (sz + l0)) (nI_add _ _) ?_
        refine va_put (D := D) (ci := 5) (v := .int (nI (sz + l0))) (ty := .int) (C := R_M) (T := T_M) (N := 20) hx hb hg in_M ty_M tok_M nm_M hown hK hP hD hS 0 rfl rfl 12 (by decide) (hg _ gw_536) (fun _ h9 => h9) rfl (by decide +kernel) (rfl) (rfl) (Nat.le_of_ble_eq_true rfl) d_M_write_43 (fun H locs hP hD hS => ?_)
        have hP : va_P D CLS [(y, .inr (5, [.int th, .int (nI bi), .int (nI ne), .int (nI li), .int (nI sp), .int (nI q), .ref ms, .ref mw, .ref mu, .ref mc, .ref mn, .int en, .int (nI (sz + l0)), .ref mr, .int (nI wa), .ref mq, .int (nI l0), .ref md, .int at0, .int lk])), (mr, .inl (cB, 6000, .inl (cpw wr sz dr l0))), (md, .inl (cB, 400, .inl dr))] H := hP
        have hD : va_D A [(y, .inr (5, [.int th, .int (nI bi), .int (nI ne), .int (nI li), .int (nI sp), .int (nI q), .ref ms, .ref mw, .ref mu, .ref mc, .ref mn, .int en, .int (nI (sz + l0)), .ref mr, .int (nI wa), .ref mq, .int (nI l0), .ref md, .int at0, .int lk])), (mr, .inl (cB, 6000, .inl (cpw wr sz dr l0))), (md, .inl (cB, 400, .inl dr))] := hD
        refine lv_aload_n hx hb d_M_write_46 rfl (lv_at hl 1 rfl) ?_
        refine va_get (D := D) (ci := 5) (v := .int (nI l0)) (C := R_M) (T := T_M) (N := 20) hx hb hg in_M hown hK hP 0 rfl rfl 16 (by decide) (hg _ gw_540) (fun _ h9 => h9) rfl d_M_write_47 ?_
        exact W.iret (v := nI l0) hx hb hr (fun t ht hW => ⟨rfl, by rw [ht]; exact hP, (hAe ▸ hS).F ht⟩) (hAe ▸ hS).2.2 d_M_write_50
      · skip
        exact absurd (nI_le (Nat.le_refl _) (by omega)) c_1
    | succ d ih =>
      intro k hk H locs hP hD hS ls hl
      refine lv_iload_n hx hb d_M_write_2 rfl (lv_at hl 0 rfl) ?_
      refine lv_aload_n hx hb d_M_write_3 rfl (lv_at hl 1 rfl) ?_
      refine va_get (D := D) (ci := 5) (v := .int (nI l0)) (C := R_M) (T := T_M) (N := 20) hx hb hg in_M hown hK hP 0 rfl rfl 16 (by decide) (hg _ gw_540) (fun _ h9 => h9) rfl d_M_write_4 ?_
      refine lv_icmp_ge (tgt := 33) hx hb d_M_write_7 (by decide) (fun c_2 => ?_) (fun c_2 => ?_)
      · skip
        exact absurd ((nI_leI (by omega) (by omega)).mp c_2) (by omega)
      · skip
        refine lv_aload_n hx hb d_M_write_10 rfl (lv_at hl 1 rfl) ?_
        refine va_get (D := D) (ci := 5) (v := .ref mr) (C := R_M) (T := T_M) (N := 20) hx hb hg in_M hown hK hP 0 rfl rfl 13 (by decide) (hg _ gw_537) (fun _ h9 => h9) rfl d_M_write_11 ?_
        refine lv_aload_n hx hb d_M_write_14 rfl (lv_at hl 1 rfl) ?_
        refine va_get (D := D) (ci := 5) (v := .int (nI sz)) (C := R_M) (T := T_M) (N := 20) hx hb hg in_M hown hK hP 0 rfl rfl 12 (by decide) (hg _ gw_536) (fun _ h9 => h9) rfl d_M_write_15 ?_
        refine lv_iload_n hx hb d_M_write_18 rfl (lv_at hl 0 rfl) ?_
        refine lv_iadd hx hb d_M_write_19 ?_
        refine tpi (y := nI (sz + k)) (nI_add _ _) ?_
        refine lv_aload_n hx hb d_M_write_20 rfl (lv_at hl 1 rfl) ?_
        refine va_get (D := D) (ci := 5) (v := .ref md) (C := R_M) (T := T_M) (N := 20) hx hb hg in_M hown hK hP 0 rfl rfl 17 (by decide) (hg _ gw_541) (fun _ h9 => h9) rfl d_M_write_21 ?_
        refine lv_iload_n hx hb d_M_write_24 rfl (lv_at hl 0 rfl) ?_
        refine va_bald hx hb hK hP 2 0 rfl rfl (vp_in_nI (by omega) (by omega)) d_M_write_25 ?_
        refine tpi (y := dr k) (by rw [nI_clamp (by omega)]) ?_
        refine va_bast hx hb hK hP hD hS 1 0 rfl rfl (vp_in_nI (by omega) (by omega)) d_M_write_26 (fun H locs hP hD hS => ?_)
        rw [nI_clamp (show sz + k < 2 ^ 31 by omega), n8 (hdr k (by omega))] at hP hD
        have hP : va_P D CLS [(y, .inr (5, [.int th, .int (nI bi), .int (nI ne), .int (nI li), .int (nI sp), .int (nI q), .ref ms, .ref mw, .ref mu, .ref mc, .ref mn, .int en, .int (nI sz), .ref mr, .int (nI wa), .ref mq, .int (nI l0), .ref md, .int at0, .int lk])), (mr, .inl (cB, 6000, .inl (cpw wr sz dr (k + 1)))), (md, .inl (cB, 400, .inl dr))] H := hP
        have hD : va_D A [(y, .inr (5, [.int th, .int (nI bi), .int (nI ne), .int (nI li), .int (nI sp), .int (nI q), .ref ms, .ref mw, .ref mu, .ref mc, .ref mn, .int en, .int (nI sz), .ref mr, .int (nI wa), .ref mq, .int (nI l0), .ref md, .int at0, .int lk])), (mr, .inl (cB, 6000, .inl (cpw wr sz dr (k + 1)))), (md, .inl (cB, 400, .inl dr))] := hD
        refine lv_iinc (v := nI (k + 1)) (lv' := [(1, .int (nI (k + 1))), (0, .ref y)]) hx hb d_M_write_27 hl (k := 0) rfl (nI_1 k) (by decide) rfl (fun ls hl => ?_)
        refine lv_goto (tgt := 2) hx hb d_M_write_30 (by decide) ?_
        exact ih (k + 1) (by omega) H locs hP hD hS ls (lv_sub hl [0, 1] rfl)
  exact loop l0 0 (by omega) s.heap [] hP hD hS ls hl
set_option maxHeartbeats 4000000 in
set_option maxRecDepth 100000 in
theorem c_M_learn0P (l : Launch) (D : va_G) (y ms mw mu mc mn mr mq md bi ne li sp q sz wa : Nat) (th en la at0 lk : Int32) (cI : ClassId) (su cu nu : Nat → Int32) (sm ct ng n N : Nat) (hsu : su 0 = nI sm) (hcu : cu 0 = nI ct) (hnu : nu 0 = nI ng) (hc0 : ct ≤ 64) (hn0 : ng ≤ 64) (hs0 : sm < 2 ^ 29) (hN : N < 2 ^ 29) (hn : n < 2 ^ 30) : Met l y_M_learn (WSY y_M_learn b_M_learn 5 none) ({ frames := 0, cells := 0, slots := 0, locals := 0 }) (va_Pc [.ref y, .int 0, .int 0, .int (nI N), .int (nI n)] (fun U => va_P D CLS [(y, .inr (5, [.int th, .int (nI bi), .int (nI ne), .int (nI li), .int (nI sp), .int (nI q), .ref ms, .ref mw, .ref mu, .ref mc, .ref mn, .int en, .int (nI sz), .ref mr, .int (nI wa), .ref mq, .int la, .ref md, .int at0, .int lk])), (mu, .inl (cI, 4, .inl su)), (mc, .inl (cI, 4, .inl cu)), (mn, .inl (cI, 4, .inl nu))] U.heap ∧ va_K D CLS [(cI, .int)] U ∧ va_D (fun _ => True) [(y, .inr (5, [.int th, .int (nI bi), .int (nI ne), .int (nI li), .int (nI sp), .int (nI q), .ref ms, .ref mw, .ref mu, .ref mc, .ref mn, .int en, .int (nI sz), .ref mr, .int (nI wa), .ref mq, .int la, .ref md, .int at0, .int lk])), (mu, .inl (cI, 4, .inl su)), (mc, .inl (cI, 4, .inl cu)), (mn, .inl (cI, 4, .inl nu))])) (QM none [(y, .inr (5, [.int th, .int (nI bi), .int (nI ne), .int (nI li), .int (nI sp), .int (nI q), .ref ms, .ref mw, .ref mu, .ref mc, .ref mn, .int en, .int (nI sz), .ref mr, .int (nI wa), .ref mq, .int la, .ref md, .int at0, .int lk])), (mu, .inl (cI, 4, .inl su)), (mc, .inl (cI, 4, .inl cu)), (mn, .inl (cI, 4, .inl nu))] [(y, .inr (5, [.int th, .int (nI bi), .int (nI ne), .int (nI li), .int (nI sp), .int (nI q), .ref ms, .ref mw, .ref mu, .ref mc, .ref mn, .int en, .int (nI sz), .ref mr, .int (nI wa), .ref mq, .int la, .ref md, .int at0, .int lk])), (mu, .inl (cI, 4, .inl (upd su 0 (nI (hvd ct (sm + (N + 1 - 0) / 2)))))), (mc, .inl (cI, 4, .inl (upd cu 0 (nI (hvd ct ct + 1))))), (mn, .inl (cI, 4, .inl (upd nu 0 (nI (hvd ct ng)))))] D) 0 0 (ad [(y, .inr (5, [.int th, .int (nI bi), .int (nI ne), .int (nI li), .int (nI sp), .int (nI q), .ref ms, .ref mw, .ref mu, .ref mc, .ref mn, .int en, .int (nI sz), .ref mr, .int (nI wa), .ref mq, .int la, .ref md, .int at0, .int lk])), (mu, .inl (cI, 4, .inl su)), (mc, .inl (cI, 4, .inl cu)), (mn, .inl (cI, 4, .inl nu))]) := by
  refine Met.ofW (cc := b_M_learn) (maxL := 5) (ret := none) (by decide) rfl ?_
  intro p e s m args below meth c s₁ B hml hv
  obtain ⟨rfl, hP, hK, hD0⟩ := hv
  have hx := B.exec
  have hb := B.bytes
  have hr := B.returns
  have hts := atoms_spec (ws := WSY y_M_learn b_M_learn 5 none) B.pre
  have hg : ∀ w ∈ GW, w.before _ s = true := fun w h => hts w (List.mem_cons_of_mem _ h)
  have hown : s.vm.findClass "LineGolombModel" = some m.cls := findClass_of_methodNamed B.named
  have hlocks := B.notSynchronized
  obtain ⟨A, hAe⟩ : ∃ A, A = ad [(y, .inr (5, [.int th, .int (nI bi), .int (nI ne), .int (nI li), .int (nI sp), .int (nI q), .ref ms, .ref mw, .ref mu, .ref mc, .ref mn, .int en, .int (nI sz), .ref mr, .int (nI wa), .ref mq, .int la, .ref md, .int at0, .int lk])), (mu, .inl (cI, 4, .inl su)), (mc, .inl (cI, 4, .inl cu)), (mn, .inl (cI, 4, .inl nu))] := ⟨_, rfl⟩
  have hD : va_D A [(y, .inr (5, [.int th, .int (nI bi), .int (nI ne), .int (nI li), .int (nI sp), .int (nI q), .ref ms, .ref mw, .ref mu, .ref mc, .ref mn, .int en, .int (nI sz), .ref mr, .int (nI wa), .ref mq, .int la, .ref md, .int at0, .int lk])), (mu, .inl (cI, 4, .inl su)), (mc, .inl (cI, 4, .inl cu)), (mn, .inl (cI, 4, .inl nu))] := by rw [hAe]; exact va_D_ad hD0
  have hS : va_S A s.heap s.heap [] := va_S.rf
  have hl := lv_entry ([.ref y, .int 0, .int 0, .int (nI N), .int (nI n)]) (n := 5) (Nat.le_of_ble_eq_true rfl)
  rw [lg_entry_eq]
  generalize (lg_sl ([.ref y, .int 0, .int 0, .int (nI N), .int (nI n)]) ++ List.replicate (5 - (lg_sl ([.ref y, .int 0, .int 0, .int (nI N), .int (nI n)])).length) Slot.unset).toArray = ls at hl ⊢
  have hl : lv_has ls 5 [(0, .ref y), (1, .int 0), (2, .int 0), (3, .int (nI N)), (4, .int (nI n))] := hl
  refine lv_aload_n hx hb d_M_learn_0 rfl (lv_at hl 0 rfl) ?_
  refine va_get (D := D) (ci := 5) (v := .ref mn) (C := R_M) (T := T_M) (N := 20) hx hb hg in_M hown hK hP 0 rfl rfl 10 (by decide) (hg _ gw_534) (fun _ h9 => h9) rfl d_M_learn_1 ?_
  refine lv_iload_n hx hb d_M_learn_4 rfl (lv_at hl 1 rfl) ?_
  refine lv_iload hx hb d_M_learn_5 (lv_at hl 4 rfl) ?_
  refine lv_if_ge (tgt := 21) hx hb d_M_learn_7 (by decide) (fun c_1 => ?_) (fun c_1 => ?_)
  · skip
    refine lv_aload_n hx hb d_M_learn_21 rfl (lv_at hl 0 rfl) ?_
    refine va_get (D := D) (ci := 5) (v := .ref mn) (C := R_M) (T := T_M) (N := 20) hx hb hg in_M hown hK hP 0 rfl rfl 10 (by decide) (hg _ gw_534) (fun _ h9 => h9) rfl d_M_learn_22 ?_
    refine lv_iload_n hx hb d_M_learn_25 rfl (lv_at hl 1 rfl) ?_
    refine va_iald hx hb hK hP 3 0 rfl rfl (vp_in_nI (n := 0) (by decide) (by decide)) d_M_learn_26 ?_
    refine tpi (y := nI ng) (hnu) ?_
    refine va_iast hx hb hK hP hD hS 3 0 rfl rfl (vp_in_nI (n := 0) (by decide) (by decide)) d_M_learn_27 (fun H locs hP hD hS => ?_)
    rw [show (0 : Int32).toNatClampNeg = 0 from rfl] at hP hD
    have hP : va_P D CLS [(y, .inr (5, [.int th, .int (nI bi), .int (nI ne), .int (nI li), .int (nI sp), .int (nI q), .ref ms, .ref mw, .ref mu, .ref mc, .ref mn, .int en, .int (nI sz), .ref mr, .int (nI wa), .ref mq, .int la, .ref md, .int at0, .int lk])), (mu, .inl (cI, 4, .inl su)), (mc, .inl (cI, 4, .inl cu)), (mn, .inl (cI, 4, .inl (upd nu 0 (nI ng))))] H := hP
    have hD : va_D A [(y, .inr (5, [.int th, .int (nI bi), .int (nI ne), .int (nI li), .int (nI sp), .int (nI q), .ref ms, .ref mw, .ref mu, .ref mc, .ref mn, .int en, .int (nI sz), .ref mr, .int (nI wa), .ref mq, .int la, .ref md, .int at0, .int lk])), (mu, .inl (cI, 4, .inl su)), (mc, .inl (cI, 4, .inl cu)), (mn, .inl (cI, 4, .inl (upd nu 0 (nI ng))))] := hD
    refine lv_aload_n hx hb d_M_learn_28 rfl (lv_at hl 0 rfl) ?_
    refine va_get (D := D) (ci := 5) (v := .ref mu) (C := R_M) (T := T_M) (N := 20) hx hb hg in_M hown hK hP 0 rfl rfl 8 (by decide) (hg _ gw_532) (fun _ h9 => h9) rfl d_M_learn_29 ?_
    refine lv_iload_n hx hb d_M_learn_32 rfl (lv_at hl 1 rfl) ?_
    refine lv_aload_n hx hb d_M_learn_33 rfl (lv_at hl 0 rfl) ?_
    refine va_get (D := D) (ci := 5) (v := .ref mu) (C := R_M) (T := T_M) (N := 20) hx hb hg in_M hown hK hP 0 rfl rfl 8 (by decide) (hg _ gw_532) (fun _ h9 => h9) rfl d_M_learn_34 ?_
    refine lv_iload_n hx hb d_M_learn_37 rfl (lv_at hl 1 rfl) ?_
    refine va_iald hx hb hK hP 1 0 rfl rfl (vp_in_nI (n := 0) (by decide) (by decide)) d_M_learn_38 ?_
    refine tpi (y := nI sm) (hsu) ?_
    refine lv_iload_n hx hb d_M_learn_39 rfl (lv_at hl 3 rfl) ?_
    refine lv_iconst (v := 1) hx hb d_M_learn_40 (by decide) ?_
    refine lv_iadd hx hb d_M_learn_41 ?_
    refine tpi (y := nI (N + 1)) (nI_1 N) ?_
    refine lv_iload_n hx hb d_M_learn_42 rfl (lv_at hl 2 rfl) ?_
    refine lv_isub hx hb d_M_learn_43 ?_
    refine tpi (y := nI (N + 1 - 0)) (pk_sub (b := 0) (by omega)) ?_
    refine lv_iconst (v := 2) hx hb d_M_learn_44 (by decide) ?_
    refine lv_idiv hx hb d_M_learn_45 (by decide) ?_
    refine tpi (y := nI ((N + 1 - 0) / 2)) (div2 (by omega)) ?_
    refine lv_iadd hx hb d_M_learn_46 ?_
    refine tpi (y := nI (sm + (N + 1 - 0) / 2)) (nI_add _ _) ?_
    refine va_iast hx hb hK hP hD hS 1 0 rfl rfl (vp_in_nI (n := 0) (by decide) (by decide)) d_M_learn_47 (fun H locs hP hD hS => ?_)
    rw [show (0 : Int32).toNatClampNeg = 0 from rfl] at hP hD
    have hP : va_P D CLS [(y, .inr (5, [.int th, .int (nI bi), .int (nI ne), .int (nI li), .int (nI sp), .int (nI q), .ref ms, .ref mw, .ref mu, .ref mc, .ref mn, .int en, .int (nI sz), .ref mr, .int (nI wa), .ref mq, .int la, .ref md, .int at0, .int lk])), (mu, .inl (cI, 4, .inl (upd su 0 (nI (sm + (N + 1 - 0) / 2))))), (mc, .inl (cI, 4, .inl cu)), (mn, .inl (cI, 4, .inl (upd nu 0 (nI ng))))] H := hP
    have hD : va_D A [(y, .inr (5, [.int th, .int (nI bi), .int (nI ne), .int (nI li), .int (nI sp), .int (nI q), .ref ms, .ref mw, .ref mu, .ref mc, .ref mn, .int en, .int (nI sz), .ref mr, .int (nI wa), .ref mq, .int la, .ref md, .int at0, .int lk])), (mu, .inl (cI, 4, .inl (upd su 0 (nI (sm + (N + 1 - 0) / 2))))), (mc, .inl (cI, 4, .inl cu)), (mn, .inl (cI, 4, .inl (upd nu 0 (nI ng))))] := hD
    refine lv_aload_n hx hb d_M_learn_48 rfl (lv_at hl 0 rfl) ?_
    refine va_get (D := D) (ci := 5) (v := .ref mc) (C := R_M) (T := T_M) (N := 20) hx hb hg in_M hown hK hP 0 rfl rfl 9 (by decide) (hg _ gw_533) (fun _ h9 => h9) rfl d_M_learn_49 ?_
    refine lv_iload_n hx hb d_M_learn_52 rfl (lv_at hl 1 rfl) ?_
    refine va_iald hx hb hK hP 2 0 rfl rfl (vp_in_nI (n := 0) (by decide) (by decide)) d_M_learn_53 ?_
    refine tpi (y := nI ct) (hcu) ?_
    refine lv_bipush (v := 64) hx hb d_M_learn_54 (by decide) ?_
    refine lv_icmp_ne (tgt := 101) hx hb d_M_learn_56 (by decide) (fun c_2 => ?_) (fun c_2 => ?_)
    · skip
      have h2 : ¬ ct = 64 := fun z => c_2 (by rw [z]; rfl)
      refine lv_aload_n hx hb d_M_learn_101 rfl (lv_at hl 0 rfl) ?_
      refine va_get (D := D) (ci := 5) (v := .ref mc) (C := R_M) (T := T_M) (N := 20) hx hb hg in_M hown hK hP 0 rfl rfl 9 (by decide) (hg _ gw_533) (fun _ h9 => h9) rfl d_M_learn_102 ?_
      refine lv_iload_n hx hb d_M_learn_105 rfl (lv_at hl 1 rfl) ?_
      refine lv_dup2_11 hx hb d_M_learn_106 rfl rfl ?_
      refine va_iald hx hb hK hP 2 0 rfl rfl (vp_in_nI (n := 0) (by decide) (by decide)) d_M_learn_107 ?_
      refine tpi (y := nI ct) (hcu) ?_
      refine lv_iconst (v := 1) hx hb d_M_learn_108 (by decide) ?_
      refine lv_iadd hx hb d_M_learn_109 ?_
      refine tpi (y := nI (hvd ct ct + 1)) (by rw [show hvd ct ct = ct from if_neg h2]; exact nI_1 ct) ?_
      refine va_iast hx hb hK hP hD hS 2 0 rfl rfl (vp_in_nI (n := 0) (by decide) (by decide)) d_M_learn_110 (fun H locs hP hD hS => ?_)
      rw [show (0 : Int32).toNatClampNeg = 0 from rfl] at hP hD
      have hP : va_P D CLS [(y, .inr (5, [.int th, .int (nI bi), .int (nI ne), .int (nI li), .int (nI sp), .int (nI q), .ref ms, .ref mw, .ref mu, .ref mc, .ref mn, .int en, .int (nI sz), .ref mr, .int (nI wa), .ref mq, .int la, .ref md, .int at0, .int lk])), (mu, .inl (cI, 4, .inl (upd su 0 (nI (sm + (N + 1 - 0) / 2))))), (mc, .inl (cI, 4, .inl (upd cu 0 (nI (hvd ct ct + 1))))), (mn, .inl (cI, 4, .inl (upd nu 0 (nI ng))))] H := hP
      have hD : va_D A [(y, .inr (5, [.int th, .int (nI bi), .int (nI ne), .int (nI li), .int (nI sp), .int (nI q), .ref ms, .ref mw, .ref mu, .ref mc, .ref mn, .int en, .int (nI sz), .ref mr, .int (nI wa), .ref mq, .int la, .ref md, .int at0, .int lk])), (mu, .inl (cI, 4, .inl (upd su 0 (nI (sm + (N + 1 - 0) / 2))))), (mc, .inl (cI, 4, .inl (upd cu 0 (nI (hvd ct ct + 1))))), (mn, .inl (cI, 4, .inl (upd nu 0 (nI ng))))] := hD
      exact W.vret hx hb hr (fun t ht hW => ⟨rfl, by rw [ht]; exact (by rw [show hvd ct (sm + (N + 1 - 0) / 2) = sm + (N + 1 - 0) / 2 from if_neg h2, show hvd ct ng = ng from if_neg h2]; exact hP), (hAe ▸ hS).F ht⟩) (hAe ▸ hS).2.2 d_M_learn_111
    · skip
      have h2 : ct = 64 := (nI_eq (b := 64) (by omega) (by omega)).mp c_2
      refine lv_aload_n hx hb d_M_learn_59 rfl (lv_at hl 0 rfl) ?_
      refine va_get (D := D) (ci := 5) (v := .ref mu) (C := R_M) (T := T_M) (N := 20) hx hb hg in_M hown hK hP 0 rfl rfl 8 (by decide) (hg _ gw_532) (fun _ h9 => h9) rfl d_M_learn_60 ?_
      refine lv_iload_n hx hb d_M_learn_63 rfl (lv_at hl 1 rfl) ?_
      refine lv_aload_n hx hb d_M_learn_64 rfl (lv_at hl 0 rfl) ?_
      refine va_get (D := D) (ci := 5) (v := .ref mu) (C := R_M) (T := T_M) (N := 20) hx hb hg in_M hown hK hP 0 rfl rfl 8 (by decide) (hg _ gw_532) (fun _ h9 => h9) rfl d_M_learn_65 ?_
      refine lv_iload_n hx hb d_M_learn_68 rfl (lv_at hl 1 rfl) ?_
      refine va_iald hx hb hK hP 1 0 rfl rfl (vp_in_nI (n := 0) (by decide) (by decide)) d_M_learn_69 ?_
      refine tpi (y := nI (sm + (N + 1 - 0) / 2)) (pk_us) ?_
      refine lv_iconst (v := 2) hx hb d_M_learn_70 (by decide) ?_
      refine lv_idiv hx hb d_M_learn_71 (by decide) ?_
      refine tpi (y := nI ((sm + (N + 1 - 0) / 2) / 2)) (div2 (by omega)) ?_
      refine va_iast hx hb hK hP hD hS 1 0 rfl rfl (vp_in_nI (n := 0) (by decide) (by decide)) d_M_learn_72 (fun H locs hP hD hS => ?_)
      rw [show (0 : Int32).toNatClampNeg = 0 from rfl, updd] at hP hD
      have hP : va_P D CLS [(y, .inr (5, [.int th, .int (nI bi), .int (nI ne), .int (nI li), .int (nI sp), .int (nI q), .ref ms, .ref mw, .ref mu, .ref mc, .ref mn, .int en, .int (nI sz), .ref mr, .int (nI wa), .ref mq, .int la, .ref md, .int at0, .int lk])), (mu, .inl (cI, 4, .inl (upd su 0 (nI ((sm + (N + 1 - 0) / 2) / 2))))), (mc, .inl (cI, 4, .inl cu)), (mn, .inl (cI, 4, .inl (upd nu 0 (nI ng))))] H := hP
      have hD : va_D A [(y, .inr (5, [.int th, .int (nI bi), .int (nI ne), .int (nI li), .int (nI sp), .int (nI q), .ref ms, .ref mw, .ref mu, .ref mc, .ref mn, .int en, .int (nI sz), .ref mr, .int (nI wa), .ref mq, .int la, .ref md, .int at0, .int lk])), (mu, .inl (cI, 4, .inl (upd su 0 (nI ((sm + (N + 1 - 0) / 2) / 2))))), (mc, .inl (cI, 4, .inl cu)), (mn, .inl (cI, 4, .inl (upd nu 0 (nI ng))))] := hD
      refine lv_aload_n hx hb d_M_learn_73 rfl (lv_at hl 0 rfl) ?_
      refine va_get (D := D) (ci := 5) (v := .ref mc) (C := R_M) (T := T_M) (N := 20) hx hb hg in_M hown hK hP 0 rfl rfl 9 (by decide) (hg _ gw_533) (fun _ h9 => h9) rfl d_M_learn_74 ?_
      refine lv_iload_n hx hb d_M_learn_77 rfl (lv_at hl 1 rfl) ?_
      refine lv_aload_n hx hb d_M_learn_78 rfl (lv_at hl 0 rfl) ?_
      refine va_get (D := D) (ci := 5) (v := .ref mc) (C := R_M) (T := T_M) (N := 20) hx hb hg in_M hown hK hP 0 rfl rfl 9 (by decide) (hg _ gw_533) (fun _ h9 => h9) rfl d_M_learn_79 ?_
      refine lv_iload_n hx hb d_M_learn_82 rfl (lv_at hl 1 rfl) ?_
      refine va_iald hx hb hK hP 2 0 rfl rfl (vp_in_nI (n := 0) (by decide) (by decide)) d_M_learn_83 ?_
      refine tpi (y := nI ct) (hcu) ?_
      refine lv_iconst (v := 2) hx hb d_M_learn_84 (by decide) ?_
      refine lv_idiv hx hb d_M_learn_85 (by decide) ?_
      refine tpi (y := nI (ct / 2)) (div2 (by omega)) ?_
      refine va_iast hx hb hK hP hD hS 2 0 rfl rfl (vp_in_nI (n := 0) (by decide) (by decide)) d_M_learn_86 (fun H locs hP hD hS => ?_)
      rw [show (0 : Int32).toNatClampNeg = 0 from rfl] at hP hD
      have hP : va_P D CLS [(y, .inr (5, [.int th, .int (nI bi), .int (nI ne), .int (nI li), .int (nI sp), .int (nI q), .ref ms, .ref mw, .ref mu, .ref mc, .ref mn, .int en, .int (nI sz), .ref mr, .int (nI wa), .ref mq, .int la, .ref md, .int at0, .int lk])), (mu, .inl (cI, 4, .inl (upd su 0 (nI ((sm + (N + 1 - 0) / 2) / 2))))), (mc, .inl (cI, 4, .inl (upd cu 0 (nI (ct / 2))))), (mn, .inl (cI, 4, .inl (upd nu 0 (nI ng))))] H := hP
      have hD : va_D A [(y, .inr (5, [.int th, .int (nI bi), .int (nI ne), .int (nI li), .int (nI sp), .int (nI q), .ref ms, .ref mw, .ref mu, .ref mc, .ref mn, .int en, .int (nI sz), .ref mr, .int (nI wa), .ref mq, .int la, .ref md, .int at0, .int lk])), (mu, .inl (cI, 4, .inl (upd su 0 (nI ((sm + (N + 1 - 0) / 2) / 2))))), (mc, .inl (cI, 4, .inl (upd cu 0 (nI (ct / 2))))), (mn, .inl (cI, 4, .inl (upd nu 0 (nI ng))))] := hD
      refine lv_aload_n hx hb d_M_learn_87 rfl (lv_at hl 0 rfl) ?_
      refine va_get (D := D) (ci := 5) (v := .ref mn) (C := R_M) (T := T_M) (N := 20) hx hb hg in_M hown hK hP 0 rfl rfl 10 (by decide) (hg _ gw_534) (fun _ h9 => h9) rfl d_M_learn_88 ?_
      refine lv_iload_n hx hb d_M_learn_91 rfl (lv_at hl 1 rfl) ?_
      refine lv_aload_n hx hb d_M_learn_92 rfl (lv_at hl 0 rfl) ?_
      refine va_get (D := D) (ci := 5) (v := .ref mn) (C := R_M) (T := T_M) (N := 20) hx hb hg in_M hown hK hP 0 rfl rfl 10 (by decide) (hg _ gw_534) (fun _ h9 => h9) rfl d_M_learn_93 ?_
      refine lv_iload_n hx hb d_M_learn_96 rfl (lv_at hl 1 rfl) ?_
      refine va_iald hx hb hK hP 3 0 rfl rfl (vp_in_nI (n := 0) (by decide) (by decide)) d_M_learn_97 ?_
      refine tpi (y := nI ng) (pk_us) ?_
      refine lv_iconst (v := 2) hx hb d_M_learn_98 (by decide) ?_
      refine lv_idiv hx hb d_M_learn_99 (by decide) ?_
      refine tpi (y := nI (ng / 2)) (div2 (by omega)) ?_
      refine va_iast hx hb hK hP hD hS 3 0 rfl rfl (vp_in_nI (n := 0) (by decide) (by decide)) d_M_learn_100 (fun H locs hP hD hS => ?_)
      rw [show (0 : Int32).toNatClampNeg = 0 from rfl, updd] at hP hD
      have hP : va_P D CLS [(y, .inr (5, [.int th, .int (nI bi), .int (nI ne), .int (nI li), .int (nI sp), .int (nI q), .ref ms, .ref mw, .ref mu, .ref mc, .ref mn, .int en, .int (nI sz), .ref mr, .int (nI wa), .ref mq, .int la, .ref md, .int at0, .int lk])), (mu, .inl (cI, 4, .inl (upd su 0 (nI ((sm + (N + 1 - 0) / 2) / 2))))), (mc, .inl (cI, 4, .inl (upd cu 0 (nI (ct / 2))))), (mn, .inl (cI, 4, .inl (upd nu 0 (nI (ng / 2)))))] H := hP
      have hD : va_D A [(y, .inr (5, [.int th, .int (nI bi), .int (nI ne), .int (nI li), .int (nI sp), .int (nI q), .ref ms, .ref mw, .ref mu, .ref mc, .ref mn, .int en, .int (nI sz), .ref mr, .int (nI wa), .ref mq, .int la, .ref md, .int at0, .int lk])), (mu, .inl (cI, 4, .inl (upd su 0 (nI ((sm + (N + 1 - 0) / 2) / 2))))), (mc, .inl (cI, 4, .inl (upd cu 0 (nI (ct / 2))))), (mn, .inl (cI, 4, .inl (upd nu 0 (nI (ng / 2)))))] := hD
      refine lv_aload_n hx hb d_M_learn_101 rfl (lv_at hl 0 rfl) ?_
      refine va_get (D := D) (ci := 5) (v := .ref mc) (C := R_M) (T := T_M) (N := 20) hx hb hg in_M hown hK hP 0 rfl rfl 9 (by decide) (hg _ gw_533) (fun _ h9 => h9) rfl d_M_learn_102 ?_
      refine lv_iload_n hx hb d_M_learn_105 rfl (lv_at hl 1 rfl) ?_
      refine lv_dup2_11 hx hb d_M_learn_106 rfl rfl ?_
      refine va_iald hx hb hK hP 2 0 rfl rfl (vp_in_nI (n := 0) (by decide) (by decide)) d_M_learn_107 ?_
      refine tpi (y := nI (ct / 2)) (pk_us) ?_
      refine lv_iconst (v := 1) hx hb d_M_learn_108 (by decide) ?_
      refine lv_iadd hx hb d_M_learn_109 ?_
      refine tpi (y := nI (ct / 2 + 1)) (nI_1 _) ?_
      refine va_iast hx hb hK hP hD hS 2 0 rfl rfl (vp_in_nI (n := 0) (by decide) (by decide)) d_M_learn_110 (fun H locs hP hD hS => ?_)
      rw [show (0 : Int32).toNatClampNeg = 0 from rfl, updd] at hP hD
      have hP : va_P D CLS [(y, .inr (5, [.int th, .int (nI bi), .int (nI ne), .int (nI li), .int (nI sp), .int (nI q), .ref ms, .ref mw, .ref mu, .ref mc, .ref mn, .int en, .int (nI sz), .ref mr, .int (nI wa), .ref mq, .int la, .ref md, .int at0, .int lk])), (mu, .inl (cI, 4, .inl (upd su 0 (nI ((sm + (N + 1 - 0) / 2) / 2))))), (mc, .inl (cI, 4, .inl (upd cu 0 (nI (ct / 2 + 1))))), (mn, .inl (cI, 4, .inl (upd nu 0 (nI (ng / 2)))))] H := hP
      have hD : va_D A [(y, .inr (5, [.int th, .int (nI bi), .int (nI ne), .int (nI li), .int (nI sp), .int (nI q), .ref ms, .ref mw, .ref mu, .ref mc, .ref mn, .int en, .int (nI sz), .ref mr, .int (nI wa), .ref mq, .int la, .ref md, .int at0, .int lk])), (mu, .inl (cI, 4, .inl (upd su 0 (nI ((sm + (N + 1 - 0) / 2) / 2))))), (mc, .inl (cI, 4, .inl (upd cu 0 (nI (ct / 2 + 1))))), (mn, .inl (cI, 4, .inl (upd nu 0 (nI (ng / 2)))))] := hD
      exact W.vret hx hb hr (fun t ht hW => ⟨rfl, by rw [ht]; exact (by rw [show hvd ct (sm + (N + 1 - 0) / 2) = (sm + (N + 1 - 0) / 2) / 2 from if_pos h2, show hvd ct ct = ct / 2 from if_pos h2, show hvd ct ng = ng / 2 from if_pos h2]; exact hP), (hAe ▸ hS).F ht⟩) (hAe ▸ hS).2.2 d_M_learn_111
  · skip
    exact absurd (nI_pos' (by omega)) c_1
set_option maxHeartbeats 4000000 in
set_option maxRecDepth 100000 in
theorem c_M_learn0N (l : Launch) (D : va_G) (y ms mw mu mc mn mr mq md bi ne li sp q sz wa : Nat) (th en la at0 lk : Int32) (cI : ClassId) (su cu nu : Nat → Int32) (sm ct ng n N : Nat) (hsu : su 0 = nI sm) (hcu : cu 0 = nI ct) (hnu : nu 0 = nI ng) (hc0 : ct ≤ 64) (hn0 : ng ≤ 64) (hs0 : sm < 2 ^ 29) (hN : N < 2 ^ 29) (hn : n < 2 ^ 30) (hn1 : 0 < n) : Met l y_M_learn (WSY y_M_learn b_M_learn 5 none) ({ frames := 0, cells := 0, slots := 0, locals := 0 }) (va_Pc [.ref y, .int 0, .int 0, .int (nI N), .int (-nI n)] (fun U => va_P D CLS [(y, .inr (5, [.int th, .int (nI bi), .int (nI ne), .int (nI li), .int (nI sp), .int (nI q), .ref ms, .ref mw, .ref mu, .ref mc, .ref mn, .int en, .int (nI sz), .ref mr, .int (nI wa), .ref mq, .int la, .ref md, .int at0, .int lk])), (mu, .inl (cI, 4, .inl su)), (mc, .inl (cI, 4, .inl cu)), (mn, .inl (cI, 4, .inl nu))] U.heap ∧ va_K D CLS [(cI, .int)] U ∧ va_D (fun _ => True) [(y, .inr (5, [.int th, .int (nI bi), .int (nI ne), .int (nI li), .int (nI sp), .int (nI q), .ref ms, .ref mw, .ref mu, .ref mc, .ref mn, .int en, .int (nI sz), .ref mr, .int (nI wa), .ref mq, .int la, .ref md, .int at0, .int lk])), (mu, .inl (cI, 4, .inl su)), (mc, .inl (cI, 4, .inl cu)), (mn, .inl (cI, 4, .inl nu))])) (QM none [(y, .inr (5, [.int th, .int (nI bi), .int (nI ne), .int (nI li), .int (nI sp), .int (nI q), .ref ms, .ref mw, .ref mu, .ref mc, .ref mn, .int en, .int (nI sz), .ref mr, .int (nI wa), .ref mq, .int la, .ref md, .int at0, .int lk])), (mu, .inl (cI, 4, .inl su)), (mc, .inl (cI, 4, .inl cu)), (mn, .inl (cI, 4, .inl nu))] [(y, .inr (5, [.int th, .int (nI bi), .int (nI ne), .int (nI li), .int (nI sp), .int (nI q), .ref ms, .ref mw, .ref mu, .ref mc, .ref mn, .int en, .int (nI sz), .ref mr, .int (nI wa), .ref mq, .int la, .ref md, .int at0, .int lk])), (mu, .inl (cI, 4, .inl (upd su 0 (nI (hvd ct (sm + (N + 1 - 0) / 2)))))), (mc, .inl (cI, 4, .inl (upd cu 0 (nI (hvd ct ct + 1))))), (mn, .inl (cI, 4, .inl (upd nu 0 (nI (hvd ct (ng + 1))))))] D) 0 0 (ad [(y, .inr (5, [.int th, .int (nI bi), .int (nI ne), .int (nI li), .int (nI sp), .int (nI q), .ref ms, .ref mw, .ref mu, .ref mc, .ref mn, .int en, .int (nI sz), .ref mr, .int (nI wa), .ref mq, .int la, .ref md, .int at0, .int lk])), (mu, .inl (cI, 4, .inl su)), (mc, .inl (cI, 4, .inl cu)), (mn, .inl (cI, 4, .inl nu))]) := by
  refine Met.ofW (cc := b_M_learn) (maxL := 5) (ret := none) (by decide) rfl ?_
  intro p e s m args below meth c s₁ B hml hv
  obtain ⟨rfl, hP, hK, hD0⟩ := hv
  have hx := B.exec
  have hb := B.bytes
  have hr := B.returns
  have hts := atoms_spec (ws := WSY y_M_learn b_M_learn 5 none) B.pre
  have hg : ∀ w ∈ GW, w.before _ s = true := fun w h => hts w (List.mem_cons_of_mem _ h)
  have hown : s.vm.findClass "LineGolombModel" = some m.cls := findClass_of_methodNamed B.named
  have hlocks := B.notSynchronized
  obtain ⟨A, hAe⟩ : ∃ A, A = ad [(y, .inr (5, [.int th, .int (nI bi), .int (nI ne), .int (nI li), .int (nI sp), .int (nI q), .ref ms, .ref mw, .ref mu, .ref mc, .ref mn, .int en, .int (nI sz), .ref mr, .int (nI wa), .ref mq, .int la, .ref md, .int at0, .int lk])), (mu, .inl (cI, 4, .inl su)), (mc, .inl (cI, 4, .inl cu)), (mn, .inl (cI, 4, .inl nu))] := ⟨_, rfl⟩
  have hD : va_D A [(y, .inr (5, [.int th, .int (nI bi), .int (nI ne), .int (nI li), .int (nI sp), .int (nI q), .ref ms, .ref mw, .ref mu, .ref mc, .ref mn, .int en, .int (nI sz), .ref mr, .int (nI wa), .ref mq, .int la, .ref md, .int at0, .int lk])), (mu, .inl (cI, 4, .inl su)), (mc, .inl (cI, 4, .inl cu)), (mn, .inl (cI, 4, .inl nu))] := by rw [hAe]; exact va_D_ad hD0
  have hS : va_S A s.heap s.heap [] := va_S.rf
  have hl := lv_entry ([.ref y, .int 0, .int 0, .int (nI N), .int (-nI n)]) (n := 5) (Nat.le_of_ble_eq_true rfl)
  rw [lg_entry_eq]
  generalize (lg_sl ([.ref y, .int 0, .int 0, .int (nI N), .int (-nI n)]) ++ List.replicate (5 - (lg_sl ([.ref y, .int 0, .int 0, .int (nI N), .int (-nI n)])).length) Slot.unset).toArray = ls at hl ⊢
  have hl : lv_has ls 5 [(0, .ref y), (1, .int 0), (2, .int 0), (3, .int (nI N)), (4, .int (-nI n))] := hl
  refine lv_aload_n hx hb d_M_learn_0 rfl (lv_at hl 0 rfl) ?_
  refine va_get (D := D) (ci := 5) (v := .ref mn) (C := R_M) (T := T_M) (N := 20) hx hb hg in_M hown hK hP 0 rfl rfl 10 (by decide) (hg _ gw_534) (fun _ h9 => h9) rfl d_M_learn_1 ?_
  refine lv_iload_n hx hb d_M_learn_4 rfl (lv_at hl 1 rfl) ?_
  refine lv_iload hx hb d_M_learn_5 (lv_at hl 4 rfl) ?_
  refine lv_if_ge (tgt := 21) hx hb d_M_learn_7 (by decide) (fun c_1 => ?_) (fun c_1 => ?_)
  · skip
    exact absurd c_1 (by rw [leT, ngT (by omega), zT]; omega)
  · skip
    refine lv_aload_n hx hb d_M_learn_10 rfl (lv_at hl 0 rfl) ?_
    refine va_get (D := D) (ci := 5) (v := .ref mn) (C := R_M) (T := T_M) (N := 20) hx hb hg in_M hown hK hP 0 rfl rfl 10 (by decide) (hg _ gw_534) (fun _ h9 => h9) rfl d_M_learn_11 ?_
    refine lv_iload_n hx hb d_M_learn_14 rfl (lv_at hl 1 rfl) ?_
    refine va_iald hx hb hK hP 3 0 rfl rfl (vp_in_nI (n := 0) (by decide) (by decide)) d_M_learn_15 ?_
    refine tpi (y := nI ng) (hnu) ?_
    refine lv_iconst (v := 1) hx hb d_M_learn_16 (by decide) ?_
    refine lv_iadd hx hb d_M_learn_17 ?_
    refine tpi (y := nI (ng + 1)) (nI_1 ng) ?_
    refine lv_goto (tgt := 27) hx hb d_M_learn_18 (by decide) ?_
    refine va_iast hx hb hK hP hD hS 3 0 rfl rfl (vp_in_nI (n := 0) (by decide) (by decide)) d_M_learn_27 (fun H locs hP hD hS => ?_)
    rw [show (0 : Int32).toNatClampNeg = 0 from rfl] at hP hD
    have hP : va_P D CLS [(y, .inr (5, [.int th, .int (nI bi), .int (nI ne), .int (nI li), .int (nI sp), .int (nI q), .ref ms, .ref mw, .ref mu, .ref mc, .ref mn, .int en, .int (nI sz), .ref mr, .int (nI wa), .ref mq, .int la, .ref md, .int at0, .int lk])), (mu, .inl (cI, 4, .inl su)), (mc, .inl (cI, 4, .inl cu)), (mn, .inl (cI, 4, .inl (upd nu 0 (nI (ng + 1)))))] H := hP
    have hD : va_D A [(y, .inr (5, [.int th, .int (nI bi), .int (nI ne), .int (nI li), .int (nI sp), .int (nI q), .ref ms, .ref mw, .ref mu, .ref mc, .ref mn, .int en, .int (nI sz), .ref mr, .int (nI wa), .ref mq, .int la, .ref md, .int at0, .int lk])), (mu, .inl (cI, 4, .inl su)), (mc, .inl (cI, 4, .inl cu)), (mn, .inl (cI, 4, .inl (upd nu 0 (nI (ng + 1)))))] := hD
    refine lv_aload_n hx hb d_M_learn_28 rfl (lv_at hl 0 rfl) ?_
    refine va_get (D := D) (ci := 5) (v := .ref mu) (C := R_M) (T := T_M) (N := 20) hx hb hg in_M hown hK hP 0 rfl rfl 8 (by decide) (hg _ gw_532) (fun _ h9 => h9) rfl d_M_learn_29 ?_
    refine lv_iload_n hx hb d_M_learn_32 rfl (lv_at hl 1 rfl) ?_
    refine lv_aload_n hx hb d_M_learn_33 rfl (lv_at hl 0 rfl) ?_
    refine va_get (D := D) (ci := 5) (v := .ref mu) (C := R_M) (T := T_M) (N := 20) hx hb hg in_M hown hK hP 0 rfl rfl 8 (by decide) (hg _ gw_532) (fun _ h9 => h9) rfl d_M_learn_34 ?_
    refine lv_iload_n hx hb d_M_learn_37 rfl (lv_at hl 1 rfl) ?_
    refine va_iald hx hb hK hP 1 0 rfl rfl (vp_in_nI (n := 0) (by decide) (by decide)) d_M_learn_38 ?_
    refine tpi (y := nI sm) (hsu) ?_
    refine lv_iload_n hx hb d_M_learn_39 rfl (lv_at hl 3 rfl) ?_
    refine lv_iconst (v := 1) hx hb d_M_learn_40 (by decide) ?_
    refine lv_iadd hx hb d_M_learn_41 ?_
    refine tpi (y := nI (N + 1)) (nI_1 N) ?_
    refine lv_iload_n hx hb d_M_learn_42 rfl (lv_at hl 2 rfl) ?_
    refine lv_isub hx hb d_M_learn_43 ?_
    refine tpi (y := nI (N + 1 - 0)) (pk_sub (b := 0) (by omega)) ?_
    refine lv_iconst (v := 2) hx hb d_M_learn_44 (by decide) ?_
    refine lv_idiv hx hb d_M_learn_45 (by decide) ?_
    refine tpi (y := nI ((N + 1 - 0) / 2)) (div2 (by omega)) ?_
    refine lv_iadd hx hb d_M_learn_46 ?_
    refine tpi (y := nI (sm + (N + 1 - 0) / 2)) (nI_add _ _) ?_
    refine va_iast hx hb hK hP hD hS 1 0 rfl rfl (vp_in_nI (n := 0) (by decide) (by decide)) d_M_learn_47 (fun H locs hP hD hS => ?_)
    rw [show (0 : Int32).toNatClampNeg = 0 from rfl] at hP hD
    have hP : va_P D CLS [(y, .inr (5, [.int th, .int (nI bi), .int (nI ne), .int (nI li), .int (nI sp), .int (nI q), .ref ms, .ref mw, .ref mu, .ref mc, .ref mn, .int en, .int (nI sz), .ref mr, .int (nI wa), .ref mq, .int la, .ref md, .int at0, .int lk])), (mu, .inl (cI, 4, .inl (upd su 0 (nI (sm + (N + 1 - 0) / 2))))), (mc, .inl (cI, 4, .inl cu)), (mn, .inl (cI, 4, .inl (upd nu 0 (nI (ng + 1)))))] H := hP
    have hD : va_D A [(y, .inr (5, [.int th, .int (nI bi), .int (nI ne), .int (nI li), .int (nI sp), .int (nI q), .ref ms, .ref mw, .ref mu, .ref mc, .ref mn, .int en, .int (nI sz), .ref mr, .int (nI wa), .ref mq, .int la, .ref md, .int at0, .int lk])), (mu, .inl (cI, 4, .inl (upd su 0 (nI (sm + (N + 1 - 0) / 2))))), (mc, .inl (cI, 4, .inl cu)), (mn, .inl (cI, 4, .inl (upd nu 0 (nI (ng + 1)))))] := hD
    refine lv_aload_n hx hb d_M_learn_48 rfl (lv_at hl 0 rfl) ?_
    refine va_get (D := D) (ci := 5) (v := .ref mc) (C := R_M) (T := T_M) (N := 20) hx hb hg in_M hown hK hP 0 rfl rfl 9 (by decide) (hg _ gw_533) (fun _ h9 => h9) rfl d_M_learn_49 ?_
    refine lv_iload_n hx hb d_M_learn_52 rfl (lv_at hl 1 rfl) ?_
    refine va_iald hx hb hK hP 2 0 rfl rfl (vp_in_nI (n := 0) (by decide) (by decide)) d_M_learn_53 ?_
    refine tpi (y := nI ct) (hcu) ?_
    refine lv_bipush (v := 64) hx hb d_M_learn_54 (by decide) ?_
    refine lv_icmp_ne (tgt := 101) hx hb d_M_learn_56 (by decide) (fun c_2 => ?_) (fun c_2 => ?_)
    · skip
      have h2 : ¬ ct = 64 := fun z => c_2 (by rw [z]; rfl)
      refine lv_aload_n hx hb d_M_learn_101 rfl (lv_at hl 0 rfl) ?_
      refine va_get (D := D) (ci := 5) (v := .ref mc) (C := R_M) (T := T_M) (N := 20) hx hb hg in_M hown hK hP 0 rfl rfl 9 (by decide) (hg _ gw_533) (fun _ h9 => h9) rfl d_M_learn_102 ?_
      refine lv_iload_n hx hb d_M_learn_105 rfl (lv_at hl 1 rfl) ?_
      refine lv_dup2_11 hx hb d_M_learn_106 rfl rfl ?_
      refine va_iald hx hb hK hP 2 0 rfl rfl (vp_in_nI (n := 0) (by decide) (by decide)) d_M_learn_107 ?_
      refine tpi (y := nI ct) (hcu) ?_
      refine lv_iconst (v := 1) hx hb d_M_learn_108 (by decide) ?_
      refine lv_iadd hx hb d_M_learn_109 ?_
      refine tpi (y := nI (hvd ct ct + 1)) (by rw [show hvd ct ct = ct from if_neg h2]; exact nI_1 ct) ?_
      refine va_iast hx hb hK hP hD hS 2 0 rfl rfl (vp_in_nI (n := 0) (by decide) (by decide)) d_M_learn_110 (fun H locs hP hD hS => ?_)
      rw [show (0 : Int32).toNatClampNeg = 0 from rfl] at hP hD
      have hP : va_P D CLS [(y, .inr (5, [.int th, .int (nI bi), .int (nI ne), .int (nI li), .int (nI sp), .int (nI q), .ref ms, .ref mw, .ref mu, .ref mc, .ref mn, .int en, .int (nI sz), .ref mr, .int (nI wa), .ref mq, .int la, .ref md, .int at0, .int lk])), (mu, .inl (cI, 4, .inl (upd su 0 (nI (sm + (N + 1 - 0) / 2))))), (mc, .inl (cI, 4, .inl (upd cu 0 (nI (hvd ct ct + 1))))), (mn, .inl (cI, 4, .inl (upd nu 0 (nI (ng + 1)))))] H := hP
      have hD : va_D A [(y, .inr (5, [.int th, .int (nI bi), .int (nI ne), .int (nI li), .int (nI sp), .int (nI q), .ref ms, .ref mw, .ref mu, .ref mc, .ref mn, .int en, .int (nI sz), .ref mr, .int (nI wa), .ref mq, .int la, .ref md, .int at0, .int lk])), (mu, .inl (cI, 4, .inl (upd su 0 (nI (sm + (N + 1 - 0) / 2))))), (mc, .inl (cI, 4, .inl (upd cu 0 (nI (hvd ct ct + 1))))), (mn, .inl (cI, 4, .inl (upd nu 0 (nI (ng + 1)))))] := hD
      exact W.vret hx hb hr (fun t ht hW => ⟨rfl, by rw [ht]; exact (by rw [show hvd ct (sm + (N + 1 - 0) / 2) = sm + (N + 1 - 0) / 2 from if_neg h2, show hvd ct (ng + 1) = (ng + 1) from if_neg h2]; exact hP), (hAe ▸ hS).F ht⟩) (hAe ▸ hS).2.2 d_M_learn_111
    · skip
      have h2 : ct = 64 := (nI_eq (b := 64) (by omega) (by omega)).mp c_2
      refine lv_aload_n hx hb d_M_learn_59 rfl (lv_at hl 0 rfl) ?_
      refine va_get (D := D) (ci := 5) (v := .ref mu) (C := R_M) (T := T_M) (N := 20) hx hb hg in_M hown hK hP 0 rfl rfl 8 (by decide) (hg _ gw_532) (fun _ h9 => h9) rfl d_M_learn_60 ?_
      refine lv_iload_n hx hb d_M_learn_63 rfl (lv_at hl 1 rfl) ?_
      refine lv_aload_n hx hb d_M_learn_64 rfl (lv_at hl 0 rfl) ?_
      refine va_get (D := D) (ci := 5) (v := .ref mu) (C := R_M) (T := T_M) (N := 20) hx hb hg in_M hown hK hP 0 rfl rfl 8 (by decide) (hg _ gw_532) (fun _ h9 => h9) rfl d_M_learn_65 ?_
      refine lv_iload_n hx hb d_M_learn_68 rfl (lv_at hl 1 rfl) ?_
      refine va_iald hx hb hK hP 1 0 rfl rfl (vp_in_nI (n := 0) (by decide) (by decide)) d_M_learn_69 ?_
      refine tpi (y := nI (sm + (N + 1 - 0) / 2)) (pk_us) ?_
      refine lv_iconst (v := 2) hx hb d_M_learn_70 (by decide) ?_
      refine lv_idiv hx hb d_M_learn_71 (by decide) ?_
      refine tpi (y := nI ((sm + (N + 1 - 0) / 2) / 2)) (div2 (by omega)) ?_
      refine va_iast hx hb hK hP hD hS 1 0 rfl rfl (vp_in_nI (n := 0) (by decide) (by decide)) d_M_learn_72 (fun H locs hP hD hS => ?_)
      rw [show (0 : Int32).toNatClampNeg = 0 from rfl, updd] at hP hD
      have hP : va_P D CLS [(y, .inr (5, [.int th, .int (nI bi), .int (nI ne), .int (nI li), .int (nI sp), .int (nI q), .ref ms, .ref mw, .ref mu, .ref mc, .ref mn, .int en, .int (nI sz), .ref mr, .int (nI wa), .ref mq, .int la, .ref md, .int at0, .int lk])), (mu, .inl (cI, 4, .inl (upd su 0 (nI ((sm + (N + 1 - 0) / 2) / 2))))), (mc, .inl (cI, 4, .inl cu)), (mn, .inl (cI, 4, .inl (upd nu 0 (nI (ng + 1)))))] H := hP
      have hD : va_D A [(y, .inr (5, [.int th, .int (nI bi), .int (nI ne), .int (nI li), .int (nI sp), .int (nI q), .ref ms, .ref mw, .ref mu, .ref mc, .ref mn, .int en, .int (nI sz), .ref mr, .int (nI wa), .ref mq, .int la, .ref md, .int at0, .int lk])), (mu, .inl (cI, 4, .inl (upd su 0 (nI ((sm + (N + 1 - 0) / 2) / 2))))), (mc, .inl (cI, 4, .inl cu)), (mn, .inl (cI, 4, .inl (upd nu 0 (nI (ng + 1)))))] := hD
      refine lv_aload_n hx hb d_M_learn_73 rfl (lv_at hl 0 rfl) ?_
      refine va_get (D := D) (ci := 5) (v := .ref mc) (C := R_M) (T := T_M) (N := 20) hx hb hg in_M hown hK hP 0 rfl rfl 9 (by decide) (hg _ gw_533) (fun _ h9 => h9) rfl d_M_learn_74 ?_
      refine lv_iload_n hx hb d_M_learn_77 rfl (lv_at hl 1 rfl) ?_
      refine lv_aload_n hx hb d_M_learn_78 rfl (lv_at hl 0 rfl) ?_
      refine va_get (D := D) (ci := 5) (v := .ref mc) (C := R_M) (T := T_M) (N := 20) hx hb hg in_M hown hK hP 0 rfl rfl 9 (by decide) (hg _ gw_533) (fun _ h9 => h9) rfl d_M_learn_79 ?_
      refine lv_iload_n hx hb d_M_learn_82 rfl (lv_at hl 1 rfl) ?_
      refine va_iald hx hb hK hP 2 0 rfl rfl (vp_in_nI (n := 0) (by decide) (by decide)) d_M_learn_83 ?_
      refine tpi (y := nI ct) (hcu) ?_
      refine lv_iconst (v := 2) hx hb d_M_learn_84 (by decide) ?_
      refine lv_idiv hx hb d_M_learn_85 (by decide) ?_
      refine tpi (y := nI (ct / 2)) (div2 (by omega)) ?_
      refine va_iast hx hb hK hP hD hS 2 0 rfl rfl (vp_in_nI (n := 0) (by decide) (by decide)) d_M_learn_86 (fun H locs hP hD hS => ?_)
      rw [show (0 : Int32).toNatClampNeg = 0 from rfl] at hP hD
      have hP : va_P D CLS [(y, .inr (5, [.int th, .int (nI bi), .int (nI ne), .int (nI li), .int (nI sp), .int (nI q), .ref ms, .ref mw, .ref mu, .ref mc, .ref mn, .int en, .int (nI sz), .ref mr, .int (nI wa), .ref mq, .int la, .ref md, .int at0, .int lk])), (mu, .inl (cI, 4, .inl (upd su 0 (nI ((sm + (N + 1 - 0) / 2) / 2))))), (mc, .inl (cI, 4, .inl (upd cu 0 (nI (ct / 2))))), (mn, .inl (cI, 4, .inl (upd nu 0 (nI (ng + 1)))))] H := hP
      have hD : va_D A [(y, .inr (5, [.int th, .int (nI bi), .int (nI ne), .int (nI li), .int (nI sp), .int (nI q), .ref ms, .ref mw, .ref mu, .ref mc, .ref mn, .int en, .int (nI sz), .ref mr, .int (nI wa), .ref mq, .int la, .ref md, .int at0, .int lk])), (mu, .inl (cI, 4, .inl (upd su 0 (nI ((sm + (N + 1 - 0) / 2) / 2))))), (mc, .inl (cI, 4, .inl (upd cu 0 (nI (ct / 2))))), (mn, .inl (cI, 4, .inl (upd nu 0 (nI (ng + 1)))))] := hD
      refine lv_aload_n hx hb d_M_learn_87 rfl (lv_at hl 0 rfl) ?_
      refine va_get (D := D) (ci := 5) (v := .ref mn) (C := R_M) (T := T_M) (N := 20) hx hb hg in_M hown hK hP 0 rfl rfl 10 (by decide) (hg _ gw_534) (fun _ h9 => h9) rfl d_M_learn_88 ?_
      refine lv_iload_n hx hb d_M_learn_91 rfl (lv_at hl 1 rfl) ?_
      refine lv_aload_n hx hb d_M_learn_92 rfl (lv_at hl 0 rfl) ?_
      refine va_get (D := D) (ci := 5) (v := .ref mn) (C := R_M) (T := T_M) (N := 20) hx hb hg in_M hown hK hP 0 rfl rfl 10 (by decide) (hg _ gw_534) (fun _ h9 => h9) rfl d_M_learn_93 ?_
      refine lv_iload_n hx hb d_M_learn_96 rfl (lv_at hl 1 rfl) ?_
      refine va_iald hx hb hK hP 3 0 rfl rfl (vp_in_nI (n := 0) (by decide) (by decide)) d_M_learn_97 ?_
      refine tpi (y := nI (ng + 1)) (pk_us) ?_
      refine lv_iconst (v := 2) hx hb d_M_learn_98 (by decide) ?_
      refine lv_idiv hx hb d_M_learn_99 (by decide) ?_
      refine tpi (y := nI ((ng + 1) / 2)) (div2 (by omega)) ?_
      refine va_iast hx hb hK hP hD hS 3 0 rfl rfl (vp_in_nI (n := 0) (by decide) (by decide)) d_M_learn_100 (fun H locs hP hD hS => ?_)
      rw [show (0 : Int32).toNatClampNeg = 0 from rfl, updd] at hP hD
      have hP : va_P D CLS [(y, .inr (5, [.int th, .int (nI bi), .int (nI ne), .int (nI li), .int (nI sp), .int (nI q), .ref ms, .ref mw, .ref mu, .ref mc, .ref mn, .int en, .int (nI sz), .ref mr, .int (nI wa), .ref mq, .int la, .ref md, .int at0, .int lk])), (mu, .inl (cI, 4, .inl (upd su 0 (nI ((sm + (N + 1 - 0) / 2) / 2))))), (mc, .inl (cI, 4, .inl (upd cu 0 (nI (ct / 2))))), (mn, .inl (cI, 4, .inl (upd nu 0 (nI ((ng + 1) / 2)))))] H := hP
      have hD : va_D A [(y, .inr (5, [.int th, .int (nI bi), .int (nI ne), .int (nI li), .int (nI sp), .int (nI q), .ref ms, .ref mw, .ref mu, .ref mc, .ref mn, .int en, .int (nI sz), .ref mr, .int (nI wa), .ref mq, .int la, .ref md, .int at0, .int lk])), (mu, .inl (cI, 4, .inl (upd su 0 (nI ((sm + (N + 1 - 0) / 2) / 2))))), (mc, .inl (cI, 4, .inl (upd cu 0 (nI (ct / 2))))), (mn, .inl (cI, 4, .inl (upd nu 0 (nI ((ng + 1) / 2)))))] := hD
      refine lv_aload_n hx hb d_M_learn_101 rfl (lv_at hl 0 rfl) ?_
      refine va_get (D := D) (ci := 5) (v := .ref mc) (C := R_M) (T := T_M) (N := 20) hx hb hg in_M hown hK hP 0 rfl rfl 9 (by decide) (hg _ gw_533) (fun _ h9 => h9) rfl d_M_learn_102 ?_
      refine lv_iload_n hx hb d_M_learn_105 rfl (lv_at hl 1 rfl) ?_
      refine lv_dup2_11 hx hb d_M_learn_106 rfl rfl ?_
      refine va_iald hx hb hK hP 2 0 rfl rfl (vp_in_nI (n := 0) (by decide) (by decide)) d_M_learn_107 ?_
      refine tpi (y := nI (ct / 2)) (pk_us) ?_
      refine lv_iconst (v := 1) hx hb d_M_learn_108 (by decide) ?_
      refine lv_iadd hx hb d_M_learn_109 ?_
      refine tpi (y := nI (ct / 2 + 1)) (nI_1 _) ?_
      refine va_iast hx hb hK hP hD hS 2 0 rfl rfl (vp_in_nI (n := 0) (by decide) (by decide)) d_M_learn_110 (fun H locs hP hD hS => ?_)
      rw [show (0 : Int32).toNatClampNeg = 0 from rfl, updd] at hP hD
      have hP : va_P D CLS [(y, .inr (5, [.int th, .int (nI bi), .int (nI ne), .int (nI li), .int (nI sp), .int (nI q), .ref ms, .ref mw, .ref mu, .ref mc, .ref mn, .int en, .int (nI sz), .ref mr, .int (nI wa), .ref mq, .int la, .ref md, .int at0, .int lk])), (mu, .inl (cI, 4, .inl (upd su 0 (nI ((sm + (N + 1 - 0) / 2) / 2))))), (mc, .inl (cI, 4, .inl (upd cu 0 (nI (ct / 2 + 1))))), (mn, .inl (cI, 4, .inl (upd nu 0 (nI ((ng + 1) / 2)))))] H := hP
      have hD : va_D A [(y, .inr (5, [.int th, .int (nI bi), .int (nI ne), .int (nI li), .int (nI sp), .int (nI q), .ref ms, .ref mw, .ref mu, .ref mc, .ref mn, .int en, .int (nI sz), .ref mr, .int (nI wa), .ref mq, .int la, .ref md, .int at0, .int lk])), (mu, .inl (cI, 4, .inl (upd su 0 (nI ((sm + (N + 1 - 0) / 2) / 2))))), (mc, .inl (cI, 4, .inl (upd cu 0 (nI (ct / 2 + 1))))), (mn, .inl (cI, 4, .inl (upd nu 0 (nI ((ng + 1) / 2)))))] := hD
      exact W.vret hx hb hr (fun t ht hW => ⟨rfl, by rw [ht]; exact (by rw [show hvd ct (sm + (N + 1 - 0) / 2) = (sm + (N + 1 - 0) / 2) / 2 from if_pos h2, show hvd ct ct = ct / 2 from if_pos h2, show hvd ct (ng + 1) = (ng + 1) / 2 from if_pos h2]; exact hP), (hAe ▸ hS).F ht⟩) (hAe ▸ hS).2.2 d_M_learn_111
set_option maxHeartbeats 4000000 in
set_option maxRecDepth 100000 in
theorem c_M_learn1P (l : Launch) (D : va_G) (y ms mw mu mc mn mr mq md bi ne li sp q sz wa : Nat) (th en la at0 lk : Int32) (cI : ClassId) (su cu nu : Nat → Int32) (sm ct ng n N : Nat) (hsu : su 1 = nI sm) (hcu : cu 1 = nI ct) (hnu : nu 1 = nI ng) (hc0 : ct ≤ 64) (hn0 : ng ≤ 64) (hs0 : sm < 2 ^ 29) (hN : N < 2 ^ 29) (hn : n < 2 ^ 30) : Met l y_M_learn (WSY y_M_learn b_M_learn 5 none) ({ frames := 0, cells := 0, slots := 0, locals := 0 }) (va_Pc [.ref y, .int 1, .int 1, .int (nI N), .int (nI n)] (fun U => va_P D CLS [(y, .inr (5, [.int th, .int (nI bi), .int (nI ne), .int (nI li), .int (nI sp), .int (nI q), .ref ms, .ref mw, .ref mu, .ref mc, .ref mn, .int en, .int (nI sz), .ref mr, .int (nI wa), .ref mq, .int la, .ref md, .int at0, .int lk])), (mu, .inl (cI, 4, .inl su)), (mc, .inl (cI, 4, .inl cu)), (mn, .inl (cI, 4, .inl nu))] U.heap ∧ va_K D CLS [(cI, .int)] U ∧ va_D (fun _ => True) [(y, .inr (5, [.int th, .int (nI bi), .int (nI ne), .int (nI li), .int (nI sp), .int (nI q), .ref ms, .ref mw, .ref mu, .ref mc, .ref mn, .int en, .int (nI sz), .ref mr, .int (nI wa), .ref mq, .int la, .ref md, .int at0, .int lk])), (mu, .inl (cI, 4, .inl su)), (mc, .inl (cI, 4, .inl cu)), (mn, .inl (cI, 4, .inl nu))])) (QM none [(y, .inr (5, [.int th, .int (nI bi), .int (nI ne), .int (nI li), .int (nI sp), .int (nI q), .ref ms, .ref mw, .ref mu, .ref mc, .ref mn, .int en, .int (nI sz), .ref mr, .int (nI wa), .ref mq, .int la, .ref md, .int at0, .int lk])), (mu, .inl (cI, 4, .inl su)), (mc, .inl (cI, 4, .inl cu)), (mn, .inl (cI, 4, .inl nu))] [(y, .inr (5, [.int th, .int (nI bi), .int (nI ne), .int (nI li), .int (nI sp), .int (nI q), .ref ms, .ref mw, .ref mu, .ref mc, .ref mn, .int en, .int (nI sz), .ref mr, .int (nI wa), .ref mq, .int la, .ref md, .int at0, .int lk])), (mu, .inl (cI, 4, .inl (upd su 1 (nI (hvd ct (sm + (N + 1 - 1) / 2)))))), (mc, .inl (cI, 4, .inl (upd cu 1 (nI (hvd ct ct + 1))))), (mn, .inl (cI, 4, .inl (upd nu 1 (nI (hvd ct ng)))))] D) 0 0 (ad [(y, .inr (5, [.int th, .int (nI bi), .int (nI ne), .int (nI li), .int (nI sp), .int (nI q), .ref ms, .ref mw, .ref mu, .ref mc, .ref mn, .int en, .int (nI sz), .ref mr, .int (nI wa), .ref mq, .int la, .ref md, .int at0, .int lk])), (mu, .inl (cI, 4, .inl su)), (mc, .inl (cI, 4, .inl cu)), (mn, .inl (cI, 4, .inl nu))]) := by
  refine Met.ofW (cc := b_M_learn) (maxL := 5) (ret := none) (by decide) rfl ?_
  intro p e s m args below meth c s₁ B hml hv
  obtain ⟨rfl, hP, hK, hD0⟩ := hv
  have hx := B.exec
  have hb := B.bytes
  have hr := B.returns
  have hts := atoms_spec (ws := WSY y_M_learn b_M_learn 5 none) B.pre
  have hg : ∀ w ∈ GW, w.before _ s = true := fun w h => hts w (List.mem_cons_of_mem _ h)
  have hown : s.vm.findClass "LineGolombModel" = some m.cls := findClass_of_methodNamed B.named
  have hlocks := B.notSynchronized
  obtain ⟨A, hAe⟩ : ∃ A, A = ad [(y, .inr (5, [.int th, .int (nI bi), .int (nI ne), .int (nI li), .int (nI sp), .int (nI q), .ref ms, .ref mw, .ref mu, .ref mc, .ref mn, .int en, .int (nI sz), .ref mr, .int (nI wa), .ref mq, .int la, .ref md, .int at0, .int lk])), (mu, .inl (cI, 4, .inl su)), (mc, .inl (cI, 4, .inl cu)), (mn, .inl (cI, 4, .inl nu))] := ⟨_, rfl⟩
  have hD : va_D A [(y, .inr (5, [.int th, .int (nI bi), .int (nI ne), .int (nI li), .int (nI sp), .int (nI q), .ref ms, .ref mw, .ref mu, .ref mc, .ref mn, .int en, .int (nI sz), .ref mr, .int (nI wa), .ref mq, .int la, .ref md, .int at0, .int lk])), (mu, .inl (cI, 4, .inl su)), (mc, .inl (cI, 4, .inl cu)), (mn, .inl (cI, 4, .inl nu))] := by rw [hAe]; exact va_D_ad hD0
  have hS : va_S A s.heap s.heap [] := va_S.rf
  have hl := lv_entry ([.ref y, .int 1, .int 1, .int (nI N), .int (nI n)]) (n := 5) (Nat.le_of_ble_eq_true rfl)
  rw [lg_entry_eq]
  generalize (lg_sl ([.ref y, .int 1, .int 1, .int (nI N), .int (nI n)]) ++ List.replicate (5 - (lg_sl ([.ref y, .int 1, .int 1, .int (nI N), .int (nI n)])).length) Slot.unset).toArray = ls at hl ⊢
  have hl : lv_has ls 5 [(0, .ref y), (1, .int 1), (2, .int 1), (3, .int (nI N)), (4, .int (nI n))] := hl
  refine lv_aload_n hx hb d_M_learn_0 rfl (lv_at hl 0 rfl) ?_
  refine va_get (D := D) (ci := 5) (v := .ref mn) (C := R_M) (T := T_M) (N := 20) hx hb hg in_M hown hK hP 0 rfl rfl 10 (by decide) (hg _ gw_534) (fun _ h9 => h9) rfl d_M_learn_1 ?_
  refine lv_iload_n hx hb d_M_learn_4 rfl (lv_at hl 1 rfl) ?_
  refine lv_iload hx hb d_M_learn_5 (lv_at hl 4 rfl) ?_
  refine lv_if_ge (tgt := 21) hx hb d_M_learn_7 (by decide) (fun c_1 => ?_) (fun c_1 => ?_)
  · skip
    refine lv_aload_n hx hb d_M_learn_21 rfl (lv_at hl 0 rfl) ?_
    refine va_get (D := D) (ci := 5) (v := .ref mn) (C := R_M) (T := T_M) (N := 20) hx hb hg in_M hown hK hP 0 rfl rfl 10 (by decide) (hg _ gw_534) (fun _ h9 => h9) rfl d_M_learn_22 ?_
    refine lv_iload_n hx hb d_M_learn_25 rfl (lv_at hl 1 rfl) ?_
    refine va_iald hx hb hK hP 3 0 rfl rfl (vp_in_nI (n := 1) (by decide) (by decide)) d_M_learn_26 ?_
    refine tpi (y := nI ng) (hnu) ?_
    refine va_iast hx hb hK hP hD hS 3 0 rfl rfl (vp_in_nI (n := 1) (by decide) (by decide)) d_M_learn_27 (fun H locs hP hD hS => ?_)
    rw [show (1 : Int32).toNatClampNeg = 1 from rfl] at hP hD
    have hP : va_P D CLS [(y, .inr (5, [.int th, .int (nI bi), .int (nI ne), .int (nI li), .int (nI sp), .int (nI q), .ref ms, .ref mw, .ref mu, .ref mc, .ref mn, .int en, .int (nI sz), .ref mr, .int (nI wa), .ref mq, .int la, .ref md, .int at0, .int lk])), (mu, .inl (cI, 4, .inl su)), (mc, .inl (cI, 4, .inl cu)), (mn, .inl (cI, 4, .inl (upd nu 1 (nI ng))))] H := hP
    have hD : va_D A [(y, .inr (5, [.int th, .int (nI bi), .int (nI ne), .int (nI li), .int (nI sp), .int (nI q), .ref ms, .ref mw, .ref mu, .ref mc, .ref mn, .int en, .int (nI sz), .ref mr, .int (nI wa), .ref mq, .int la, .ref md, .int at0, .int lk])), (mu, .inl (cI, 4, .inl su)), (mc, .inl (cI, 4, .inl cu)), (mn, .inl (cI, 4, .inl (upd nu 1 (nI ng))))] := hD
    refine lv_aload_n hx hb d_M_learn_28 rfl (lv_at hl 0 rfl) ?_
    refine va_get (D := D) (ci := 5) (v := .ref mu) (C := R_M) (T := T_M) (N := 20) hx hb hg in_M hown hK hP 0 rfl rfl 8 (by decide) (hg _ gw_532) (fun _ h9 => h9) rfl d_M_learn_29 ?_
    refine lv_iload_n hx hb d_M_learn_32 rfl (lv_at hl 1 rfl) ?_
    refine lv_aload_n hx hb d_M_learn_33 rfl (lv_at hl 0 rfl) ?_
    refine va_get (D := D) (ci := 5) (v := .ref mu) (C := R_M) (T := T_M) (N := 20) hx hb hg in_M hown hK hP 0 rfl rfl 8 (by decide) (hg _ gw_532) (fun _ h9 => h9) rfl d_M_learn_34 ?_
    refine lv_iload_n hx hb d_M_learn_37 rfl (lv_at hl 1 rfl) ?_
    refine va_iald hx hb hK hP 1 0 rfl rfl (vp_in_nI (n := 1) (by decide) (by decide)) d_M_learn_38 ?_
    refine tpi (y := nI sm) (hsu) ?_
    refine lv_iload_n hx hb d_M_learn_39 rfl (lv_at hl 3 rfl) ?_
    refine lv_iconst (v := 1) hx hb d_M_learn_40 (by decide) ?_
    refine lv_iadd hx hb d_M_learn_41 ?_
    refine tpi (y := nI (N + 1)) (nI_1 N) ?_
    refine lv_iload_n hx hb d_M_learn_42 rfl (lv_at hl 2 rfl) ?_
    refine lv_isub hx hb d_M_learn_43 ?_
    refine tpi (y := nI (N + 1 - 1)) (pk_sub (b := 1) (by omega)) ?_
    refine lv_iconst (v := 2) hx hb d_M_learn_44 (by decide) ?_
    refine lv_idiv hx hb d_M_learn_45 (by decide) ?_
    refine tpi (y := nI ((N + 1 - 1) / 2)) (div2 (by omega)) ?_
    refine lv_iadd hx hb d_M_learn_46 ?_
    refine tpi (y := nI (sm + (N + 1 - 1) / 2)) (nI_add _ _) ?_
    refine va_iast hx hb hK hP hD hS 1 0 rfl rfl (vp_in_nI (n := 1) (by decide) (by decide)) d_M_learn_47 (fun H locs hP hD hS => ?_)
    rw [show (1 : Int32).toNatClampNeg = 1 from rfl] at hP hD
    have hP : va_P D CLS [(y, .inr (5, [.int th, .int (nI bi), .int (nI ne), .int (nI li), .int (nI sp), .int (nI q), .ref ms, .ref mw, .ref mu, .ref mc, .ref mn, .int en, .int (nI sz), .ref mr, .int (nI wa), .ref mq, .int la, .ref md, .int at0, .int lk])), (mu, .inl (cI, 4, .inl (upd su 1 (nI (sm + (N + 1 - 1) / 2))))), (mc, .inl (cI, 4, .inl cu)), (mn, .inl (cI, 4, .inl (upd nu 1 (nI ng))))] H := hP
    have hD : va_D A [(y, .inr (5, [.int th, .int (nI bi), .int (nI ne), .int (nI li), .int (nI sp), .int (nI q), .ref ms, .ref mw, .ref mu, .ref mc, .ref mn, .int en, .int (nI sz), .ref mr, .int (nI wa), .ref mq, .int la, .ref md, .int at0, .int lk])), (mu, .inl (cI, 4, .inl (upd su 1 (nI (sm + (N + 1 - 1) / 2))))), (mc, .inl (cI, 4, .inl cu)), (mn, .inl (cI, 4, .inl (upd nu 1 (nI ng))))] := hD
    refine lv_aload_n hx hb d_M_learn_48 rfl (lv_at hl 0 rfl) ?_
    refine va_get (D := D) (ci := 5) (v := .ref mc) (C := R_M) (T := T_M) (N := 20) hx hb hg in_M hown hK hP 0 rfl rfl 9 (by decide) (hg _ gw_533) (fun _ h9 => h9) rfl d_M_learn_49 ?_
    refine lv_iload_n hx hb d_M_learn_52 rfl (lv_at hl 1 rfl) ?_
    refine va_iald hx hb hK hP 2 0 rfl rfl (vp_in_nI (n := 1) (by decide) (by decide)) d_M_learn_53 ?_
    refine tpi (y := nI ct) (hcu) ?_
    refine lv_bipush (v := 64) hx hb d_M_learn_54 (by decide) ?_
    refine lv_icmp_ne (tgt := 101) hx hb d_M_learn_56 (by decide) (fun c_2 => ?_) (fun c_2 => ?_)
    · skip
      have h2 : ¬ ct = 64 := fun z => c_2 (by rw [z]; rfl)
      refine lv_aload_n hx hb d_M_learn_101 rfl (lv_at hl 0 rfl) ?_
      refine va_get (D := D) (ci := 5) (v := .ref mc) (C := R_M) (T := T_M) (N := 20) hx hb hg in_M hown hK hP 0 rfl rfl 9 (by decide) (hg _ gw_533) (fun _ h9 => h9) rfl d_M_learn_102 ?_
      refine lv_iload_n hx hb d_M_learn_105 rfl (lv_at hl 1 rfl) ?_
      refine lv_dup2_11 hx hb d_M_learn_106 rfl rfl ?_
      refine va_iald hx hb hK hP 2 0 rfl rfl (vp_in_nI (n := 1) (by decide) (by decide)) d_M_learn_107 ?_
      refine tpi (y := nI ct) (hcu) ?_
      refine lv_iconst (v := 1) hx hb d_M_learn_108 (by decide) ?_
      refine lv_iadd hx hb d_M_learn_109 ?_
      refine tpi (y := nI (hvd ct ct + 1)) (by rw [show hvd ct ct = ct from if_neg h2]; exact nI_1 ct) ?_
      refine va_iast hx hb hK hP hD hS 2 0 rfl rfl (vp_in_nI (n := 1) (by decide) (by decide)) d_M_learn_110 (fun H locs hP hD hS => ?_)
      rw [show (1 : Int32).toNatClampNeg = 1 from rfl] at hP hD
      have hP : va_P D CLS [(y, .inr (5, [.int th, .int (nI bi), .int (nI ne), .int (nI li), .int (nI sp), .int (nI q), .ref ms, .ref mw, .ref mu, .ref mc, .ref mn, .int en, .int (nI sz), .ref mr, .int (nI wa), .ref mq, .int la, .ref md, .int at0, .int lk])), (mu, .inl (cI, 4, .inl (upd su 1 (nI (sm + (N + 1 - 1) / 2))))), (mc, .inl (cI, 4, .inl (upd cu 1 (nI (hvd ct ct + 1))))), (mn, .inl (cI, 4, .inl (upd nu 1 (nI ng))))] H := hP
      have hD : va_D A [(y, .inr (5, [.int th, .int (nI bi), .int (nI ne), .int (nI li), .int (nI sp), .int (nI q), .ref ms, .ref mw, .ref mu, .ref mc, .ref mn, .int en, .int (nI sz), .ref mr, .int (nI wa), .ref mq, .int la, .ref md, .int at0, .int lk])), (mu, .inl (cI, 4, .inl (upd su 1 (nI (sm + (N + 1 - 1) / 2))))), (mc, .inl (cI, 4, .inl (upd cu 1 (nI (hvd ct ct + 1))))), (mn, .inl (cI, 4, .inl (upd nu 1 (nI ng))))] := hD
      exact W.vret hx hb hr (fun t ht hW => ⟨rfl, by rw [ht]; exact (by rw [show hvd ct (sm + (N + 1 - 1) / 2) = sm + (N + 1 - 1) / 2 from if_neg h2, show hvd ct ng = ng from if_neg h2]; exact hP), (hAe ▸ hS).F ht⟩) (hAe ▸ hS).2.2 d_M_learn_111
    · skip
      have h2 : ct = 64 := (nI_eq (b := 64) (by omega) (by omega)).mp c_2
      refine lv_aload_n hx hb d_M_learn_59 rfl (lv_at hl 0 rfl) ?_
      refine va_get (D := D) (ci := 5) (v := .ref mu) (C := R_M) (T := T_M) (N := 20) hx hb hg in_M hown hK hP 0 rfl rfl 8 (by decide) (hg _ gw_532) (fun _ h9 => h9) rfl d_M_learn_60 ?_
      refine lv_iload_n hx hb d_M_learn_63 rfl (lv_at hl 1 rfl) ?_
      refine lv_aload_n hx hb d_M_learn_64 rfl (lv_at hl 0 rfl) ?_
      refine va_get (D := D) (ci := 5) (v := .ref mu) (C := R_M) (T := T_M) (N := 20) hx hb hg in_M hown hK hP 0 rfl rfl 8 (by decide) (hg _ gw_532) (fun _ h9 => h9) rfl d_M_learn_65 ?_
      refine lv_iload_n hx hb d_M_learn_68 rfl (lv_at hl 1 rfl) ?_
      refine va_iald hx hb hK hP 1 0 rfl rfl (vp_in_nI (n := 1) (by decide) (by decide)) d_M_learn_69 ?_
      refine tpi (y := nI (sm + (N + 1 - 1) / 2)) (pk_us) ?_
      refine lv_iconst (v := 2) hx hb d_M_learn_70 (by decide) ?_
      refine lv_idiv hx hb d_M_learn_71 (by decide) ?_
      refine tpi (y := nI ((sm + (N + 1 - 1) / 2) / 2)) (div2 (by omega)) ?_
      refine va_iast hx hb hK hP hD hS 1 0 rfl rfl (vp_in_nI (n := 1) (by decide) (by decide)) d_M_learn_72 (fun H locs hP hD hS => ?_)
      rw [show (1 : Int32).toNatClampNeg = 1 from rfl, updd] at hP hD
      have hP : va_P D CLS [(y, .inr (5, [.int th, .int (nI bi), .int (nI ne), .int (nI li), .int (nI sp), .int (nI q), .ref ms, .ref mw, .ref mu, .ref mc, .ref mn, .int en, .int (nI sz), .ref mr, .int (nI wa), .ref mq, .int la, .ref md, .int at0, .int lk])), (mu, .inl (cI, 4, .inl (upd su 1 (nI ((sm + (N + 1 - 1) / 2) / 2))))), (mc, .inl (cI, 4, .inl cu)), (mn, .inl (cI, 4, .inl (upd nu 1 (nI ng))))] H := hP
      have hD : va_D A [(y, .inr (5, [.int th, .int (nI bi), .int (nI ne), .int (nI li), .int (nI sp), .int (nI q), .ref ms, .ref mw, .ref mu, .ref mc, .ref mn, .int en, .int (nI sz), .ref mr, .int (nI wa), .ref mq, .int la, .ref md, .int at0, .int lk])), (mu, .inl (cI, 4, .inl (upd su 1 (nI ((sm + (N + 1 - 1) / 2) / 2))))), (mc, .inl (cI, 4, .inl cu)), (mn, .inl (cI, 4, .inl (upd nu 1 (nI ng))))] := hD
      refine lv_aload_n hx hb d_M_learn_73 rfl (lv_at hl 0 rfl) ?_
      refine va_get (D := D) (ci := 5) (v := .ref mc) (C := R_M) (T := T_M) (N := 20) hx hb hg in_M hown hK hP 0 rfl rfl 9 (by decide) (hg _ gw_533) (fun _ h9 => h9) rfl d_M_learn_74 ?_
      refine lv_iload_n hx hb d_M_learn_77 rfl (lv_at hl 1 rfl) ?_
      refine lv_aload_n hx hb d_M_learn_78 rfl (lv_at hl 0 rfl) ?_
      refine va_get (D := D) (ci := 5) (v := .ref mc) (C := R_M) (T := T_M) (N := 20) hx hb hg in_M hown hK hP 0 rfl rfl 9 (by decide) (hg _ gw_533) (fun _ h9 => h9) rfl d_M_learn_79 ?_
      refine lv_iload_n hx hb d_M_learn_82 rfl (lv_at hl 1 rfl) ?_
      refine va_iald hx hb hK hP 2 0 rfl rfl (vp_in_nI (n := 1) (by decide) (by decide)) d_M_learn_83 ?_
      refine tpi (y := nI ct) (hcu) ?_
      refine lv_iconst (v := 2) hx hb d_M_learn_84 (by decide) ?_
      refine lv_idiv hx hb d_M_learn_85 (by decide) ?_
      refine tpi (y := nI (ct / 2)) (div2 (by omega)) ?_
      refine va_iast hx hb hK hP hD hS 2 0 rfl rfl (vp_in_nI (n := 1) (by decide) (by decide)) d_M_learn_86 (fun H locs hP hD hS => ?_)
      rw [show (1 : Int32).toNatClampNeg = 1 from rfl] at hP hD
      have hP : va_P D CLS [(y, .inr (5, [.int th, .int (nI bi), .int (nI ne), .int (nI li), .int (nI sp), .int (nI q), .ref ms, .ref mw, .ref mu, .ref mc, .ref mn, .int en, .int (nI sz), .ref mr, .int (nI wa), .ref mq, .int la, .ref md, .int at0, .int lk])), (mu, .inl (cI, 4, .inl (upd su 1 (nI ((sm + (N + 1 - 1) / 2) / 2))))), (mc, .inl (cI, 4, .inl (upd cu 1 (nI (ct / 2))))), (mn, .inl (cI, 4, .inl (upd nu 1 (nI ng))))] H := hP
      have hD : va_D A [(y, .inr (5, [.int th, .int (nI bi), .int (nI ne), .int (nI li), .int (nI sp), .int (nI q), .ref ms, .ref mw, .ref mu, .ref mc, .ref mn, .int en, .int (nI sz), .ref mr, .int (nI wa), .ref mq, .int la, .ref md, .int at0, .int lk])), (mu, .inl (cI, 4, .inl (upd su 1 (nI ((sm + (N + 1 - 1) / 2) / 2))))), (mc, .inl (cI, 4, .inl (upd cu 1 (nI (ct / 2))))), (mn, .inl (cI, 4, .inl (upd nu 1 (nI ng))))] := hD
      refine lv_aload_n hx hb d_M_learn_87 rfl (lv_at hl 0 rfl) ?_
      refine va_get (D := D) (ci := 5) (v := .ref mn) (C := R_M) (T := T_M) (N := 20) hx hb hg in_M hown hK hP 0 rfl rfl 10 (by decide) (hg _ gw_534) (fun _ h9 => h9) rfl d_M_learn_88 ?_
      refine lv_iload_n hx hb d_M_learn_91 rfl (lv_at hl 1 rfl) ?_
      refine lv_aload_n hx hb d_M_learn_92 rfl (lv_at hl 0 rfl) ?_
      refine va_get (D := D) (ci := 5) (v := .ref mn) (C := R_M) (T := T_M) (N := 20) hx hb hg in_M hown hK hP 0 rfl rfl 10 (by decide) (hg _ gw_534) (fun _ h9 => h9) rfl d_M_learn_93 ?_
      refine lv_iload_n hx hb d_M_learn_96 rfl (lv_at hl 1 rfl) ?_
      refine va_iald hx hb hK hP 3 0 rfl rfl (vp_in_nI (n := 1) (by decide) (by decide)) d_M_learn_97 ?_
      refine tpi (y := nI ng) (pk_us) ?_
      refine lv_iconst (v := 2) hx hb d_M_learn_98 (by decide) ?_
      refine lv_idiv hx hb d_M_learn_99 (by decide) ?_
      refine tpi (y := nI (ng / 2)) (div2 (by omega)) ?_
      refine va_iast hx hb hK hP hD hS 3 0 rfl rfl (vp_in_nI (n := 1) (by decide) (by decide)) d_M_learn_100 (fun H locs hP hD hS => ?_)
      rw [show (1 : Int32).toNatClampNeg = 1 from rfl, updd] at hP hD
      have hP : va_P D CLS [(y, .inr (5, [.int th, .int (nI bi), .int (nI ne), .int (nI li), .int (nI sp), .int (nI q), .ref ms, .ref mw, .ref mu, .ref mc, .ref mn, .int en, .int (nI sz), .ref mr, .int (nI wa), .ref mq, .int la, .ref md, .int at0, .int lk])), (mu, .inl (cI, 4, .inl (upd su 1 (nI ((sm + (N + 1 - 1) / 2) / 2))))), (mc, .inl (cI, 4, .inl (upd cu 1 (nI (ct / 2))))), (mn, .inl (cI, 4, .inl (upd nu 1 (nI (ng / 2)))))] H := hP
      have hD : va_D A [(y, .inr (5, [.int th, .int (nI bi), .int (nI ne), .int (nI li), .int (nI sp), .int (nI q), .ref ms, .ref mw, .ref mu, .ref mc, .ref mn, .int en, .int (nI sz), .ref mr, .int (nI wa), .ref mq, .int la, .ref md, .int at0, .int lk])), (mu, .inl (cI, 4, .inl (upd su 1 (nI ((sm + (N + 1 - 1) / 2) / 2))))), (mc, .inl (cI, 4, .inl (upd cu 1 (nI (ct / 2))))), (mn, .inl (cI, 4, .inl (upd nu 1 (nI (ng / 2)))))] := hD
      refine lv_aload_n hx hb d_M_learn_101 rfl (lv_at hl 0 rfl) ?_
      refine va_get (D := D) (ci := 5) (v := .ref mc) (C := R_M) (T := T_M) (N := 20) hx hb hg in_M hown hK hP 0 rfl rfl 9 (by decide) (hg _ gw_533) (fun _ h9 => h9) rfl d_M_learn_102 ?_
      refine lv_iload_n hx hb d_M_learn_105 rfl (lv_at hl 1 rfl) ?_
      refine lv_dup2_11 hx hb d_M_learn_106 rfl rfl ?_
      refine va_iald hx hb hK hP 2 0 rfl rfl (vp_in_nI (n := 1) (by decide) (by decide)) d_M_learn_107 ?_
      refine tpi (y := nI (ct / 2)) (pk_us) ?_
      refine lv_iconst (v := 1) hx hb d_M_learn_108 (by decide) ?_
      refine lv_iadd hx hb d_M_learn_109 ?_
      refine tpi (y := nI (ct / 2 + 1)) (nI_1 _) ?_
      refine va_iast hx hb hK hP hD hS 2 0 rfl rfl (vp_in_nI (n := 1) (by decide) (by decide)) d_M_learn_110 (fun H locs hP hD hS => ?_)
      rw [show (1 : Int32).toNatClampNeg = 1 from rfl, updd] at hP hD
      have hP : va_P D CLS [(y, .inr (5, [.int th, .int (nI bi), .int (nI ne), .int (nI li), .int (nI sp), .int (nI q), .ref ms, .ref mw, .ref mu, .ref mc, .ref mn, .int en, .int (nI sz), .ref mr, .int (nI wa), .ref mq, .int la, .ref md, .int at0, .int lk])), (mu, .inl (cI, 4, .inl (upd su 1 (nI ((sm + (N + 1 - 1) / 2) / 2))))), (mc, .inl (cI, 4, .inl (upd cu 1 (nI (ct / 2 + 1))))), (mn, .inl (cI, 4, .inl (upd nu 1 (nI (ng / 2)))))] H := hP
      have hD : va_D A [(y, .inr (5, [.int th, .int (nI bi), .int (nI ne), .int (nI li), .int (nI sp), .int (nI q), .ref ms, .ref mw, .ref mu, .ref mc, .ref mn, .int en, .int (nI sz), .ref mr, .int (nI wa), .ref mq, .int la, .ref md, .int at0, .int lk])), (mu, .inl (cI, 4, .inl (upd su 1 (nI ((sm + (N + 1 - 1) / 2) / 2))))), (mc, .inl (cI, 4, .inl (upd cu 1 (nI (ct / 2 + 1))))), (mn, .inl (cI, 4, .inl (upd nu 1 (nI (ng / 2)))))] := hD
      exact W.vret hx hb hr (fun t ht hW => ⟨rfl, by rw [ht]; exact (by rw [show hvd ct (sm + (N + 1 - 1) / 2) = (sm + (N + 1 - 1) / 2) / 2 from if_pos h2, show hvd ct ct = ct / 2 from if_pos h2, show hvd ct ng = ng / 2 from if_pos h2]; exact hP), (hAe ▸ hS).F ht⟩) (hAe ▸ hS).2.2 d_M_learn_111
  · skip
    exact absurd (nI_pos' (by omega)) c_1
set_option maxHeartbeats 4000000 in
set_option maxRecDepth 100000 in
theorem c_M_learn1N (l : Launch) (D : va_G) (y ms mw mu mc mn mr mq md bi ne li sp q sz wa : Nat) (th en la at0 lk : Int32) (cI : ClassId) (su cu nu : Nat → Int32) (sm ct ng n N : Nat) (hsu : su 1 = nI sm) (hcu : cu 1 = nI ct) (hnu : nu 1 = nI ng) (hc0 : ct ≤ 64) (hn0 : ng ≤ 64) (hs0 : sm < 2 ^ 29) (hN : N < 2 ^ 29) (hn : n < 2 ^ 30) (hn1 : 0 < n) : Met l y_M_learn (WSY y_M_learn b_M_learn 5 none) ({ frames := 0, cells := 0, slots := 0, locals := 0 }) (va_Pc [.ref y, .int 1, .int 1, .int (nI N), .int (-nI n)] (fun U => va_P D CLS [(y, .inr (5, [.int th, .int (nI bi), .int (nI ne), .int (nI li), .int (nI sp), .int (nI q), .ref ms, .ref mw, .ref mu, .ref mc, .ref mn, .int en, .int (nI sz), .ref mr, .int (nI wa), .ref mq, .int la, .ref md, .int at0, .int lk])), (mu, .inl (cI, 4, .inl su)), (mc, .inl (cI, 4, .inl cu)), (mn, .inl (cI, 4, .inl nu))] U.heap ∧ va_K D CLS [(cI, .int)] U ∧ va_D (fun _ => True) [(y, .inr (5, [.int th, .int (nI bi), .int (nI ne), .int (nI li), .int (nI sp), .int (nI q), .ref ms, .ref mw, .ref mu, .ref mc, .ref mn, .int en, .int (nI sz), .ref mr, .int (nI wa), .ref mq, .int la, .ref md, .int at0, .int lk])), (mu, .inl (cI, 4, .inl su)), (mc, .inl (cI, 4, .inl cu)), (mn, .inl (cI, 4, .inl nu))])) (QM none [(y, .inr (5, [.int th, .int (nI bi), .int (nI ne), .int (nI li), .int (nI sp), .int (nI q), .ref ms, .ref mw, .ref mu, .ref mc, .ref mn, .int en, .int (nI sz), .ref mr, .int (nI wa), .ref mq, .int la, .ref md, .int at0, .int lk])), (mu, .inl (cI, 4, .inl su)), (mc, .inl (cI, 4, .inl cu)), (mn, .inl (cI, 4, .inl nu))] [(y, .inr (5, [.int th, .int (nI bi), .int (nI ne), .int (nI li), .int (nI sp), .int (nI q), .ref ms, .ref mw, .ref mu, .ref mc, .ref mn, .int en, .int (nI sz), .ref mr, .int (nI wa), .ref mq, .int la, .ref md, .int at0, .int lk])), (mu, .inl (cI, 4, .inl (upd su 1 (nI (hvd ct (sm + (N + 1 - 1) / 2)))))), (mc, .inl (cI, 4, .inl (upd cu 1 (nI (hvd ct ct + 1))))), (mn, .inl (cI, 4, .inl (upd nu 1 (nI (hvd ct (ng + 1))))))] D) 0 0 (ad [(y, .inr (5, [.int th, .int (nI bi), .int (nI ne), .int (nI li), .int (nI sp), .int (nI q), .ref ms, .ref mw, .ref mu, .ref mc, .ref mn, .int en, .int (nI sz), .ref mr, .int (nI wa), .ref mq, .int la, .ref md, .int at0, .int lk])), (mu, .inl (cI, 4, .inl su)), (mc, .inl (cI, 4, .inl cu)), (mn, .inl (cI, 4, .inl nu))]) := by
  refine Met.ofW (cc := b_M_learn) (maxL := 5) (ret := none) (by decide) rfl ?_
  intro p e s m args below meth c s₁ B hml hv
  obtain ⟨rfl, hP, hK, hD0⟩ := hv
  have hx := B.exec
  have hb := B.bytes
  have hr := B.returns
  have hts := atoms_spec (ws := WSY y_M_learn b_M_learn 5 none) B.pre
  have hg : ∀ w ∈ GW, w.before _ s = true := fun w h => hts w (List.mem_cons_of_mem _ h)
  have hown : s.vm.findClass "LineGolombModel" = some m.cls := findClass_of_methodNamed B.named
  have hlocks := B.notSynchronized
  obtain ⟨A, hAe⟩ : ∃ A, A = ad [(y, .inr (5, [.int th, .int (nI bi), .int (nI ne), .int (nI li), .int (nI sp), .int (nI q), .ref ms, .ref mw, .ref mu, .ref mc, .ref mn, .int en, .int (nI sz), .ref mr, .int (nI wa), .ref mq, .int la, .ref md, .int at0, .int lk])), (mu, .inl (cI, 4, .inl su)), (mc, .inl (cI, 4, .inl cu)), (mn, .inl (cI, 4, .inl nu))] := ⟨_, rfl⟩
  have hD : va_D A [(y, .inr (5, [.int th, .int (nI bi), .int (nI ne), .int (nI li), .int (nI sp), .int (nI q), .ref ms, .ref mw, .ref mu, .ref mc, .ref mn, .int en, .int (nI sz), .ref mr, .int (nI wa), .ref mq, .int la, .ref md, .int at0, .int lk])), (mu, .inl (cI, 4, .inl su)), (mc, .inl (cI, 4, .inl cu)), (mn, .inl (cI, 4, .inl nu))] := by rw [hAe]; exact va_D_ad hD0
  have hS : va_S A s.heap s.heap [] := va_S.rf
  have hl := lv_entry ([.ref y, .int 1, .int 1, .int (nI N), .int (-nI n)]) (n := 5) (Nat.le_of_ble_eq_true rfl)
  rw [lg_entry_eq]
  generalize (lg_sl ([.ref y, .int 1, .int 1, .int (nI N), .int (-nI n)]) ++ List.replicate (5 - (lg_sl ([.ref y, .int 1, .int 1, .int (nI N), .int (-nI n)])).length) Slot.unset).toArray = ls at hl ⊢
  have hl : lv_has ls 5 [(0, .ref y), (1, .int 1), (2, .int 1), (3, .int (nI N)), (4, .int (-nI n))] := hl
  refine lv_aload_n hx hb d_M_learn_0 rfl (lv_at hl 0 rfl) ?_
  refine va_get (D := D) (ci := 5) (v := .ref mn) (C := R_M) (T := T_M) (N := 20) hx hb hg in_M hown hK hP 0 rfl rfl 10 (by decide) (hg _ gw_534) (fun _ h9 => h9) rfl d_M_learn_1 ?_
  refine lv_iload_n hx hb d_M_learn_4 rfl (lv_at hl 1 rfl) ?_
  refine lv_iload hx hb d_M_learn_5 (lv_at hl 4 rfl) ?_
  refine lv_if_ge (tgt := 21) hx hb d_M_learn_7 (by decide) (fun c_1 => ?_) (fun c_1 => ?_)
  · skip
    exact absurd c_1 (by rw [leT, ngT (by omega), zT]; omega)
  · skip
    refine lv_aload_n hx hb d_M_learn_10 rfl (lv_at hl 0 rfl) ?_
    refine va_get (D := D) (ci := 5) (v := .ref mn) (C := R_M) (T := T_M) (N := 20) hx hb hg in_M hown hK hP 0 rfl rfl 10 (by decide) (hg _ gw_534) (fun _ h9 => h9) rfl d_M_learn_11 ?_
    refine lv_iload_n hx hb d_M_learn_14 rfl (lv_at hl 1 rfl) ?_
    refine va_iald hx hb hK hP 3 0 rfl rfl (vp_in_nI (n := 1) (by decide) (by decide)) d_M_learn_15 ?_
    refine tpi (y := nI ng) (hnu) ?_
    refine lv_iconst (v := 1) hx hb d_M_learn_16 (by decide) ?_
    refine lv_iadd hx hb d_M_learn_17 ?_
    refine tpi (y := nI (ng + 1)) (nI_1 ng) ?_
    refine lv_goto (tgt := 27) hx hb d_M_learn_18 (by decide) ?_
    refine va_iast hx hb hK hP hD hS 3 0 rfl rfl (vp_in_nI (n := 1) (by decide) (by decide)) d_M_learn_27 (fun H locs hP hD hS => ?_)
    rw [show (1 : Int32).toNatClampNeg = 1 from rfl] at hP hD
    have hP : va_P D CLS [(y, .inr (5, [.int th, .int (nI bi), .int (nI ne), .int (nI li), .int (nI sp), .int (nI q), .ref ms, .ref mw, .ref mu, .ref mc, .ref mn, .int en, .int (nI sz), .ref mr, .int (nI wa), .ref mq, .int la, .ref md, .int at0, .int lk])), (mu, .inl (cI, 4, .inl su)), (mc, .inl (cI, 4, .inl cu)), (mn, .inl (cI, 4, .inl (upd nu 1 (nI (ng + 1)))))] H := hP
    have hD : va_D A [(y, .inr (5, [.int th, .int (nI bi), .int (nI ne), .int (nI li), .int (nI sp), .int (nI q), .ref ms, .ref mw, .ref mu, .ref mc, .ref mn, .int en, .int (nI sz), .ref mr, .int (nI wa), .ref mq, .int la, .ref md, .int at0, .int lk])), (mu, .inl (cI, 4, .inl su)), (mc, .inl (cI, 4, .inl cu)), (mn, .inl (cI, 4, .inl (upd nu 1 (nI (ng + 1)))))] := hD
    refine lv_aload_n hx hb d_M_learn_28 rfl (lv_at hl 0 rfl) ?_
    refine va_get (D := D) (ci := 5) (v := .ref mu) (C := R_M) (T := T_M) (N := 20) hx hb hg in_M hown hK hP 0 rfl rfl 8 (by decide) (hg _ gw_532) (fun _ h9 => h9) rfl d_M_learn_29 ?_
    refine lv_iload_n hx hb d_M_learn_32 rfl (lv_at hl 1 rfl) ?_
    refine lv_aload_n hx hb d_M_learn_33 rfl (lv_at hl 0 rfl) ?_
    refine va_get (D := D) (ci := 5) (v := .ref mu) (C := R_M) (T := T_M) (N := 20) hx hb hg in_M hown hK hP 0 rfl rfl 8 (by decide) (hg _ gw_532) (fun _ h9 => h9) rfl d_M_learn_34 ?_
    refine lv_iload_n hx hb d_M_learn_37 rfl (lv_at hl 1 rfl) ?_
    refine va_iald hx hb hK hP 1 0 rfl rfl (vp_in_nI (n := 1) (by decide) (by decide)) d_M_learn_38 ?_
    refine tpi (y := nI sm) (hsu) ?_
    refine lv_iload_n hx hb d_M_learn_39 rfl (lv_at hl 3 rfl) ?_
    refine lv_iconst (v := 1) hx hb d_M_learn_40 (by decide) ?_
    refine lv_iadd hx hb d_M_learn_41 ?_
    refine tpi (y := nI (N + 1)) (nI_1 N) ?_
    refine lv_iload_n hx hb d_M_learn_42 rfl (lv_at hl 2 rfl) ?_
    refine lv_isub hx hb d_M_learn_43 ?_
    refine tpi (y := nI (N + 1 - 1)) (pk_sub (b := 1) (by omega)) ?_
    refine lv_iconst (v := 2) hx hb d_M_learn_44 (by decide) ?_
    refine lv_idiv hx hb d_M_learn_45 (by decide) ?_
    refine tpi (y := nI ((N + 1 - 1) / 2)) (div2 (by omega)) ?_
    refine lv_iadd hx hb d_M_learn_46 ?_
    refine tpi (y := nI (sm + (N + 1 - 1) / 2)) (nI_add _ _) ?_
    refine va_iast hx hb hK hP hD hS 1 0 rfl rfl (vp_in_nI (n := 1) (by decide) (by decide)) d_M_learn_47 (fun H locs hP hD hS => ?_)
    rw [show (1 : Int32).toNatClampNeg = 1 from rfl] at hP hD
    have hP : va_P D CLS [(y, .inr (5, [.int th, .int (nI bi), .int (nI ne), .int (nI li), .int (nI sp), .int (nI q), .ref ms, .ref mw, .ref mu, .ref mc, .ref mn, .int en, .int (nI sz), .ref mr, .int (nI wa), .ref mq, .int la, .ref md, .int at0, .int lk])), (mu, .inl (cI, 4, .inl (upd su 1 (nI (sm + (N + 1 - 1) / 2))))), (mc, .inl (cI, 4, .inl cu)), (mn, .inl (cI, 4, .inl (upd nu 1 (nI (ng + 1)))))] H := hP
    have hD : va_D A [(y, .inr (5, [.int th, .int (nI bi), .int (nI ne), .int (nI li), .int (nI sp), .int (nI q), .ref ms, .ref mw, .ref mu, .ref mc, .ref mn, .int en, .int (nI sz), .ref mr, .int (nI wa), .ref mq, .int la, .ref md, .int at0, .int lk])), (mu, .inl (cI, 4, .inl (upd su 1 (nI (sm + (N + 1 - 1) / 2))))), (mc, .inl (cI, 4, .inl cu)), (mn, .inl (cI, 4, .inl (upd nu 1 (nI (ng + 1)))))] := hD
    refine lv_aload_n hx hb d_M_learn_48 rfl (lv_at hl 0 rfl) ?_
    refine va_get (D := D) (ci := 5) (v := .ref mc) (C := R_M) (T := T_M) (N := 20) hx hb hg in_M hown hK hP 0 rfl rfl 9 (by decide) (hg _ gw_533) (fun _ h9 => h9) rfl d_M_learn_49 ?_
    refine lv_iload_n hx hb d_M_learn_52 rfl (lv_at hl 1 rfl) ?_
    refine va_iald hx hb hK hP 2 0 rfl rfl (vp_in_nI (n := 1) (by decide) (by decide)) d_M_learn_53 ?_
    refine tpi (y := nI ct) (hcu) ?_
    refine lv_bipush (v := 64) hx hb d_M_learn_54 (by decide) ?_
    refine lv_icmp_ne (tgt := 101) hx hb d_M_learn_56 (by decide) (fun c_2 => ?_) (fun c_2 => ?_)
    · skip
      have h2 : ¬ ct = 64 := fun z => c_2 (by rw [z]; rfl)
      refine lv_aload_n hx hb d_M_learn_101 rfl (lv_at hl 0 rfl) ?_
      refine va_get (D := D) (ci := 5) (v := .ref mc) (C := R_M) (T := T_M) (N := 20) hx hb hg in_M hown hK hP 0 rfl rfl 9 (by decide) (hg _ gw_533) (fun _ h9 => h9) rfl d_M_learn_102 ?_
      refine lv_iload_n hx hb d_M_learn_105 rfl (lv_at hl 1 rfl) ?_
      refine lv_dup2_11 hx hb d_M_learn_106 rfl rfl ?_
      refine va_iald hx hb hK hP 2 0 rfl rfl (vp_in_nI (n := 1) (by decide) (by decide)) d_M_learn_107 ?_
      refine tpi (y := nI ct) (hcu) ?_
      refine lv_iconst (v := 1) hx hb d_M_learn_108 (by decide) ?_
      refine lv_iadd hx hb d_M_learn_109 ?_
      refine tpi (y := nI (hvd ct ct + 1)) (by rw [show hvd ct ct = ct from if_neg h2]; exact nI_1 ct) ?_
      refine va_iast hx hb hK hP hD hS 2 0 rfl rfl (vp_in_nI (n := 1) (by decide) (by decide)) d_M_learn_110 (fun H locs hP hD hS => ?_)
      rw [show (1 : Int32).toNatClampNeg = 1 from rfl] at hP hD
      have hP : va_P D CLS [(y, .inr (5, [.int th, .int (nI bi), .int (nI ne), .int (nI li), .int (nI sp), .int (nI q), .ref ms, .ref mw, .ref mu, .ref mc, .ref mn, .int en, .int (nI sz), .ref mr, .int (nI wa), .ref mq, .int la, .ref md, .int at0, .int lk])), (mu, .inl (cI, 4, .inl (upd su 1 (nI (sm + (N + 1 - 1) / 2))))), (mc, .inl (cI, 4, .inl (upd cu 1 (nI (hvd ct ct + 1))))), (mn, .inl (cI, 4, .inl (upd nu 1 (nI (ng + 1)))))] H := hP
      have hD : va_D A [(y, .inr (5, [.int th, .int (nI bi), .int (nI ne), .int (nI li), .int (nI sp), .int (nI q), .ref ms, .ref mw, .ref mu, .ref mc, .ref mn, .int en, .int (nI sz), .ref mr, .int (nI wa), .ref mq, .int la, .ref md, .int at0, .int lk])), (mu, .inl (cI, 4, .inl (upd su 1 (nI (sm + (N + 1 - 1) / 2))))), (mc, .inl (cI, 4, .inl (upd cu 1 (nI (hvd ct ct + 1))))), (mn, .inl (cI, 4, .inl (upd nu 1 (nI (ng + 1)))))] := hD
      exact W.vret hx hb hr (fun t ht hW => ⟨rfl, by rw [ht]; exact (by rw [show hvd ct (sm + (N + 1 - 1) / 2) = sm + (N + 1 - 1) / 2 from if_neg h2, show hvd ct (ng + 1) = (ng + 1) from if_neg h2]; exact hP), (hAe ▸ hS).F ht⟩) (hAe ▸ hS).2.2 d_M_learn_111
    · skip
      have h2 : ct = 64 := (nI_eq (b := 64) (by omega) (by omega)).mp c_2
      refine lv_aload_n hx hb d_M_learn_59 rfl (lv_at hl 0 rfl) ?_
      refine va_get (D := D) (ci := 5) (v := .ref mu) (C := R_M) (T := T_M) (N := 20) hx hb hg in_M hown hK hP 0 rfl rfl 8 (by decide) (hg _ gw_532) (fun _ h9 => h9) rfl d_M_learn_60 ?_
      refine lv_iload_n hx hb d_M_learn_63 rfl (lv_at hl 1 rfl) ?_
      refine lv_aload_n hx hb d_M_learn_64 rfl (lv_at hl 0 rfl) ?_
      refine va_get (D := D) (ci := 5) (v := .ref mu) (C := R_M) (T := T_M) (N := 20) hx hb hg in_M hown hK hP 0 rfl rfl 8 (by decide) (hg _ gw_532) (fun _ h9 => h9) rfl d_M_learn_65 ?_
      refine lv_iload_n hx hb d_M_learn_68 rfl (lv_at hl 1 rfl) ?_
      refine va_iald hx hb hK hP 1 0 rfl rfl (vp_in_nI (n := 1) (by decide) (by decide)) d_M_learn_69 ?_
      refine tpi (y := nI (sm + (N + 1 - 1) / 2)) (pk_us) ?_
      refine lv_iconst (v := 2) hx hb d_M_learn_70 (by decide) ?_
      refine lv_idiv hx hb d_M_learn_71 (by decide) ?_
      refine tpi (y := nI ((sm + (N + 1 - 1) / 2) / 2)) (div2 (by omega)) ?_
      refine va_iast hx hb hK hP hD hS 1 0 rfl rfl (vp_in_nI (n := 1) (by decide) (by decide)) d_M_learn_72 (fun H locs hP hD hS => ?_)
      rw [show (1 : Int32).toNatClampNeg = 1 from rfl, updd] at hP hD
      have hP : va_P D CLS [(y, .inr (5, [.int th, .int (nI bi), .int (nI ne), .int (nI li), .int (nI sp), .int (nI q), .ref ms, .ref mw, .ref mu, .ref mc, .ref mn, .int en, .int (nI sz), .ref mr, .int (nI wa), .ref mq, .int la, .ref md, .int at0, .int lk])), (mu, .inl (cI, 4, .inl (upd su 1 (nI ((sm + (N + 1 - 1) / 2) / 2))))), (mc, .inl (cI, 4, .inl cu)), (mn, .inl (cI, 4, .inl (upd nu 1 (nI (ng + 1)))))] H := hP
      have hD : va_D A [(y, .inr (5, [.int th, .int (nI bi), .int (nI ne), .int (nI li), .int (nI sp), .int (nI q), .ref ms, .ref mw, .ref mu, .ref mc, .ref mn, .int en, .int (nI sz), .ref mr, .int (nI wa), .ref mq, .int la, .ref md, .int at0, .int lk])), (mu, .inl (cI, 4, .inl (upd su 1 (nI ((sm + (N + 1 - 1) / 2) / 2))))), (mc, .inl (cI, 4, .inl cu)), (mn, .inl (cI, 4, .inl (upd nu 1 (nI (ng + 1)))))] := hD
      refine lv_aload_n hx hb d_M_learn_73 rfl (lv_at hl 0 rfl) ?_
      refine va_get (D := D) (ci := 5) (v := .ref mc) (C := R_M) (T := T_M) (N := 20) hx hb hg in_M hown hK hP 0 rfl rfl 9 (by decide) (hg _ gw_533) (fun _ h9 => h9) rfl d_M_learn_74 ?_
      refine lv_iload_n hx hb d_M_learn_77 rfl (lv_at hl 1 rfl) ?_
      refine lv_aload_n hx hb d_M_learn_78 rfl (lv_at hl 0 rfl) ?_
      refine va_get (D := D) (ci := 5) (v := .ref mc) (C := R_M) (T := T_M) (N := 20) hx hb hg in_M hown hK hP 0 rfl rfl 9 (by decide) (hg _ gw_533) (fun _ h9 => h9) rfl d_M_learn_79 ?_
      refine lv_iload_n hx hb d_M_learn_82 rfl (lv_at hl 1 rfl) ?_
      refine va_iald hx hb hK hP 2 0 rfl rfl (vp_in_nI (n := 1) (by decide) (by decide)) d_M_learn_83 ?_
      refine tpi (y := nI ct) (hcu) ?_
      refine lv_iconst (v := 2) hx hb d_M_learn_84 (by decide) ?_
      refine lv_idiv hx hb d_M_learn_85 (by decide) ?_
      refine tpi (y := nI (ct / 2)) (div2 (by omega)) ?_
      refine va_iast hx hb hK hP hD hS 2 0 rfl rfl (vp_in_nI (n := 1) (by decide) (by decide)) d_M_learn_86 (fun H locs hP hD hS => ?_)
      rw [show (1 : Int32).toNatClampNeg = 1 from rfl] at hP hD
      have hP : va_P D CLS [(y, .inr (5, [.int th, .int (nI bi), .int (nI ne), .int (nI li), .int (nI sp), .int (nI q), .ref ms, .ref mw, .ref mu, .ref mc, .ref mn, .int en, .int (nI sz), .ref mr, .int (nI wa), .ref mq, .int la, .ref md, .int at0, .int lk])), (mu, .inl (cI, 4, .inl (upd su 1 (nI ((sm + (N + 1 - 1) / 2) / 2))))), (mc, .inl (cI, 4, .inl (upd cu 1 (nI (ct / 2))))), (mn, .inl (cI, 4, .inl (upd nu 1 (nI (ng + 1)))))] H := hP
      have hD : va_D A [(y, .inr (5, [.int th, .int (nI bi), .int (nI ne), .int (nI li), .int (nI sp), .int (nI q), .ref ms, .ref mw, .ref mu, .ref mc, .ref mn, .int en, .int (nI sz), .ref mr, .int (nI wa), .ref mq, .int la, .ref md, .int at0, .int lk])), (mu, .inl (cI, 4, .inl (upd su 1 (nI ((sm + (N + 1 - 1) / 2) / 2))))), (mc, .inl (cI, 4, .inl (upd cu 1 (nI (ct / 2))))), (mn, .inl (cI, 4, .inl (upd nu 1 (nI (ng + 1)))))] := hD
      refine lv_aload_n hx hb d_M_learn_87 rfl (lv_at hl 0 rfl) ?_
      refine va_get (D := D) (ci := 5) (v := .ref mn) (C := R_M) (T := T_M) (N := 20) hx hb hg in_M hown hK hP 0 rfl rfl 10 (by decide) (hg _ gw_534) (fun _ h9 => h9) rfl d_M_learn_88 ?_
      refine lv_iload_n hx hb d_M_learn_91 rfl (lv_at hl 1 rfl) ?_
      refine lv_aload_n hx hb d_M_learn_92 rfl (lv_at hl 0 rfl) ?_
      refine va_get (D := D) (ci := 5) (v := .ref mn) (C := R_M) (T := T_M) (N := 20) hx hb hg in_M hown hK hP 0 rfl rfl 10 (by decide) (hg _ gw_534) (fun _ h9 => h9) rfl d_M_learn_93 ?_
      refine lv_iload_n hx hb d_M_learn_96 rfl (lv_at hl 1 rfl) ?_
      refine va_iald hx hb hK hP 3 0 rfl rfl (vp_in_nI (n := 1) (by decide) (by decide)) d_M_learn_97 ?_
      refine tpi (y := nI (ng + 1)) (pk_us) ?_
      refine lv_iconst (v := 2) hx hb d_M_learn_98 (by decide) ?_
      refine lv_idiv hx hb d_M_learn_99 (by decide) ?_
      refine tpi (y := nI ((ng + 1) / 2)) (div2 (by omega)) ?_
      refine va_iast hx hb hK hP hD hS 3 0 rfl rfl (vp_in_nI (n := 1) (by decide) (by decide)) d_M_learn_100 (fun H locs hP hD hS => ?_)
      rw [show (1 : Int32).toNatClampNeg = 1 from rfl, updd] at hP hD
      have hP : va_P D CLS [(y, .inr (5, [.int th, .int (nI bi), .int (nI ne), .int (nI li), .int (nI sp), .int (nI q), .ref ms, .ref mw, .ref mu, .ref mc, .ref mn, .int en, .int (nI sz), .ref mr, .int (nI wa), .ref mq, .int la, .ref md, .int at0, .int lk])), (mu, .inl (cI, 4, .inl (upd su 1 (nI ((sm + (N + 1 - 1) / 2) / 2))))), (mc, .inl (cI, 4, .inl (upd cu 1 (nI (ct / 2))))), (mn, .inl (cI, 4, .inl (upd nu 1 (nI ((ng + 1) / 2)))))] H := hP
      have hD : va_D A [(y, .inr (5, [.int th, .int (nI bi), .int (nI ne), .int (nI li), .int (nI sp), .int (nI q), .ref ms, .ref mw, .ref mu, .ref mc, .ref mn, .int en, .int (nI sz), .ref mr, .int (nI wa), .ref mq, .int la, .ref md, .int at0, .int lk])), (mu, .inl (cI, 4, .inl (upd su 1 (nI ((sm + (N + 1 - 1) / 2) / 2))))), (mc, .inl (cI, 4, .inl (upd cu 1 (nI (ct / 2))))), (mn, .inl (cI, 4, .inl (upd nu 1 (nI ((ng + 1) / 2)))))] := hD
      refine lv_aload_n hx hb d_M_learn_101 rfl (lv_at hl 0 rfl) ?_
      refine va_get (D := D) (ci := 5) (v := .ref mc) (C := R_M) (T := T_M) (N := 20) hx hb hg in_M hown hK hP 0 rfl rfl 9 (by decide) (hg _ gw_533) (fun _ h9 => h9) rfl d_M_learn_102 ?_
      refine lv_iload_n hx hb d_M_learn_105 rfl (lv_at hl 1 rfl) ?_
      refine lv_dup2_11 hx hb d_M_learn_106 rfl rfl ?_
      refine va_iald hx hb hK hP 2 0 rfl rfl (vp_in_nI (n := 1) (by decide) (by decide)) d_M_learn_107 ?_
      refine tpi (y := nI (ct / 2)) (pk_us) ?_
      refine lv_iconst (v := 1) hx hb d_M_learn_108 (by decide) ?_
      refine lv_iadd hx hb d_M_learn_109 ?_
      refine tpi (y := nI (ct / 2 + 1)) (nI_1 _) ?_
      refine va_iast hx hb hK hP hD hS 2 0 rfl rfl (vp_in_nI (n := 1) (by decide) (by decide)) d_M_learn_110 (fun H locs hP hD hS => ?_)
      rw [show (1 : Int32).toNatClampNeg = 1 from rfl, updd] at hP hD
      have hP : va_P D CLS [(y, .inr (5, [.int th, .int (nI bi), .int (nI ne), .int (nI li), .int (nI sp), .int (nI q), .ref ms, .ref mw, .ref mu, .ref mc, .ref mn, .int en, .int (nI sz), .ref mr, .int (nI wa), .ref mq, .int la, .ref md, .int at0, .int lk])), (mu, .inl (cI, 4, .inl (upd su 1 (nI ((sm + (N + 1 - 1) / 2) / 2))))), (mc, .inl (cI, 4, .inl (upd cu 1 (nI (ct / 2 + 1))))), (mn, .inl (cI, 4, .inl (upd nu 1 (nI ((ng + 1) / 2)))))] H := hP
      have hD : va_D A [(y, .inr (5, [.int th, .int (nI bi), .int (nI ne), .int (nI li), .int (nI sp), .int (nI q), .ref ms, .ref mw, .ref mu, .ref mc, .ref mn, .int en, .int (nI sz), .ref mr, .int (nI wa), .ref mq, .int la, .ref md, .int at0, .int lk])), (mu, .inl (cI, 4, .inl (upd su 1 (nI ((sm + (N + 1 - 1) / 2) / 2))))), (mc, .inl (cI, 4, .inl (upd cu 1 (nI (ct / 2 + 1))))), (mn, .inl (cI, 4, .inl (upd nu 1 (nI ((ng + 1) / 2)))))] := hD
      exact W.vret hx hb hr (fun t ht hW => ⟨rfl, by rw [ht]; exact (by rw [show hvd ct (sm + (N + 1 - 1) / 2) = (sm + (N + 1 - 1) / 2) / 2 from if_pos h2, show hvd ct ct = ct / 2 from if_pos h2, show hvd ct (ng + 1) = (ng + 1) / 2 from if_pos h2]; exact hP), (hAe ▸ hS).F ht⟩) (hAe ▸ hS).2.2 d_M_learn_111
set_option maxHeartbeats 4000000 in
set_option maxRecDepth 100000 in
theorem c_M_learn2P (l : Launch) (D : va_G) (y ms mw mu mc mn mr mq md bi ne li sp q sz wa : Nat) (th en la at0 lk : Int32) (cI : ClassId) (su cu nu : Nat → Int32) (sm ct ng n N : Nat) (hsu : su 2 = nI sm) (hcu : cu 2 = nI ct) (hnu : nu 2 = nI ng) (hc0 : ct ≤ 64) (hn0 : ng ≤ 64) (hs0 : sm < 2 ^ 29) (hN : N < 2 ^ 29) (hn : n < 2 ^ 30) : Met l y_M_learn (WSY y_M_learn b_M_learn 5 none) ({ frames := 0, cells := 0, slots := 0, locals := 0 }) (va_Pc [.ref y, .int 2, .int 0, .int (nI N), .int (nI n)] (fun U => va_P D CLS [(y, .inr (5, [.int th, .int (nI bi), .int (nI ne), .int (nI li), .int (nI sp), .int (nI q), .ref ms, .ref mw, .ref mu, .ref mc, .ref mn, .int en, .int (nI sz), .ref mr, .int (nI wa), .ref mq, .int la, .ref md, .int at0, .int lk])), (mu, .inl (cI, 4, .inl su)), (mc, .inl (cI, 4, .inl cu)), (mn, .inl (cI, 4, .inl nu))] U.heap ∧ va_K D CLS [(cI, .int)] U ∧ va_D (fun _ => True) [(y, .inr (5, [.int th, .int (nI bi), .int (nI ne), .int (nI li), .int (nI sp), .int (nI q), .ref ms, .ref mw, .ref mu, .ref mc, .ref mn, .int en, .int (nI sz), .ref mr, .int (nI wa), .ref mq, .int la, .ref md, .int at0, .int lk])), (mu, .inl (cI, 4, .inl su)), (mc, .inl (cI, 4, .inl cu)), (mn, .inl (cI, 4, .inl nu))])) (QM none [(y, .inr (5, [.int th, .int (nI bi), .int (nI ne), .int (nI li), .int (nI sp), .int (nI q), .ref ms, .ref mw, .ref mu, .ref mc, .ref mn, .int en, .int (nI sz), .ref mr, .int (nI wa), .ref mq, .int la, .ref md, .int at0, .int lk])), (mu, .inl (cI, 4, .inl su)), (mc, .inl (cI, 4, .inl cu)), (mn, .inl (cI, 4, .inl nu))] [(y, .inr (5, [.int th, .int (nI bi), .int (nI ne), .int (nI li), .int (nI sp), .int (nI q), .ref ms, .ref mw, .ref mu, .ref mc, .ref mn, .int en, .int (nI sz), .ref mr, .int (nI wa), .ref mq, .int la, .ref md, .int at0, .int lk])), (mu, .inl (cI, 4, .inl (upd su 2 (nI (hvd ct (sm + (N + 1 - 0) / 2)))))), (mc, .inl (cI, 4, .inl (upd cu 2 (nI (hvd ct ct + 1))))), (mn, .inl (cI, 4, .inl (upd nu 2 (nI (hvd ct ng)))))] D) 0 0 (ad [(y, .inr (5, [.int th, .int (nI bi), .int (nI ne), .int (nI li), .int (nI sp), .int (nI q), .ref ms, .ref mw, .ref mu, .ref mc, .ref mn, .int en, .int (nI sz), .ref mr, .int (nI wa), .ref mq, .int la, .ref md, .int at0, .int lk])), (mu, .inl (cI, 4, .inl su)), (mc, .inl (cI, 4, .inl cu)), (mn, .inl (cI, 4, .inl nu))]) := by
  refine Met.ofW (cc := b_M_learn) (maxL := 5) (ret := none) (by decide) rfl ?_
  intro p e s m args below meth c s₁ B hml hv
  obtain ⟨rfl, hP, hK, hD0⟩ := hv
  have hx := B.exec
  have hb := B.bytes
  have hr := B.returns
  have hts := atoms_spec (ws := WSY y_M_learn b_M_learn 5 none) B.pre
  have hg : ∀ w ∈ GW, w.before _ s = true := fun w h => hts w (List.mem_cons_of_mem _ h)
  have hown : s.vm.findClass "LineGolombModel" = some m.cls := findClass_of_methodNamed B.named
  have hlocks := B.notSynchronized
  obtain ⟨A, hAe⟩ : ∃ A, A = ad [(y, .inr (5, [.int th, .int (nI bi), .int (nI ne), .int (nI li), .int (nI sp), .int (nI q), .ref ms, .ref mw, .ref mu, .ref mc, .ref mn, .int en, .int (nI sz), .ref mr, .int (nI wa), .ref mq, .int la, .ref md, .int at0, .int lk])), (mu, .inl (cI, 4, .inl su)), (mc, .inl (cI, 4, .inl cu)), (mn, .inl (cI, 4, .inl nu))] := ⟨_, rfl⟩
  have hD : va_D A [(y, .inr (5, [.int th, .int (nI bi), .int (nI ne), .int (nI li), .int (nI sp), .int (nI q), .ref ms, .ref mw, .ref mu, .ref mc, .ref mn, .int en, .int (nI sz), .ref mr, .int (nI wa), .ref mq, .int la, .ref md, .int at0, .int lk])), (mu, .inl (cI, 4, .inl su)), (mc, .inl (cI, 4, .inl cu)), (mn, .inl (cI, 4, .inl nu))] := by rw [hAe]; exact va_D_ad hD0
  have hS : va_S A s.heap s.heap [] := va_S.rf
  have hl := lv_entry ([.ref y, .int 2, .int 0, .int (nI N), .int (nI n)]) (n := 5) (Nat.le_of_ble_eq_true rfl)
  rw [lg_entry_eq]
  generalize (lg_sl ([.ref y, .int 2, .int 0, .int (nI N), .int (nI n)]) ++ List.replicate (5 - (lg_sl ([.ref y, .int 2, .int 0, .int (nI N), .int (nI n)])).length) Slot.unset).toArray = ls at hl ⊢
  have hl : lv_has ls 5 [(0, .ref y), (1, .int 2), (2, .int 0), (3, .int (nI N)), (4, .int (nI n))] := hl
  refine lv_aload_n hx hb d_M_learn_0 rfl (lv_at hl 0 rfl) ?_
  refine va_get (D := D) (ci := 5) (v := .ref mn) (C := R_M) (T := T_M) (N := 20) hx hb hg in_M hown hK hP 0 rfl rfl 10 (by decide) (hg _ gw_534) (fun _ h9 => h9) rfl d_M_learn_1 ?_
  refine lv_iload_n hx hb d_M_learn_4 rfl (lv_at hl 1 rfl) ?_
  refine lv_iload hx hb d_M_learn_5 (lv_at hl 4 rfl) ?_
  refine lv_if_ge (tgt := 21) hx hb d_M_learn_7 (by decide) (fun c_1 => ?_) (fun c_1 => ?_)
  · skip
    refine lv_aload_n hx hb d_M_learn_21 rfl (lv_at hl 0 rfl) ?_
    refine va_get (D := D) (ci := 5) (v := .ref mn) (C := R_M) (T := T_M) (N := 20) hx hb hg in_M hown hK hP 0 rfl rfl 10 (by decide) (hg _ gw_534) (fun _ h9 => h9) rfl d_M_learn_22 ?_
    refine lv_iload_n hx hb d_M_learn_25 rfl (lv_at hl 1 rfl) ?_
    refine va_iald hx hb hK hP 3 0 rfl rfl (vp_in_nI (n := 2) (by decide) (by decide)) d_M_learn_26 ?_
    refine tpi (y := nI ng) (hnu) ?_
    refine va_iast hx hb hK hP hD hS 3 0 rfl rfl (vp_in_nI (n := 2) (by decide) (by decide)) d_M_learn_27 (fun H locs hP hD hS => ?_)
    rw [show (2 : Int32).toNatClampNeg = 2 from rfl] at hP hD
    have hP : va_P D CLS [(y, .inr (5, [.int th, .int (nI bi), .int (nI ne), .int (nI li), .int (nI sp), .int (nI q), .ref ms, .ref mw, .ref mu, .ref mc, .ref mn, .int en, .int (nI sz), .ref mr, .int (nI wa), .ref mq, .int la, .ref md, .int at0, .int lk])), (mu, .inl (cI, 4, .inl su)), (mc, .inl (cI, 4, .inl cu)), (mn, .inl (cI, 4, .inl (upd nu 2 (nI ng))))] H := hP
    have hD : va_D A [(y, .inr (5, [.int th, .int (nI bi), .int (nI ne), .int (nI li), .int (nI sp), .int (nI q), .ref ms, .ref mw, .ref mu, .ref mc, .ref mn, .int en, .int (nI sz), .ref mr, .int (nI wa), .ref mq, .int la, .ref md, .int at0, .int lk])), (mu, .inl (cI, 4, .inl su)), (mc, .inl (cI, 4, .inl cu)), (mn, .inl (cI, 4, .inl (upd nu 2 (nI ng))))] := hD
    refine lv_aload_n hx hb d_M_learn_28 rfl (lv_at hl 0 rfl) ?_
    refine va_get (D := D) (ci := 5) (v := .ref mu) (C := R_M) (T := T_M) (N := 20) hx hb hg in_M hown hK hP 0 rfl rfl 8 (by decide) (hg _ gw_532) (fun _ h9 => h9) rfl d_M_learn_29 ?_
    refine lv_iload_n hx hb d_M_learn_32 rfl (lv_at hl 1 rfl) ?_
    refine lv_aload_n hx hb d_M_learn_33 rfl (lv_at hl 0 rfl) ?_
    refine va_get (D := D) (ci := 5) (v := .ref mu) (C := R_M) (T := T_M) (N := 20) hx hb hg in_M hown hK hP 0 rfl rfl 8 (by decide) (hg _ gw_532) (fun _ h9 => h9) rfl d_M_learn_34 ?_
    refine lv_iload_n hx hb d_M_learn_37 rfl (lv_at hl 1 rfl) ?_
    refine va_iald hx hb hK hP 1 0 rfl rfl (vp_in_nI (n := 2) (by decide) (by decide)) d_M_learn_38 ?_
    refine tpi (y := nI sm) (hsu) ?_
    refine lv_iload_n hx hb d_M_learn_39 rfl (lv_at hl 3 rfl) ?_
    refine lv_iconst (v := 1) hx hb d_M_learn_40 (by decide) ?_
    refine lv_iadd hx hb d_M_learn_41 ?_
    refine tpi (y := nI (N + 1)) (nI_1 N) ?_
    refine lv_iload_n hx hb d_M_learn_42 rfl (lv_at hl 2 rfl) ?_
    refine lv_isub hx hb d_M_learn_43 ?_
    refine tpi (y := nI (N + 1 - 0)) (pk_sub (b := 0) (by omega)) ?_
    refine lv_iconst (v := 2) hx hb d_M_learn_44 (by decide) ?_
    refine lv_idiv hx hb d_M_learn_45 (by decide) ?_
    refine tpi (y := nI ((N + 1 - 0) / 2)) (div2 (by omega)) ?_
    refine lv_iadd hx hb d_M_learn_46 ?_
    refine tpi (y := nI (sm + (N + 1 - 0) / 2)) (nI_add _ _) ?_
    refine va_iast hx hb hK hP hD hS 1 0 rfl rfl (vp_in_nI (n := 2) (by decide) (by decide)) d_M_learn_47 (fun H locs hP hD hS => ?_)
    rw [show (2 : Int32).toNatClampNeg = 2 from rfl] at hP hD
    have hP : va_P D CLS [(y, .inr (5, [.int th, .int (nI bi), .int (nI ne), .int (nI li), .int (nI sp), .int (nI q), .ref ms, .ref mw, .ref mu, .ref mc, .ref mn, .int en, .int (nI sz), .ref mr, .int (nI wa), .ref mq, .int la, .ref md, .int at0, .int lk])), (mu, .inl (cI, 4, .inl (upd su 2 (nI (sm + (N + 1 - 0) / 2))))), (mc, .inl (cI, 4, .inl cu)), (mn, .inl (cI, 4, .inl (upd nu 2 (nI ng))))] H := hP
    have hD : va_D A [(y, .inr (5, [.int th, .int (nI bi), .int (nI ne), .int (nI li), .int (nI sp), .int (nI q), .ref ms, .ref mw, .ref mu, .ref mc, .ref mn, .int en, .int (nI sz), .ref mr, .int (nI wa), .ref mq, .int la, .ref md, .int at0, .int lk])), (mu, .inl (cI, 4, .inl (upd su 2 (nI (sm + (N + 1 - 0) / 2))))), (mc, .inl (cI, 4, .inl cu)), (mn, .inl (cI, 4, .inl (upd nu 2 (nI ng))))] := hD
    refine lv_aload_n hx hb d_M_learn_48 rfl (lv_at hl 0 rfl) ?_
    refine va_get (D := D) (ci := 5) (v := .ref mc) (C := R_M) (T := T_M) (N := 20) hx hb hg in_M hown hK hP 0 rfl rfl 9 (by decide) (hg _ gw_533) (fun _ h9 => h9) rfl d_M_learn_49 ?_
    refine lv_iload_n hx hb d_M_learn_52 rfl (lv_at hl 1 rfl) ?_
    refine va_iald hx hb hK hP 2 0 rfl rfl (vp_in_nI (n := 2) (by decide) (by decide)) d_M_learn_53 ?_
    refine tpi (y := nI ct) (hcu) ?_
    refine lv_bipush (v := 64) hx hb d_M_learn_54 (by decide) ?_
    refine lv_icmp_ne (tgt := 101) hx hb d_M_learn_56 (by decide) (fun c_2 => ?_) (fun c_2 => ?_)
    · skip
      have h2 : ¬ ct = 64 := fun z => c_2 (by rw [z]; rfl)
      refine lv_aload_n hx hb d_M_learn_101 rfl (lv_at hl 0 rfl) ?_
      refine va_get (D := D) (ci := 5) (v := .ref mc) (C := R_M) (T := T_M) (N := 20) hx hb hg in_M hown hK hP 0 rfl rfl 9 (by decide) (hg _ gw_533) (fun _ h9 => h9) rfl d_M_learn_102 ?_
      refine lv_iload_n hx hb d_M_learn_105 rfl (lv_at hl 1 rfl) ?_
      refine lv_dup2_11 hx hb d_M_learn_106 rfl rfl ?_
      refine va_iald hx hb hK hP 2 0 rfl rfl (vp_in_nI (n := 2) (by decide) (by decide)) d_M_learn_107 ?_
      refine tpi (y := nI ct) (hcu) ?_
      refine lv_iconst (v := 1) hx hb d_M_learn_108 (by decide) ?_
      refine lv_iadd hx hb d_M_learn_109 ?_
      refine tpi (y := nI (hvd ct ct + 1)) (by rw [show hvd ct ct = ct from if_neg h2]; exact nI_1 ct) ?_
      refine va_iast hx hb hK hP hD hS 2 0 rfl rfl (vp_in_nI (n := 2) (by decide) (by decide)) d_M_learn_110 (fun H locs hP hD hS => ?_)
      rw [show (2 : Int32).toNatClampNeg = 2 from rfl] at hP hD
      have hP : va_P D CLS [(y, .inr (5, [.int th, .int (nI bi), .int (nI ne), .int (nI li), .int (nI sp), .int (nI q), .ref ms, .ref mw, .ref mu, .ref mc, .ref mn, .int en, .int (nI sz), .ref mr, .int (nI wa), .ref mq, .int la, .ref md, .int at0, .int lk])), (mu, .inl (cI, 4, .inl (upd su 2 (nI (sm + (N + 1 - 0) / 2))))), (mc, .inl (cI, 4, .inl (upd cu 2 (nI (hvd ct ct + 1))))), (mn, .inl (cI, 4, .inl (upd nu 2 (nI ng))))] H := hP
      have hD : va_D A [(y, .inr (5, [.int th, .int (nI bi), .int (nI ne), .int (nI li), .int (nI sp), .int (nI q), .ref ms, .ref mw, .ref mu, .ref mc, .ref mn, .int en, .int (nI sz), .ref mr, .int (nI wa), .ref mq, .int la, .ref md, .int at0, .int lk])), (mu, .inl (cI, 4, .inl (upd su 2 (nI (sm + (N + 1 - 0) / 2))))), (mc, .inl (cI, 4, .inl (upd cu 2 (nI (hvd ct ct + 1))))), (mn, .inl (cI, 4, .inl (upd nu 2 (nI ng))))] := hD
      exact W.vret hx hb hr (fun t ht hW => ⟨rfl, by rw [ht]; exact (by rw [show hvd ct (sm + (N + 1 - 0) / 2) = sm + (N + 1 - 0) / 2 from if_neg h2, show hvd ct ng = ng from if_neg h2]; exact hP), (hAe ▸ hS).F ht⟩) (hAe ▸ hS).2.2 d_M_learn_111
    · skip
      have h2 : ct = 64 := (nI_eq (b := 64) (by omega) (by omega)).mp c_2
      refine lv_aload_n hx hb d_M_learn_59 rfl (lv_at hl 0 rfl) ?_
      refine va_get (D := D) (ci := 5) (v := .ref mu) (C := R_M) (T := T_M) (N := 20) hx hb hg in_M hown hK hP 0 rfl rfl 8 (by decide) (hg _ gw_532) (fun _ h9 => h9) rfl d_M_learn_60 ?_
      refine lv_iload_n hx hb d_M_learn_63 rfl (lv_at hl 1 rfl) ?_
      refine lv_aload_n hx hb d_M_learn_64 rfl (lv_at hl 0 rfl) ?_
      refine va_get (D := D) (ci := 5) (v := .ref mu) (C := R_M) (T := T_M) (N := 20) hx hb hg in_M hown hK hP 0 rfl rfl 8 (by decide) (hg _ gw_532) (fun _ h9 => h9) rfl d_M_learn_65 ?_
      refine lv_iload_n hx hb d_M_learn_68 rfl (lv_at hl 1 rfl) ?_
      refine va_iald hx hb hK hP 1 0 rfl rfl (vp_in_nI (n := 2) (by decide) (by decide)) d_M_learn_69 ?_
      refine tpi (y := nI (sm + (N + 1 - 0) / 2)) (pk_us) ?_
      refine lv_iconst (v := 2) hx hb d_M_learn_70 (by decide) ?_
      refine lv_idiv hx hb d_M_learn_71 (by decide) ?_
      refine tpi (y := nI ((sm + (N + 1 - 0) / 2) / 2)) (div2 (by omega)) ?_
      refine va_iast hx hb hK hP hD hS 1 0 rfl rfl (vp_in_nI (n := 2) (by decide) (by decide)) d_M_learn_72 (fun H locs hP hD hS => ?_)
      rw [show (2 : Int32).toNatClampNeg = 2 from rfl, updd] at hP hD
      have hP : va_P D CLS [(y, .inr (5, [.int th, .int (nI bi), .int (nI ne), .int (nI li), .int (nI sp), .int (nI q), .ref ms, .ref mw, .ref mu, .ref mc, .ref mn, .int en, .int (nI sz), .ref mr, .int (nI wa), .ref mq, .int la, .ref md, .int at0, .int lk])), (mu, .inl (cI, 4, .inl (upd su 2 (nI ((sm + (N + 1 - 0) / 2) / 2))))), (mc, .inl (cI, 4, .inl cu)), (mn, .inl (cI, 4, .inl (upd nu 2 (nI ng))))] H := hP
      have hD : va_D A [(y, .inr (5, [.int th, .int (nI bi), .int (nI ne), .int (nI li), .int (nI sp), .int (nI q), .ref ms, .ref mw, .ref mu, .ref mc, .ref mn, .int en, .int (nI sz), .ref mr, .int (nI wa), .ref mq, .int la, .ref md, .int at0, .int lk])), (mu, .inl (cI, 4, .inl (upd su 2 (nI ((sm + (N + 1 - 0) / 2) / 2))))), (mc, .inl (cI, 4, .inl cu)), (mn, .inl (cI, 4, .inl (upd nu 2 (nI ng))))] := hD
      refine lv_aload_n hx hb d_M_learn_73 rfl (lv_at hl 0 rfl) ?_
      refine va_get (D := D) (ci := 5) (v := .ref mc) (C := R_M) (T := T_M) (N := 20) hx hb hg in_M hown hK hP 0 rfl rfl 9 (by decide) (hg _ gw_533) (fun _ h9 => h9) rfl d_M_learn_74 ?_
      refine lv_iload_n hx hb d_M_learn_77 rfl (lv_at hl 1 rfl) ?_
      refine lv_aload_n hx hb d_M_learn_78 rfl (lv_at hl 0 rfl) ?_
      refine va_get (D := D) (ci := 5) (v := .ref mc) (C := R_M) (T := T_M) (N := 20) hx hb hg in_M hown hK hP 0 rfl rfl 9 (by decide) (hg _ gw_533) (fun _ h9 => h9) rfl d_M_learn_79 ?_
      refine lv_iload_n hx hb d_M_learn_82 rfl (lv_at hl 1 rfl) ?_
      refine va_iald hx hb hK hP 2 0 rfl rfl (vp_in_nI (n := 2) (by decide) (by decide)) d_M_learn_83 ?_
      refine tpi (y := nI ct) (hcu) ?_
      refine lv_iconst (v := 2) hx hb d_M_learn_84 (by decide) ?_
      refine lv_idiv hx hb d_M_learn_85 (by decide) ?_
      refine tpi (y := nI (ct / 2)) (div2 (by omega)) ?_
      refine va_iast hx hb hK hP hD hS 2 0 rfl rfl (vp_in_nI (n := 2) (by decide) (by decide)) d_M_learn_86 (fun H locs hP hD hS => ?_)
      rw [show (2 : Int32).toNatClampNeg = 2 from rfl] at hP hD
      have hP : va_P D CLS [(y, .inr (5, [.int th, .int (nI bi), .int (nI ne), .int (nI li), .int (nI sp), .int (nI q), .ref ms, .ref mw, .ref mu, .ref mc, .ref mn, .int en, .int (nI sz), .ref mr, .int (nI wa), .ref mq, .int la, .ref md, .int at0, .int lk])), (mu, .inl (cI, 4, .inl (upd su 2 (nI ((sm + (N + 1 - 0) / 2) / 2))))), (mc, .inl (cI, 4, .inl (upd cu 2 (nI (ct / 2))))), (mn, .inl (cI, 4, .inl (upd nu 2 (nI ng))))] H := hP
      have hD : va_D A [(y, .inr (5, [.int th, .int (nI bi), .int (nI ne), .int (nI li), .int (nI sp), .int (nI q), .ref ms, .ref mw, .ref mu, .ref mc, .ref mn, .int en, .int (nI sz), .ref mr, .int (nI wa), .ref mq, .int la, .ref md, .int at0, .int lk])), (mu, .inl (cI, 4, .inl (upd su 2 (nI ((sm + (N + 1 - 0) / 2) / 2))))), (mc, .inl (cI, 4, .inl (upd cu 2 (nI (ct / 2))))), (mn, .inl (cI, 4, .inl (upd nu 2 (nI ng))))] := hD
      refine lv_aload_n hx hb d_M_learn_87 rfl (lv_at hl 0 rfl) ?_
      refine va_get (D := D) (ci := 5) (v := .ref mn) (C := R_M) (T := T_M) (N := 20) hx hb hg in_M hown hK hP 0 rfl rfl 10 (by decide) (hg _ gw_534) (fun _ h9 => h9) rfl d_M_learn_88 ?_
      refine lv_iload_n hx hb d_M_learn_91 rfl (lv_at hl 1 rfl) ?_
      refine lv_aload_n hx hb d_M_learn_92 rfl (lv_at hl 0 rfl) ?_
      refine va_get (D := D) (ci := 5) (v := .ref mn) (C := R_M) (T := T_M) (N := 20) hx hb hg in_M hown hK hP 0 rfl rfl 10 (by decide) (hg _ gw_534) (fun _ h9 => h9) rfl d_M_learn_93 ?_
      refine lv_iload_n hx hb d_M_learn_96 rfl (lv_at hl 1 rfl) ?_
      refine va_iald hx hb hK hP 3 0 rfl rfl (vp_in_nI (n := 2) (by decide) (by decide)) d_M_learn_97 ?_
      refine tpi (y := nI ng) (pk_us) ?_
      refine lv_iconst (v := 2) hx hb d_M_learn_98 (by decide) ?_
      refine lv_idiv hx hb d_M_learn_99 (by decide) ?_
      refine tpi (y := nI (ng / 2)) (div2 (by omega)) ?_
      refine va_iast hx hb hK hP hD hS 3 0 rfl rfl (vp_in_nI (n := 2) (by decide) (by decide)) d_M_learn_100 (fun H locs hP hD hS => ?_)
      rw [show (2 : Int32).toNatClampNeg = 2 from rfl, updd] at hP hD
      have hP : va_P D CLS [(y, .inr (5, [.int th, .int (nI bi), .int (nI ne), .int (nI li), .int (nI sp), .int (nI q), .ref ms, .ref mw, .ref mu, .ref mc, .ref mn, .int en, .int (nI sz), .ref mr, .int (nI wa), .ref mq, .int la, .ref md, .int at0, .int lk])), (mu, .inl (cI, 4, .inl (upd su 2 (nI ((sm + (N + 1 - 0) / 2) / 2))))), (mc, .inl (cI, 4, .inl (upd cu 2 (nI (ct / 2))))), (mn, .inl (cI, 4, .inl (upd nu 2 (nI (ng / 2)))))] H := hP
      have hD : va_D A [(y, .inr (5, [.int th, .int (nI bi), .int (nI ne), .int (nI li), .int (nI sp), .int (nI q), .ref ms, .ref mw, .ref mu, .ref mc, .ref mn, .int en, .int (nI sz), .ref mr, .int (nI wa), .ref mq, .int la, .ref md, .int at0, .int lk])), (mu, .inl (cI, 4, .inl (upd su 2 (nI ((sm + (N + 1 - 0) / 2) / 2))))), (mc, .inl (cI, 4, .inl (upd cu 2 (nI (ct / 2))))), (mn, .inl (cI, 4, .inl (upd nu 2 (nI (ng / 2)))))] := hD
      refine lv_aload_n hx hb d_M_learn_101 rfl (lv_at hl 0 rfl) ?_
      refine va_get (D := D) (ci := 5) (v := .ref mc) (C := R_M) (T := T_M) (N := 20) hx hb hg in_M hown hK hP 0 rfl rfl 9 (by decide) (hg _ gw_533) (fun _ h9 => h9) rfl d_M_learn_102 ?_
      refine lv_iload_n hx hb d_M_learn_105 rfl (lv_at hl 1 rfl) ?_
      refine lv_dup2_11 hx hb d_M_learn_106 rfl rfl ?_
      refine va_iald hx hb hK hP 2 0 rfl rfl (vp_in_nI (n := 2) (by decide) (by decide)) d_M_learn_107 ?_
      refine tpi (y := nI (ct / 2)) (pk_us) ?_
      refine lv_iconst (v := 1) hx hb d_M_learn_108 (by decide) ?_
      refine lv_iadd hx hb d_M_learn_109 ?_
      refine tpi (y := nI (ct / 2 + 1)) (nI_1 _) ?_
      refine va_iast hx hb hK hP hD hS 2 0 rfl rfl (vp_in_nI (n := 2) (by decide) (by decide)) d_M_learn_110 (fun H locs hP hD hS => ?_)
      rw [show (2 : Int32).toNatClampNeg = 2 from rfl, updd] at hP hD
      have hP : va_P D CLS [(y, .inr (5, [.int th, .int (nI bi), .int (nI ne), .int (nI li), .int (nI sp), .int (nI q), .ref ms, .ref mw, .ref mu, .ref mc, .ref mn, .int en, .int (nI sz), .ref mr, .int (nI wa), .ref mq, .int la, .ref md, .int at0, .int lk])), (mu, .inl (cI, 4, .inl (upd su 2 (nI ((sm + (N + 1 - 0) / 2) / 2))))), (mc, .inl (cI, 4, .inl (upd cu 2 (nI (ct / 2 + 1))))), (mn, .inl (cI, 4, .inl (upd nu 2 (nI (ng / 2)))))] H := hP
      have hD : va_D A [(y, .inr (5, [.int th, .int (nI bi), .int (nI ne), .int (nI li), .int (nI sp), .int (nI q), .ref ms, .ref mw, .ref mu, .ref mc, .ref mn, .int en, .int (nI sz), .ref mr, .int (nI wa), .ref mq, .int la, .ref md, .int at0, .int lk])), (mu, .inl (cI, 4, .inl (upd su 2 (nI ((sm + (N + 1 - 0) / 2) / 2))))), (mc, .inl (cI, 4, .inl (upd cu 2 (nI (ct / 2 + 1))))), (mn, .inl (cI, 4, .inl (upd nu 2 (nI (ng / 2)))))] := hD
      exact W.vret hx hb hr (fun t ht hW => ⟨rfl, by rw [ht]; exact (by rw [show hvd ct (sm + (N + 1 - 0) / 2) = (sm + (N + 1 - 0) / 2) / 2 from if_pos h2, show hvd ct ct = ct / 2 from if_pos h2, show hvd ct ng = ng / 2 from if_pos h2]; exact hP), (hAe ▸ hS).F ht⟩) (hAe ▸ hS).2.2 d_M_learn_111
  · skip
    exact absurd (nI_pos' (by omega)) c_1
set_option maxHeartbeats 4000000 in
set_option maxRecDepth 100000 in
theorem c_M_learn2N (l : Launch) (D : va_G) (y ms mw mu mc mn mr mq md bi ne li sp q sz wa : Nat) (th en la at0 lk : Int32) (cI : ClassId) (su cu nu : Nat → Int32) (sm ct ng n N : Nat) (hsu : su 2 = nI sm) (hcu : cu 2 = nI ct) (hnu : nu 2 = nI ng) (hc0 : ct ≤ 64) (hn0 : ng ≤ 64) (hs0 : sm < 2 ^ 29) (hN : N < 2 ^ 29) (hn : n < 2 ^ 30) (hn1 : 0 < n) : Met l y_M_learn (WSY y_M_learn b_M_learn 5 none) ({ frames := 0, cells := 0, slots := 0, locals := 0 }) (va_Pc [.ref y, .int 2, .int 0, .int (nI N), .int (-nI n)] (fun U => va_P D CLS [(y, .inr (5, [.int th, .int (nI bi), .int (nI ne), .int (nI li), .int (nI sp), .int (nI q), .ref ms, .ref mw, .ref mu, .ref mc, .ref mn, .int en, .int (nI sz), .ref mr, .int (nI wa), .ref mq, .int la, .ref md, .int at0, .int lk])), (mu, .inl (cI, 4, .inl su)), (mc, .inl (cI, 4, .inl cu)), (mn, .inl (cI, 4, .inl nu))] U.heap ∧ va_K D CLS [(cI, .int)] U ∧ va_D (fun _ => True) [(y, .inr (5, [.int th, .int (nI bi), .int (nI ne), .int (nI li), .int (nI sp), .int (nI q), .ref ms, .ref mw, .ref mu, .ref mc, .ref mn, .int en, .int (nI sz), .ref mr, .int (nI wa), .ref mq, .int la, .ref md, .int at0, .int lk])), (mu, .inl (cI, 4, .inl su)), (mc, .inl (cI, 4, .inl cu)), (mn, .inl (cI, 4, .inl nu))])) (QM none [(y, .inr (5, [.int th, .int (nI bi), .int (nI ne), .int (nI li), .int (nI sp), .int (nI q), .ref ms, .ref mw, .ref mu, .ref mc, .ref mn, .int en, .int (nI sz), .ref mr, .int (nI wa), .ref mq, .int la, .ref md, .int at0, .int lk])), (mu, .inl (cI, 4, .inl su)), (mc, .inl (cI, 4, .inl cu)), (mn, .inl (cI, 4, .inl nu))] [(y, .inr (5, [.int th, .int (nI bi), .int (nI ne), .int (nI li), .int (nI sp), .int (nI q), .ref ms, .ref mw, .ref mu, .ref mc, .ref mn, .int en, .int (nI sz), .ref mr, .int (nI wa), .ref mq, .int la, .ref md, .int at0, .int lk])), (mu, .inl (cI, 4, .inl (upd su 2 (nI (hvd ct (sm + (N + 1 - 0) / 2)))))), (mc, .inl (cI, 4, .inl (upd cu 2 (nI (hvd ct ct + 1))))), (mn, .inl (cI, 4, .inl (upd nu 2 (nI (hvd ct (ng + 1))))))] D) 0 0 (ad [(y, .inr (5, [.int th, .int (nI bi), .int (nI ne), .int (nI li), .int (nI sp), .int (nI q), .ref ms, .ref mw, .ref mu, .ref mc, .ref mn, .int en, .int (nI sz), .ref mr, .int (nI wa), .ref mq, .int la, .ref md, .int at0, .int lk])), (mu, .inl (cI, 4, .inl su)), (mc, .inl (cI, 4, .inl cu)), (mn, .inl (cI, 4, .inl nu))]) := by
  refine Met.ofW (cc := b_M_learn) (maxL := 5) (ret := none) (by decide) rfl ?_
  intro p e s m args below meth c s₁ B hml hv
  obtain ⟨rfl, hP, hK, hD0⟩ := hv
  have hx := B.exec
  have hb := B.bytes
  have hr := B.returns
  have hts := atoms_spec (ws := WSY y_M_learn b_M_learn 5 none) B.pre
  have hg : ∀ w ∈ GW, w.before _ s = true := fun w h => hts w (List.mem_cons_of_mem _ h)
  have hown : s.vm.findClass "LineGolombModel" = some m.cls := findClass_of_methodNamed B.named
  have hlocks := B.notSynchronized
  obtain ⟨A, hAe⟩ : ∃ A, A = ad [(y, .inr (5, [.int th, .int (nI bi), .int (nI ne), .int (nI li), .int (nI sp), .int (nI q), .ref ms, .ref mw, .ref mu, .ref mc, .ref mn, .int en, .int (nI sz), .ref mr, .int (nI wa), .ref mq, .int la, .ref md, .int at0, .int lk])), (mu, .inl (cI, 4, .inl su)), (mc, .inl (cI, 4, .inl cu)), (mn, .inl (cI, 4, .inl nu))] := ⟨_, rfl⟩
  have hD : va_D A [(y, .inr (5, [.int th, .int (nI bi), .int (nI ne), .int (nI li), .int (nI sp), .int (nI q), .ref ms, .ref mw, .ref mu, .ref mc, .ref mn, .int en, .int (nI sz), .ref mr, .int (nI wa), .ref mq, .int la, .ref md, .int at0, .int lk])), (mu, .inl (cI, 4, .inl su)), (mc, .inl (cI, 4, .inl cu)), (mn, .inl (cI, 4, .inl nu))] := by rw [hAe]; exact va_D_ad hD0
  have hS : va_S A s.heap s.heap [] := va_S.rf
  have hl := lv_entry ([.ref y, .int 2, .int 0, .int (nI N), .int (-nI n)]) (n := 5) (Nat.le_of_ble_eq_true rfl)
  rw [lg_entry_eq]
  generalize (lg_sl ([.ref y, .int 2, .int 0, .int (nI N), .int (-nI n)]) ++ List.replicate (5 - (lg_sl ([.ref y, .int 2, .int 0, .int (nI N), .int (-nI n)])).length) Slot.unset).toArray = ls at hl ⊢
  have hl : lv_has ls 5 [(0, .ref y), (1, .int 2), (2, .int 0), (3, .int (nI N)), (4, .int (-nI n))] := hl
  refine lv_aload_n hx hb d_M_learn_0 rfl (lv_at hl 0 rfl) ?_
  refine va_get (D := D) (ci := 5) (v := .ref mn) (C := R_M) (T := T_M) (N := 20) hx hb hg in_M hown hK hP 0 rfl rfl 10 (by decide) (hg _ gw_534) (fun _ h9 => h9) rfl d_M_learn_1 ?_
  refine lv_iload_n hx hb d_M_learn_4 rfl (lv_at hl 1 rfl) ?_
  refine lv_iload hx hb d_M_learn_5 (lv_at hl 4 rfl) ?_
  refine lv_if_ge (tgt := 21) hx hb d_M_learn_7 (by decide) (fun c_1 => ?_) (fun c_1 => ?_)
  · skip
    exact absurd c_1 (by rw [leT, ngT (by omega), zT]; omega)
  · skip
    refine lv_aload_n hx hb d_M_learn_10 rfl (lv_at hl 0 rfl) ?_
    refine va_get (D := D) (ci := 5) (v := .ref mn) (C := R_M) (T := T_M) (N := 20) hx hb hg in_M hown hK hP 0 rfl rfl 10 (by decide) (hg _ gw_534) (fun _ h9 => h9) rfl d_M_learn_11 ?_
    refine lv_iload_n hx hb d_M_learn_14 rfl (lv_at hl 1 rfl) ?_
    refine va_iald hx hb hK hP 3 0 rfl rfl (vp_in_nI (n := 2) (by decide) (by decide)) d_M_learn_15 ?_
    refine tpi (y := nI ng) (hnu) ?_
    refine lv_iconst (v := 1) hx hb d_M_learn_16 (by decide) ?_
    refine lv_iadd hx hb d_M_learn_17 ?_
    refine tpi (y := nI (ng + 1)) (nI_1 ng) ?_
    refine lv_goto (tgt := 27) hx hb d_M_learn_18 (by decide) ?_
    refine va_iast hx hb hK hP hD hS 3 0 rfl rfl (vp_in_nI (n := 2) (by decide) (by decide)) d_M_learn_27 (fun H locs hP hD hS => ?_)
    rw [show (2 : Int32).toNatClampNeg = 2 from rfl] at hP hD
    have hP : va_P D CLS [(y, .inr (5, [.int th, .int (nI bi), .int (nI ne), .int (nI li), .int (nI sp), .int (nI q), .ref ms, .ref mw, .ref mu, .ref mc, .ref mn, .int en, .int (nI sz), .ref mr, .int (nI wa), .ref mq, .int la, .ref md, .int at0, .int lk])), (mu, .inl (cI, 4, .inl su)), (mc, .inl (cI, 4, .inl cu)), (mn, .inl (cI, 4, .inl (upd nu 2 (nI (ng + 1)))))] H := hP
    have hD : va_D A [(y, .inr (5, [.int th, .int (nI bi), .int (nI ne), .int (nI li), .int (nI sp), .int (nI q), .ref ms, .ref mw, .ref mu, .ref mc, .ref mn, .int en, .int (nI sz), .ref mr, .int (nI wa), .ref mq, .int la, .ref md, .int at0, .int lk])), (mu, .inl (cI, 4, .inl su)), (mc, .inl (cI, 4, .inl cu)), (mn, .inl (cI, 4, .inl (upd nu 2 (nI (ng + 1)))))] := hD
    refine lv_aload_n hx hb d_M_learn_28 rfl (lv_at hl 0 rfl) ?_
    refine va_get (D := D) (ci := 5) (v := .ref mu) (C := R_M) (T := T_M) (N := 20) hx hb hg in_M hown hK hP 0 rfl rfl 8 (by decide) (hg _ gw_532) (fun _ h9 => h9) rfl d_M_learn_29 ?_
    refine lv_iload_n hx hb d_M_learn_32 rfl (lv_at hl 1 rfl) ?_
    refine lv_aload_n hx hb d_M_learn_33 rfl (lv_at hl 0 rfl) ?_
    refine va_get (D := D) (ci := 5) (v := .ref mu) (C := R_M) (T := T_M) (N := 20) hx hb hg in_M hown hK hP 0 rfl rfl 8 (by decide) (hg _ gw_532) (fun _ h9 => h9) rfl d_M_learn_34 ?_
    refine lv_iload_n hx hb d_M_learn_37 rfl (lv_at hl 1 rfl) ?_
    refine va_iald hx hb hK hP 1 0 rfl rfl (vp_in_nI (n := 2) (by decide) (by decide)) d_M_learn_38 ?_
    refine tpi (y := nI sm) (hsu) ?_
    refine lv_iload_n hx hb d_M_learn_39 rfl (lv_at hl 3 rfl) ?_
    refine lv_iconst (v := 1) hx hb d_M_learn_40 (by decide) ?_
    refine lv_iadd hx hb d_M_learn_41 ?_
    refine tpi (y := nI (N + 1)) (nI_1 N) ?_
    refine lv_iload_n hx hb d_M_learn_42 rfl (lv_at hl 2 rfl) ?_
    refine lv_isub hx hb d_M_learn_43 ?_
    refine tpi (y := nI (N + 1 - 0)) (pk_sub (b := 0) (by omega)) ?_
    refine lv_iconst (v := 2) hx hb d_M_learn_44 (by decide) ?_
    refine lv_idiv hx hb d_M_learn_45 (by decide) ?_
    refine tpi (y := nI ((N + 1 - 0) / 2)) (div2 (by omega)) ?_
    refine lv_iadd hx hb d_M_learn_46 ?_
    refine tpi (y := nI (sm + (N + 1 - 0) / 2)) (nI_add _ _) ?_
    refine va_iast hx hb hK hP hD hS 1 0 rfl rfl (vp_in_nI (n := 2) (by decide) (by decide)) d_M_learn_47 (fun H locs hP hD hS => ?_)
    rw [show (2 : Int32).toNatClampNeg = 2 from rfl] at hP hD
    have hP : va_P D CLS [(y, .inr (5, [.int th, .int (nI bi), .int (nI ne), .int (nI li), .int (nI sp), .int (nI q), .ref ms, .ref mw, .ref mu, .ref mc, .ref mn, .int en, .int (nI sz), .ref mr, .int (nI wa), .ref mq, .int la, .ref md, .int at0, .int lk])), (mu, .inl (cI, 4, .inl (upd su 2 (nI (sm + (N + 1 - 0) / 2))))), (mc, .inl (cI, 4, .inl cu)), (mn, .inl (cI, 4, .inl (upd nu 2 (nI (ng + 1)))))] H := hP
    have hD : va_D A [(y, .inr (5, [.int th, .int (nI bi), .int (nI ne), .int (nI li), .int (nI sp), .int (nI q), .ref ms, .ref mw, .ref mu, .ref mc, .ref mn, .int en, .int (nI sz), .ref mr, .int (nI wa), .ref mq, .int la, .ref md, .int at0, .int lk])), (mu, .inl (cI, 4, .inl (upd su 2 (nI (sm + (N + 1 - 0) / 2))))), (mc, .inl (cI, 4, .inl cu)), (mn, .inl (cI, 4, .inl (upd nu 2 (nI (ng + 1)))))] := hD
    refine lv_aload_n hx hb d_M_learn_48 rfl (lv_at hl 0 rfl) ?_
    refine va_get (D := D) (ci := 5) (v := .ref mc) (C := R_M) (T := T_M) (N := 20) hx hb hg in_M hown hK hP 0 rfl rfl 9 (by decide) (hg _ gw_533) (fun _ h9 => h9) rfl d_M_learn_49 ?_
    refine lv_iload_n hx hb d_M_learn_52 rfl (lv_at hl 1 rfl) ?_
    refine va_iald hx hb hK hP 2 0 rfl rfl (vp_in_nI (n := 2) (by decide) (by decide)) d_M_learn_53 ?_
    refine tpi (y := nI ct) (hcu) ?_
    refine lv_bipush (v := 64) hx hb d_M_learn_54 (by decide) ?_
    refine lv_icmp_ne (tgt := 101) hx hb d_M_learn_56 (by decide) (fun c_2 => ?_) (fun c_2 => ?_)
    · skip
      have h2 : ¬ ct = 64 := fun z => c_2 (by rw [z]; rfl)
      refine lv_aload_n hx hb d_M_learn_101 rfl (lv_at hl 0 rfl) ?_
      refine va_get (D := D) (ci := 5) (v := .ref mc) (C := R_M) (T := T_M) (N := 20) hx hb hg in_M hown hK hP 0 rfl rfl 9 (by decide) (hg _ gw_533) (fun _ h9 => h9) rfl d_M_learn_102 ?_
      refine lv_iload_n hx hb d_M_learn_105 rfl (lv_at hl 1 rfl) ?_
      refine lv_dup2_11 hx hb d_M_learn_106 rfl rfl ?_
      refine va_iald hx hb hK hP 2 0 rfl rfl (vp_in_nI (n := 2) (by decide) (by decide)) d_M_learn_107 ?_
      refine tpi (y := nI ct) (hcu) ?_
      refine lv_iconst (v := 1) hx hb d_M_learn_108 (by decide) ?_
      refine lv_iadd hx hb d_M_learn_109 ?_
      refine tpi (y := nI (hvd ct ct + 1)) (by rw [show hvd ct ct = ct from if_neg h2]; exact nI_1 ct) ?_
      refine va_iast hx hb hK hP hD hS 2 0 rfl rfl (vp_in_nI (n := 2) (by decide) (by decide)) d_M_learn_110 (fun H locs hP hD hS => ?_)
      rw [show (2 : Int32).toNatClampNeg = 2 from rfl] at hP hD
      have hP : va_P D CLS [(y, .inr (5, [.int th, .int (nI bi), .int (nI ne), .int (nI li), .int (nI sp), .int (nI q), .ref ms, .ref mw, .ref mu, .ref mc, .ref mn, .int en, .int (nI sz), .ref mr, .int (nI wa), .ref mq, .int la, .ref md, .int at0, .int lk])), (mu, .inl (cI, 4, .inl (upd su 2 (nI (sm + (N + 1 - 0) / 2))))), (mc, .inl (cI, 4, .inl (upd cu 2 (nI (hvd ct ct + 1))))), (mn, .inl (cI, 4, .inl (upd nu 2 (nI (ng + 1)))))] H := hP
      have hD : va_D A [(y, .inr (5, [.int th, .int (nI bi), .int (nI ne), .int (nI li), .int (nI sp), .int (nI q), .ref ms, .ref mw, .ref mu, .ref mc, .ref mn, .int en, .int (nI sz), .ref mr, .int (nI wa), .ref mq, .int la, .ref md, .int at0, .int lk])), (mu, .inl (cI, 4, .inl (upd su 2 (nI (sm + (N + 1 - 0) / 2))))), (mc, .inl (cI, 4, .inl (upd cu 2 (nI (hvd ct ct + 1))))), (mn, .inl (cI, 4, .inl (upd nu 2 (nI (ng + 1)))))] := hD
      exact W.vret hx hb hr (fun t ht hW => ⟨rfl, by rw [ht]; exact (by rw [show hvd ct (sm + (N + 1 - 0) / 2) = sm + (N + 1 - 0) / 2 from if_neg h2, show hvd ct (ng + 1) = (ng + 1) from if_neg h2]; exact hP), (hAe ▸ hS).F ht⟩) (hAe ▸ hS).2.2 d_M_learn_111
    · skip
      have h2 : ct = 64 := (nI_eq (b := 64) (by omega) (by omega)).mp c_2
      refine lv_aload_n hx hb d_M_learn_59 rfl (lv_at hl 0 rfl) ?_
      refine va_get (D := D) (ci := 5) (v := .ref mu) (C := R_M) (T := T_M) (N := 20) hx hb hg in_M hown hK hP 0 rfl rfl 8 (by decide) (hg _ gw_532) (fun _ h9 => h9) rfl d_M_learn_60 ?_
      refine lv_iload_n hx hb d_M_learn_63 rfl (lv_at hl 1 rfl) ?_
      refine lv_aload_n hx hb d_M_learn_64 rfl (lv_at hl 0 rfl) ?_
      refine va_get (D := D) (ci := 5) (v := .ref mu) (C := R_M) (T := T_M) (N := 20) hx hb hg in_M hown hK hP 0 rfl rfl 8 (by decide) (hg _ gw_532) (fun _ h9 => h9) rfl d_M_learn_65 ?_
      refine lv_iload_n hx hb d_M_learn_68 rfl (lv_at hl 1 rfl) ?_
      refine va_iald hx hb hK hP 1 0 rfl rfl (vp_in_nI (n := 2) (by decide) (by decide)) d_M_learn_69 ?_
      refine tpi (y := nI (sm + (N + 1 - 0) / 2)) (pk_us) ?_
      refine lv_iconst (v := 2) hx hb d_M_learn_70 (by decide) ?_
      refine lv_idiv hx hb d_M_learn_71 (by decide) ?_
      refine tpi (y := nI ((sm + (N + 1 - 0) / 2) / 2)) (div2 (by omega)) ?_
      refine va_iast hx hb hK hP hD hS 1 0 rfl rfl (vp_in_nI (n := 2) (by decide) (by decide)) d_M_learn_72 (fun H locs hP hD hS => ?_)
      rw [show (2 : Int32).toNatClampNeg = 2 from rfl, updd] at hP hD
      have hP : va_P D CLS [(y, .inr (5, [.int th, .int (nI bi), .int (nI ne), .int (nI li), .int (nI sp), .int (nI q), .ref ms, .ref mw, .ref mu, .ref mc, .ref mn, .int en, .int (nI sz), .ref mr, .int (nI wa), .ref mq, .int la, .ref md, .int at0, .int lk])), (mu, .inl (cI, 4, .inl (upd su 2 (nI ((sm + (N + 1 - 0) / 2) / 2))))), (mc, .inl (cI, 4, .inl cu)), (mn, .inl (cI, 4, .inl (upd nu 2 (nI (ng + 1)))))] H := hP
      have hD : va_D A [(y, .inr (5, [.int th, .int (nI bi), .int (nI ne), .int (nI li), .int (nI sp), .int (nI q), .ref ms, .ref mw, .ref mu, .ref mc, .ref mn, .int en, .int (nI sz), .ref mr, .int (nI wa), .ref mq, .int la, .ref md, .int at0, .int lk])), (mu, .inl (cI, 4, .inl (upd su 2 (nI ((sm + (N + 1 - 0) / 2) / 2))))), (mc, .inl (cI, 4, .inl cu)), (mn, .inl (cI, 4, .inl (upd nu 2 (nI (ng + 1)))))] := hD
      refine lv_aload_n hx hb d_M_learn_73 rfl (lv_at hl 0 rfl) ?_
      refine va_get (D := D) (ci := 5) (v := .ref mc) (C := R_M) (T := T_M) (N := 20) hx hb hg in_M hown hK hP 0 rfl rfl 9 (by decide) (hg _ gw_533) (fun _ h9 => h9) rfl d_M_learn_74 ?_
      refine lv_iload_n hx hb d_M_learn_77 rfl (lv_at hl 1 rfl) ?_
      refine lv_aload_n hx hb d_M_learn_78 rfl (lv_at hl 0 rfl) ?_
      refine va_get (D := D) (ci := 5) (v := .ref mc) (C := R_M) (T := T_M) (N := 20) hx hb hg in_M hown hK hP 0 rfl rfl 9 (by decide) (hg _ gw_533) (fun _ h9 => h9) rfl d_M_learn_79 ?_
      refine lv_iload_n hx hb d_M_learn_82 rfl (lv_at hl 1 rfl) ?_
      refine va_iald hx hb hK hP 2 0 rfl rfl (vp_in_nI (n := 2) (by decide) (by decide)) d_M_learn_83 ?_
      refine tpi (y := nI ct) (hcu) ?_
      refine lv_iconst (v := 2) hx hb d_M_learn_84 (by decide) ?_
      refine lv_idiv hx hb d_M_learn_85 (by decide) ?_
      refine tpi (y := nI (ct / 2)) (div2 (by omega)) ?_
      refine va_iast hx hb hK hP hD hS 2 0 rfl rfl (vp_in_nI (n := 2) (by decide) (by decide)) d_M_learn_86 (fun H locs hP hD hS => ?_)
      rw [show (2 : Int32).toNatClampNeg = 2 from rfl] at hP hD
      have hP : va_P D CLS [(y, .inr (5, [.int th, .int (nI bi), .int (nI ne), .int (nI li), .int (nI sp), .int (nI q), .ref ms, .ref mw, .ref mu, .ref mc, .ref mn, .int en, .int (nI sz), .ref mr, .int (nI wa), .ref mq, .int la, .ref md, .int at0, .int lk])), (mu, .inl (cI, 4, .inl (upd su 2 (nI ((sm + (N + 1 - 0) / 2) / 2))))), (mc, .inl (cI, 4, .inl (upd cu 2 (nI (ct / 2))))), (mn, .inl (cI, 4, .inl (upd nu 2 (nI (ng + 1)))))] H := hP
      have hD : va_D A [(y, .inr (5, [.int th, .int (nI bi), .int (nI ne), .int (nI li), .int (nI sp), .int (nI q), .ref ms, .ref mw, .ref mu, .ref mc, .ref mn, .int en, .int (nI sz), .ref mr, .int (nI wa), .ref mq, .int la, .ref md, .int at0, .int lk])), (mu, .inl (cI, 4, .inl (upd su 2 (nI ((sm + (N + 1 - 0) / 2) / 2))))), (mc, .inl (cI, 4, .inl (upd cu 2 (nI (ct / 2))))), (mn, .inl (cI, 4, .inl (upd nu 2 (nI (ng + 1)))))] := hD
      refine lv_aload_n hx hb d_M_learn_87 rfl (lv_at hl 0 rfl) ?_
      refine va_get (D := D) (ci := 5) (v := .ref mn) (C := R_M) (T := T_M) (N := 20) hx hb hg in_M hown hK hP 0 rfl rfl 10 (by decide) (hg _ gw_534) (fun _ h9 => h9) rfl d_M_learn_88 ?_
      refine lv_iload_n hx hb d_M_learn_91 rfl (lv_at hl 1 rfl) ?_
      refine lv_aload_n hx hb d_M_learn_92 rfl (lv_at hl 0 rfl) ?_
      refine va_get (D := D) (ci := 5) (v := .ref mn) (C := R_M) (T := T_M) (N := 20) hx hb hg in_M hown hK hP 0 rfl rfl 10 (by decide) (hg _ gw_534) (fun _ h9 => h9) rfl d_M_learn_93 ?_
      refine lv_iload_n hx hb d_M_learn_96 rfl (lv_at hl 1 rfl) ?_
      refine va_iald hx hb hK hP 3 0 rfl rfl (vp_in_nI (n := 2) (by decide) (by decide)) d_M_learn_97 ?_
      refine tpi (y := nI (ng + 1)) (pk_us) ?_
      refine lv_iconst (v := 2) hx hb d_M_learn_98 (by decide) ?_
      refine lv_idiv hx hb d_M_learn_99 (by decide) ?_
      refine tpi (y := nI ((ng + 1) / 2)) (div2 (by omega)) ?_
      refine va_iast hx hb hK hP hD hS 3 0 rfl rfl (vp_in_nI (n := 2) (by decide) (by decide)) d_M_learn_100 (fun H locs hP hD hS => ?_)
      rw [show (2 : Int32).toNatClampNeg = 2 from rfl, updd] at hP hD
      have hP : va_P D CLS [(y, .inr (5, [.int th, .int (nI bi), .int (nI ne), .int (nI li), .int (nI sp), .int (nI q), .ref ms, .ref mw, .ref mu, .ref mc, .ref mn, .int en, .int (nI sz), .ref mr, .int (nI wa), .ref mq, .int la, .ref md, .int at0, .int lk])), (mu, .inl (cI, 4, .inl (upd su 2 (nI ((sm + (N + 1 - 0) / 2) / 2))))), (mc, .inl (cI, 4, .inl (upd cu 2 (nI (ct / 2))))), (mn, .inl (cI, 4, .inl (upd nu 2 (nI ((ng + 1) / 2)))))] H := hP
      have hD : va_D A [(y, .inr (5, [.int th, .int (nI bi), .int (nI ne), .int (nI li), .int (nI sp), .int (nI q), .ref ms, .ref mw, .ref mu, .ref mc, .ref mn, .int en, .int (nI sz), .ref mr, .int (nI wa), .ref mq, .int la, .ref md, .int at0, .int lk])), (mu, .inl (cI, 4, .inl (upd su 2 (nI ((sm + (N + 1 - 0) / 2) / 2))))), (mc, .inl (cI, 4, .inl (upd cu 2 (nI (ct / 2))))), (mn, .inl (cI, 4, .inl (upd nu 2 (nI ((ng + 1) / 2)))))] := hD
      refine lv_aload_n hx hb d_M_learn_101 rfl (lv_at hl 0 rfl) ?_
      refine va_get (D := D) (ci := 5) (v := .ref mc) (C := R_M) (T := T_M) (N := 20) hx hb hg in_M hown hK hP 0 rfl rfl 9 (by decide) (hg _ gw_533) (fun _ h9 => h9) rfl d_M_learn_102 ?_
      refine lv_iload_n hx hb d_M_learn_105 rfl (lv_at hl 1 rfl) ?_
      refine lv_dup2_11 hx hb d_M_learn_106 rfl rfl ?_
      refine va_iald hx hb hK hP 2 0 rfl rfl (vp_in_nI (n := 2) (by decide) (by decide)) d_M_learn_107 ?_
      refine tpi (y := nI (ct / 2)) (pk_us) ?_
      refine lv_iconst (v := 1) hx hb d_M_learn_108 (by decide) ?_
      refine lv_iadd hx hb d_M_learn_109 ?_
      refine tpi (y := nI (ct / 2 + 1)) (nI_1 _) ?_
      refine va_iast hx hb hK hP hD hS 2 0 rfl rfl (vp_in_nI (n := 2) (by decide) (by decide)) d_M_learn_110 (fun H locs hP hD hS => ?_)
      rw [show (2 : Int32).toNatClampNeg = 2 from rfl, updd] at hP hD
      have hP : va_P D CLS [(y, .inr (5, [.int th, .int (nI bi), .int (nI ne), .int (nI li), .int (nI sp), .int (nI q), .ref ms, .ref mw, .ref mu, .ref mc, .ref mn, .int en, .int (nI sz), .ref mr, .int (nI wa), .ref mq, .int la, .ref md, .int at0, .int lk])), (mu, .inl (cI, 4, .inl (upd su 2 (nI ((sm + (N + 1 - 0) / 2) / 2))))), (mc, .inl (cI, 4, .inl (upd cu 2 (nI (ct / 2 + 1))))), (mn, .inl (cI, 4, .inl (upd nu 2 (nI ((ng + 1) / 2)))))] H := hP
      have hD : va_D A [(y, .inr (5, [.int th, .int (nI bi), .int (nI ne), .int (nI li), .int (nI sp), .int (nI q), .ref ms, .ref mw, .ref mu, .ref mc, .ref mn, .int en, .int (nI sz), .ref mr, .int (nI wa), .ref mq, .int la, .ref md, .int at0, .int lk])), (mu, .inl (cI, 4, .inl (upd su 2 (nI ((sm + (N + 1 - 0) / 2) / 2))))), (mc, .inl (cI, 4, .inl (upd cu 2 (nI (ct / 2 + 1))))), (mn, .inl (cI, 4, .inl (upd nu 2 (nI ((ng + 1) / 2)))))] := hD
      exact W.vret hx hb hr (fun t ht hW => ⟨rfl, by rw [ht]; exact (by rw [show hvd ct (sm + (N + 1 - 0) / 2) = (sm + (N + 1 - 0) / 2) / 2 from if_pos h2, show hvd ct ct = ct / 2 from if_pos h2, show hvd ct (ng + 1) = (ng + 1) / 2 from if_pos h2]; exact hP), (hAe ▸ hS).F ht⟩) (hAe ▸ hS).2.2 d_M_learn_111
set_option maxHeartbeats 4000000 in
set_option maxRecDepth 100000 in
theorem c_M_learn3P (l : Launch) (D : va_G) (y ms mw mu mc mn mr mq md bi ne li sp q sz wa : Nat) (th en la at0 lk : Int32) (cI : ClassId) (su cu nu : Nat → Int32) (sm ct ng n N : Nat) (hsu : su 3 = nI sm) (hcu : cu 3 = nI ct) (hnu : nu 3 = nI ng) (hc0 : ct ≤ 64) (hn0 : ng ≤ 64) (hs0 : sm < 2 ^ 29) (hN : N < 2 ^ 29) (hn : n < 2 ^ 30) : Met l y_M_learn (WSY y_M_learn b_M_learn 5 none) ({ frames := 0, cells := 0, slots := 0, locals := 0 }) (va_Pc [.ref y, .int 3, .int 1, .int (nI N), .int (nI n)] (fun U => va_P D CLS [(y, .inr (5, [.int th, .int (nI bi), .int (nI ne), .int (nI li), .int (nI sp), .int (nI q), .ref ms, .ref mw, .ref mu, .ref mc, .ref mn, .int en, .int (nI sz), .ref mr, .int (nI wa), .ref mq, .int la, .ref md, .int at0, .int lk])), (mu, .inl (cI, 4, .inl su)), (mc, .inl (cI, 4, .inl cu)), (mn, .inl (cI, 4, .inl nu))] U.heap ∧ va_K D CLS [(cI, .int)] U ∧ va_D (fun _ => True) [(y, .inr (5, [.int th, .int (nI bi), .int (nI ne), .int (nI li), .int (nI sp), .int (nI q), .ref ms, .ref mw, .ref mu, .ref mc, .ref mn, .int en, .int (nI sz), .ref mr, .int (nI wa), .ref mq, .int la, .ref md, .int at0, .int lk])), (mu, .inl (cI, 4, .inl su)), (mc, .inl (cI, 4, .inl cu)), (mn, .inl (cI, 4, .inl nu))])) (QM none [(y, .inr (5, [.int th, .int (nI bi), .int (nI ne), .int (nI li), .int (nI sp), .int (nI q), .ref ms, .ref mw, .ref mu, .ref mc, .ref mn, .int en, .int (nI sz), .ref mr, .int (nI wa), .ref mq, .int la, .ref md, .int at0, .int lk])), (mu, .inl (cI, 4, .inl su)), (mc, .inl (cI, 4, .inl cu)), (mn, .inl (cI, 4, .inl nu))] [(y, .inr (5, [.int th, .int (nI bi), .int (nI ne), .int (nI li), .int (nI sp), .int (nI q), .ref ms, .ref mw, .ref mu, .ref mc, .ref mn, .int en, .int (nI sz), .ref mr, .int (nI wa), .ref mq, .int la, .ref md, .int at0, .int lk])), (mu, .inl (cI, 4, .inl (upd su 3 (nI (hvd ct (sm + (N + 1 - 1) / 2)))))), (mc, .inl (cI, 4, .inl (upd cu 3 (nI (hvd ct ct + 1))))), (mn, .inl (cI, 4, .inl (upd nu 3 (nI (hvd ct ng)))))] D) 0 0 (ad [(y, .inr (5, [.int th, .int (nI bi), .int (nI ne), .int (nI li), .int (nI sp), .int (nI q), .ref ms, .ref mw, .ref mu, .ref mc, .ref mn, .int en, .int (nI sz), .ref mr, .int (nI wa), .ref mq, .int la, .ref md, .int at0, .int lk])), (mu, .inl (cI, 4, .inl su)), (mc, .inl (cI, 4, .inl cu)), (mn, .inl (cI, 4, .inl nu))]) := by
  refine Met.ofW (cc := b_M_learn) (maxL := 5) (ret := none) (by decide) rfl ?_
  intro p e s m args below meth c s₁ B hml hv
  obtain ⟨rfl, hP, hK, hD0⟩ := hv
  have hx := B.exec
  have hb := B.bytes
  have hr := B.returns
  have hts := atoms_spec (ws := WSY y_M_learn b_M_learn 5 none) B.pre
  have hg : ∀ w ∈ GW, w.before _ s = true := fun w h => hts w (List.mem_cons_of_mem _ h)
  have hown : s.vm.findClass "LineGolombModel" = some m.cls := findClass_of_methodNamed B.named
  have hlocks := B.notSynchronized
  obtain ⟨A, hAe⟩ : ∃ A, A = ad [(y, .inr (5, [.int th, .int (nI bi), .int (nI ne), .int (nI li), .int (nI sp), .int (nI q), .ref ms, .ref mw, .ref mu, .ref mc, .ref mn, .int en, .int (nI sz), .ref mr, .int (nI wa), .ref mq, .int la, .ref md, .int at0, .int lk])), (mu, .inl (cI, 4, .inl su)), (mc, .inl (cI, 4, .inl cu)), (mn, .inl (cI, 4, .inl nu))] := ⟨_, rfl⟩
  have hD : va_D A [(y, .inr (5, [.int th, .int (nI bi), .int (nI ne), .int (nI li), .int (nI sp), .int (nI q), .ref ms, .ref mw, .ref mu, .ref mc, .ref mn, .int en, .int (nI sz), .ref mr, .int (nI wa), .ref mq, .int la, .ref md, .int at0, .int lk])), (mu, .inl (cI, 4, .inl su)), (mc, .inl (cI, 4, .inl cu)), (mn, .inl (cI, 4, .inl nu))] := by rw [hAe]; exact va_D_ad hD0
  have hS : va_S A s.heap s.heap [] := va_S.rf
  have hl := lv_entry ([.ref y, .int 3, .int 1, .int (nI N), .int (nI n)]) (n := 5) (Nat.le_of_ble_eq_true rfl)
  rw [lg_entry_eq]
  generalize (lg_sl ([.ref y, .int 3, .int 1, .int (nI N), .int (nI n)]) ++ List.replicate (5 - (lg_sl ([.ref y, .int 3, .int 1, .int (nI N), .int (nI n)])).length) Slot.unset).toArray = ls at hl ⊢
  have hl : lv_has ls 5 [(0, .ref y), (1, .int 3), (2, .int 1), (3, .int (nI N)), (4, .int (nI n))] := hl
  refine lv_aload_n hx hb d_M_learn_0 rfl (lv_at hl 0 rfl) ?_
  refine va_get (D := D) (ci := 5) (v := .ref mn) (C := R_M) (T := T_M) (N := 20) hx hb hg in_M hown hK hP 0 rfl rfl 10 (by decide) (hg _ gw_534) (fun _ h9 => h9) rfl d_M_learn_1 ?_
  refine lv_iload_n hx hb d_M_learn_4 rfl (lv_at hl 1 rfl) ?_
  refine lv_iload hx hb d_M_learn_5 (lv_at hl 4 rfl) ?_
  refine lv_if_ge (tgt := 21) hx hb d_M_learn_7 (by decide) (fun c_1 => ?_) (fun c_1 => ?_)
  · skip
    refine lv_aload_n hx hb d_M_learn_21 rfl (lv_at hl 0 rfl) ?_
    refine va_get (D := D) (ci := 5) (v := .ref mn) (C := R_M) (T := T_M) (N := 20) hx hb hg in_M hown hK hP 0 rfl rfl 10 (by decide) (hg _ gw_534) (fun _ h9 => h9) rfl d_M_learn_22 ?_
    refine lv_iload_n hx hb d_M_learn_25 rfl (lv_at hl 1 rfl) ?_
    refine va_iald hx hb hK hP 3 0 rfl rfl (vp_in_nI (n := 3) (by decide) (by decide)) d_M_learn_26 ?_
    refine tpi (y := nI ng) (hnu) ?_
    refine va_iast hx hb hK hP hD hS 3 0 rfl rfl (vp_in_nI (n := 3) (by decide) (by decide)) d_M_learn_27 (fun H locs hP hD hS => ?_)
    rw [show (3 : Int32).toNatClampNeg = 3 from rfl] at hP hD
    have hP : va_P D CLS [(y, .inr (5, [.int th, .int (nI bi), .int (nI ne), .int (nI li), .int (nI sp), .int (nI q), .ref ms, .ref mw, .ref mu, .ref mc, .ref mn, .int en, .int (nI sz), .ref mr, .int (nI wa), .ref mq, .int la, .ref md, .int at0, .int lk])), (mu, .inl (cI, 4, .inl su)), (mc, .inl (cI, 4, .inl cu)), (mn, .inl (cI, 4, .inl (upd nu 3 (nI ng))))] H := hP
    have hD : va_D A [(y, .inr (5, [.int th, .int (nI bi), .int (nI ne), .int (nI li), .int (nI sp), .int (nI q), .ref ms, .ref mw, .ref mu, .ref mc, .ref mn, .int en, .int (nI sz), .ref mr, .int (nI wa), .ref mq, .int la, .ref md, .int at0, .int lk])), (mu, .inl (cI, 4, .inl su)), (mc, .inl (cI, 4, .inl cu)), (mn, .inl (cI, 4, .inl (upd nu 3 (nI ng))))] := hD
    refine lv_aload_n hx hb d_M_learn_28 rfl (lv_at hl 0 rfl) ?_
    refine va_get (D := D) (ci := 5) (v := .ref mu) (C := R_M) (T := T_M) (N := 20) hx hb hg in_M hown hK hP 0 rfl rfl 8 (by decide) (hg _ gw_532) (fun _ h9 => h9) rfl d_M_learn_29 ?_
    refine lv_iload_n hx hb d_M_learn_32 rfl (lv_at hl 1 rfl) ?_
    refine lv_aload_n hx hb d_M_learn_33 rfl (lv_at hl 0 rfl) ?_
    refine va_get (D := D) (ci := 5) (v := .ref mu) (C := R_M) (T := T_M) (N := 20) hx hb hg in_M hown hK hP 0 rfl rfl 8 (by decide) (hg _ gw_532) (fun _ h9 => h9) rfl d_M_learn_34 ?_
    refine lv_iload_n hx hb d_M_learn_37 rfl (lv_at hl 1 rfl) ?_
    refine va_iald hx hb hK hP 1 0 rfl rfl (vp_in_nI (n := 3) (by decide) (by decide)) d_M_learn_38 ?_
    refine tpi (y := nI sm) (hsu) ?_
    refine lv_iload_n hx hb d_M_learn_39 rfl (lv_at hl 3 rfl) ?_
    refine lv_iconst (v := 1) hx hb d_M_learn_40 (by decide) ?_
    refine lv_iadd hx hb d_M_learn_41 ?_
    refine tpi (y := nI (N + 1)) (nI_1 N) ?_
    refine lv_iload_n hx hb d_M_learn_42 rfl (lv_at hl 2 rfl) ?_
    refine lv_isub hx hb d_M_learn_43 ?_
    refine tpi (y := nI (N + 1 - 1)) (pk_sub (b := 1) (by omega)) ?_
    refine lv_iconst (v := 2) hx hb d_M_learn_44 (by decide) ?_
    refine lv_idiv hx hb d_M_learn_45 (by decide) ?_
    refine tpi (y := nI ((N + 1 - 1) / 2)) (div2 (by omega)) ?_
    refine lv_iadd hx hb d_M_learn_46 ?_
    refine tpi (y := nI (sm + (N + 1 - 1) / 2)) (nI_add _ _) ?_
    refine va_iast hx hb hK hP hD hS 1 0 rfl rfl (vp_in_nI (n := 3) (by decide) (by decide)) d_M_learn_47 (fun H locs hP hD hS => ?_)
    rw [show (3 : Int32).toNatClampNeg = 3 from rfl] at hP hD
    have hP : va_P D CLS [(y, .inr (5, [.int th, .int (nI bi), .int (nI ne), .int (nI li), .int (nI sp), .int (nI q), .ref ms, .ref mw, .ref mu, .ref mc, .ref mn, .int en, .int (nI sz), .ref mr, .int (nI wa), .ref mq, .int la, .ref md, .int at0, .int lk])), (mu, .inl (cI, 4, .inl (upd su 3 (nI (sm + (N + 1 - 1) / 2))))), (mc, .inl (cI, 4, .inl cu)), (mn, .inl (cI, 4, .inl (upd nu 3 (nI ng))))] H := hP
    have hD : va_D A [(y, .inr (5, [.int th, .int (nI bi), .int (nI ne), .int (nI li), .int (nI sp), .int (nI q), .ref ms, .ref mw, .ref mu, .ref mc, .ref mn, .int en, .int (nI sz), .ref mr, .int (nI wa), .ref mq, .int la, .ref md, .int at0, .int lk])), (mu, .inl (cI, 4, .inl (upd su 3 (nI (sm + (N + 1 - 1) / 2))))), (mc, .inl (cI, 4, .inl cu)), (mn, .inl (cI, 4, .inl (upd nu 3 (nI ng))))] := hD
    refine lv_aload_n hx hb d_M_learn_48 rfl (lv_at hl 0 rfl) ?_
    refine va_get (D := D) (ci := 5) (v := .ref mc) (C := R_M) (T := T_M) (N := 20) hx hb hg in_M hown hK hP 0 rfl rfl 9 (by decide) (hg _ gw_533) (fun _ h9 => h9) rfl d_M_learn_49 ?_
    refine lv_iload_n hx hb d_M_learn_52 rfl (lv_at hl 1 rfl) ?_
    refine va_iald hx hb hK hP 2 0 rfl rfl (vp_in_nI (n := 3) (by decide) (by decide)) d_M_learn_53 ?_
    refine tpi (y := nI ct) (hcu) ?_
    refine lv_bipush (v := 64) hx hb d_M_learn_54 (by decide) ?_
    refine lv_icmp_ne (tgt := 101) hx hb d_M_learn_56 (by decide) (fun c_2 => ?_) (fun c_2 => ?_)
    · skip
      have h2 : ¬ ct = 64 := fun z => c_2 (by rw [z]; rfl)
      refine lv_aload_n hx hb d_M_learn_101 rfl (lv_at hl 0 rfl) ?_
      refine va_get (D := D) (ci := 5) (v := .ref mc) (C := R_M) (T := T_M) (N := 20) hx hb hg in_M hown hK hP 0 rfl rfl 9 (by decide) (hg _ gw_533) (fun _ h9 => h9) rfl d_M_learn_102 ?_
      refine lv_iload_n hx hb d_M_learn_105 rfl (lv_at hl 1 rfl) ?_
      refine lv_dup2_11 hx hb d_M_learn_106 rfl rfl ?_
      refine va_iald hx hb hK hP 2 0 rfl rfl (vp_in_nI (n := 3) (by decide) (by decide)) d_M_learn_107 ?_
      refine tpi (y := nI ct) (hcu) ?_
      refine lv_iconst (v := 1) hx hb d_M_learn_108 (by decide) ?_
      refine lv_iadd hx hb d_M_learn_109 ?_
      refine tpi (y := nI (hvd ct ct + 1)) (by rw [show hvd ct ct = ct from if_neg h2]; exact nI_1 ct) ?_
      refine va_iast hx hb hK hP hD hS 2 0 rfl rfl (vp_in_nI (n := 3) (by decide) (by decide)) d_M_learn_110 (fun H locs hP hD hS => ?_)
      rw [show (3 : Int32).toNatClampNeg = 3 from rfl] at hP hD
      have hP : va_P D CLS [(y, .inr (5, [.int th, .int (nI bi), .int (nI ne), .int (nI li), .int (nI sp), .int (nI q), .ref ms, .ref mw, .ref mu, .ref mc, .ref mn, .int en, .int (nI sz), .ref mr, .int (nI wa), .ref mq, .int la, .ref md, .int at0, .int lk])), (mu, .inl (cI, 4, .inl (upd su 3 (nI (sm + (N + 1 - 1) / 2))))), (mc, .inl (cI, 4, .inl (upd cu 3 (nI (hvd ct ct + 1))))), (mn, .inl (cI, 4, .inl (upd nu 3 (nI ng))))] H := hP
      have hD : va_D A [(y, .inr (5, [.int th, .int (nI bi), .int (nI ne), .int (nI li), .int (nI sp), .int (nI q), .ref ms, .ref mw, .ref mu, .ref mc, .ref mn, .int en, .int (nI sz), .ref mr, .int (nI wa), .ref mq, .int la, .ref md, .int at0, .int lk])), (mu, .inl (cI, 4, .inl (upd su 3 (nI (sm + (N + 1 - 1) / 2))))), (mc, .inl (cI, 4, .inl (upd cu 3 (nI (hvd ct ct + 1))))), (mn, .inl (cI, 4, .inl (upd nu 3 (nI ng))))] := hD
      exact W.vret hx hb hr (fun t ht hW => ⟨rfl, by rw [ht]; exact (by rw [show hvd ct (sm + (N + 1 - 1) / 2) = sm + (N + 1 - 1) / 2 from if_neg h2, show hvd ct ng = ng from if_neg h2]; exact hP), (hAe ▸ hS).F ht⟩) (hAe ▸ hS).2.2 d_M_learn_111
    · skip
      have h2 : ct = 64 := (nI_eq (b := 64) (by omega) (by omega)).mp c_2
      refine lv_aload_n hx hb d_M_learn_59 rfl (lv_at hl 0 rfl) ?_
      refine va_get (D := D) (ci := 5) (v := .ref mu) (C := R_M) (T := T_M) (N := 20) hx hb hg in_M hown hK hP 0 rfl rfl 8 (by decide) (hg _ gw_532) (fun _ h9 => h9) rfl d_M_learn_60 ?_
      refine lv_iload_n hx hb d_M_learn_63 rfl (lv_at hl 1 rfl) ?_
      refine lv_aload_n hx hb d_M_learn_64 rfl (lv_at hl 0 rfl) ?_
      refine va_get (D := D) (ci := 5) (v := .ref mu) (C := R_M) (T := T_M) (N := 20) hx hb hg in_M hown hK hP 0 rfl rfl 8 (by decide) (hg _ gw_532) (fun _ h9 => h9) rfl d_M_learn_65 ?_
      refine lv_iload_n hx hb d_M_learn_68 rfl (lv_at hl 1 rfl) ?_
      refine va_iald hx hb hK hP 1 0 rfl rfl (vp_in_nI (n := 3) (by decide) (by decide)) d_M_learn_69 ?_
      refine tpi (y := nI (sm + (N + 1 - 1) / 2)) (pk_us) ?_
      refine lv_iconst (v := 2) hx hb d_M_learn_70 (by decide) ?_
      refine lv_idiv hx hb d_M_learn_71 (by decide) ?_
      refine tpi (y := nI ((sm + (N + 1 - 1) / 2) / 2)) (div2 (by omega)) ?_
      refine va_iast hx hb hK hP hD hS 1 0 rfl rfl (vp_in_nI (n := 3) (by decide) (by decide)) d_M_learn_72 (fun H locs hP hD hS => ?_)
      rw [show (3 : Int32).toNatClampNeg = 3 from rfl, updd] at hP hD
      have hP : va_P D CLS [(y, .inr (5, [.int th, .int (nI bi), .int (nI ne), .int (nI li), .int (nI sp), .int (nI q), .ref ms, .ref mw, .ref mu, .ref mc, .ref mn, .int en, .int (nI sz), .ref mr, .int (nI wa), .ref mq, .int la, .ref md, .int at0, .int lk])), (mu, .inl (cI, 4, .inl (upd su 3 (nI ((sm + (N + 1 - 1) / 2) / 2))))), (mc, .inl (cI, 4, .inl cu)), (mn, .inl (cI, 4, .inl (upd nu 3 (nI ng))))] H := hP
      have hD : va_D A [(y, .inr (5, [.int th, .int (nI bi), .int (nI ne), .int (nI li), .int (nI sp), .int (nI q), .ref ms, .ref mw, .ref mu, .ref mc, .ref mn, .int en, .int (nI sz), .ref mr, .int (nI wa), .ref mq, .int la, .ref md, .int at0, .int lk])), (mu, .inl (cI, 4, .inl (upd su 3 (nI ((sm + (N + 1 - 1) / 2) / 2))))), (mc, .inl (cI, 4, .inl cu)), (mn, .inl (cI, 4, .inl (upd nu 3 (nI ng))))] := hD
      refine lv_aload_n hx hb d_M_learn_73 rfl (lv_at hl 0 rfl) ?_
      refine va_get (D := D) (ci := 5) (v := .ref mc) (C := R_M) (T := T_M) (N := 20) hx hb hg in_M hown hK hP 0 rfl rfl 9 (by decide) (hg _ gw_533) (fun _ h9 => h9) rfl d_M_learn_74 ?_
      refine lv_iload_n hx hb d_M_learn_77 rfl (lv_at hl 1 rfl) ?_
      refine lv_aload_n hx hb d_M_learn_78 rfl (lv_at hl 0 rfl) ?_
      refine va_get (D := D) (ci := 5) (v := .ref mc) (C := R_M) (T := T_M) (N := 20) hx hb hg in_M hown hK hP 0 rfl rfl 9 (by decide) (hg _ gw_533) (fun _ h9 => h9) rfl d_M_learn_79 ?_
      refine lv_iload_n hx hb d_M_learn_82 rfl (lv_at hl 1 rfl) ?_
      refine va_iald hx hb hK hP 2 0 rfl rfl (vp_in_nI (n := 3) (by decide) (by decide)) d_M_learn_83 ?_
      refine tpi (y := nI ct) (hcu) ?_
      refine lv_iconst (v := 2) hx hb d_M_learn_84 (by decide) ?_
      refine lv_idiv hx hb d_M_learn_85 (by decide) ?_
      refine tpi (y := nI (ct / 2)) (div2 (by omega)) ?_
      refine va_iast hx hb hK hP hD hS 2 0 rfl rfl (vp_in_nI (n := 3) (by decide) (by decide)) d_M_learn_86 (fun H locs hP hD hS => ?_)
      rw [show (3 : Int32).toNatClampNeg = 3 from rfl] at hP hD
      have hP : va_P D CLS [(y, .inr (5, [.int th, .int (nI bi), .int (nI ne), .int (nI li), .int (nI sp), .int (nI q), .ref ms, .ref mw, .ref mu, .ref mc, .ref mn, .int en, .int (nI sz), .ref mr, .int (nI wa), .ref mq, .int la, .ref md, .int at0, .int lk])), (mu, .inl (cI, 4, .inl (upd su 3 (nI ((sm + (N + 1 - 1) / 2) / 2))))), (mc, .inl (cI, 4, .inl (upd cu 3 (nI (ct / 2))))), (mn, .inl (cI, 4, .inl (upd nu 3 (nI ng))))] H := hP
      have hD : va_D A [(y, .inr (5, [.int th, .int (nI bi), .int (nI ne), .int (nI li), .int (nI sp), .int (nI q), .ref ms, .ref mw, .ref mu, .ref mc, .ref mn, .int en, .int (nI sz), .ref mr, .int (nI wa), .ref mq, .int la, .ref md, .int at0, .int lk])), (mu, .inl (cI, 4, .inl (upd su 3 (nI ((sm + (N + 1 - 1) / 2) / 2))))), (mc, .inl (cI, 4, .inl (upd cu 3 (nI (ct / 2))))), (mn, .inl (cI, 4, .inl (upd nu 3 (nI ng))))] := hD
      refine lv_aload_n hx hb d_M_learn_87 rfl (lv_at hl 0 rfl) ?_
      refine va_get (D := D) (ci := 5) (v := .ref mn) (C := R_M) (T := T_M) (N := 20) hx hb hg in_M hown hK hP 0 rfl rfl 10 (by decide) (hg _ gw_534) (fun _ h9 => h9) rfl d_M_learn_88 ?_
      refine lv_iload_n hx hb d_M_learn_91 rfl (lv_at hl 1 rfl) ?_
      refine lv_aload_n hx hb d_M_learn_92 rfl (lv_at hl 0 rfl) ?_
      refine va_get (D := D) (ci := 5) (v := .ref mn) (C := R_M) (T := T_M) (N := 20) hx hb hg in_M hown hK hP 0 rfl rfl 10 (by decide) (hg _ gw_534) (fun _ h9 => h9) rfl d_M_learn_93 ?_
      refine lv_iload_n hx hb d_M_learn_96 rfl (lv_at hl 1 rfl) ?_
      refine va_iald hx hb hK hP 3 0 rfl rfl (vp_in_nI (n := 3) (by decide) (by decide)) d_M_learn_97 ?_
      refine tpi (y := nI ng) (pk_us) ?_
      refine lv_iconst (v := 2) hx hb d_M_learn_98 (by decide) ?_
      refine lv_idiv hx hb d_M_learn_99 (by decide) ?_
      refine tpi (y := nI (ng / 2)) (div2 (by omega)) ?_
      refine va_iast hx hb hK hP hD hS 3 0 rfl rfl (vp_in_nI (n := 3) (by decide) (by decide)) d_M_learn_100 (fun H locs hP hD hS => ?_)
      rw [show (3 : Int32).toNatClampNeg = 3 from rfl, updd] at hP hD
      have hP : va_P D CLS [(y, .inr (5, [.int th, .int (nI bi), .int (nI ne), .int (nI li), .int (nI sp), .int (nI q), .ref ms, .ref mw, .ref mu, .ref mc, .ref mn, .int en, .int (nI sz), .ref mr, .int (nI wa), .ref mq, .int la, .ref md, .int at0, .int lk])), (mu, .inl (cI, 4, .inl (upd su 3 (nI ((sm + (N + 1 - 1) / 2) / 2))))), (mc, .inl (cI, 4, .inl (upd cu 3 (nI (ct / 2))))), (mn, .inl (cI, 4, .inl (upd nu 3 (nI (ng / 2)))))] H := hP
      have hD : va_D A [(y, .inr (5, [.int th, .int (nI bi), .int (nI ne), .int (nI li), .int (nI sp), .int (nI q), .ref ms, .ref mw, .ref mu, .ref mc, .ref mn, .int en, .int (nI sz), .ref mr, .int (nI wa), .ref mq, .int la, .ref md, .int at0, .int lk])), (mu, .inl (cI, 4, .inl (upd su 3 (nI ((sm + (N + 1 - 1) / 2) / 2))))), (mc, .inl (cI, 4, .inl (upd cu 3 (nI (ct / 2))))), (mn, .inl (cI, 4, .inl (upd nu 3 (nI (ng / 2)))))] := hD
      refine lv_aload_n hx hb d_M_learn_101 rfl (lv_at hl 0 rfl) ?_
      refine va_get (D := D) (ci := 5) (v := .ref mc) (C := R_M) (T := T_M) (N := 20) hx hb hg in_M hown hK hP 0 rfl rfl 9 (by decide) (hg _ gw_533) (fun _ h9 => h9) rfl d_M_learn_102 ?_
      refine lv_iload_n hx hb d_M_learn_105 rfl (lv_at hl 1 rfl) ?_
      refine lv_dup2_11 hx hb d_M_learn_106 rfl rfl ?_
      refine va_iald hx hb hK hP 2 0 rfl rfl (vp_in_nI (n := 3) (by decide) (by decide)) d_M_learn_107 ?_
      refine tpi (y := nI (ct / 2)) (pk_us) ?_
      refine lv_iconst (v := 1) hx hb d_M_learn_108 (by decide) ?_
      refine lv_iadd hx hb d_M_learn_109 ?_
      refine tpi (y := nI (ct / 2 + 1)) (nI_1 _) ?_
      refine va_iast hx hb hK hP hD hS 2 0 rfl rfl (vp_in_nI (n := 3) (by decide) (by decide)) d_M_learn_110 (fun H locs hP hD hS => ?_)
      rw [show (3 : Int32).toNatClampNeg = 3 from rfl, updd] at hP hD
      have hP : va_P D CLS [(y, .inr (5, [.int th, .int (nI bi), .int (nI ne), .int (nI li), .int (nI sp), .int (nI q), .ref ms, .ref mw, .ref mu, .ref mc, .ref mn, .int en, .int (nI sz), .ref mr, .int (nI wa), .ref mq, .int la, .ref md, .int at0, .int lk])), (mu, .inl (cI, 4, .inl (upd su 3 (nI ((sm + (N + 1 - 1) / 2) / 2))))), (mc, .inl (cI, 4, .inl (upd cu 3 (nI (ct / 2 + 1))))), (mn, .inl (cI, 4, .inl (upd nu 3 (nI (ng / 2)))))] H := hP
      have hD : va_D A [(y, .inr (5, [.int th, .int (nI bi), .int (nI ne), .int (nI li), .int (nI sp), .int (nI q), .ref ms, .ref mw, .ref mu, .ref mc, .ref mn, .int en, .int (nI sz), .ref mr, .int (nI wa), .ref mq, .int la, .ref md, .int at0, .int lk])), (mu, .inl (cI, 4, .inl (upd su 3 (nI ((sm + (N + 1 - 1) / 2) / 2))))), (mc, .inl (cI, 4, .inl (upd cu 3 (nI (ct / 2 + 1))))), (mn, .inl (cI, 4, .inl (upd nu 3 (nI (ng / 2)))))] := hD
      exact W.vret hx hb hr (fun t ht hW => ⟨rfl, by rw [ht]; exact (by rw [show hvd ct (sm + (N + 1 - 1) / 2) = (sm + (N + 1 - 1) / 2) / 2 from if_pos h2, show hvd ct ct = ct / 2 from if_pos h2, show hvd ct ng = ng / 2 from if_pos h2]; exact hP), (hAe ▸ hS).F ht⟩) (hAe ▸ hS).2.2 d_M_learn_111
  · skip
    exact absurd (nI_pos' (by omega)) c_1
set_option maxHeartbeats 4000000 in
set_option maxRecDepth 100000 in
theorem c_M_learn3N (l : Launch) (D : va_G) (y ms mw mu mc mn mr mq md bi ne li sp q sz wa : Nat) (th en la at0 lk : Int32) (cI : ClassId) (su cu nu : Nat → Int32) (sm ct ng n N : Nat) (hsu : su 3 = nI sm) (hcu : cu 3 = nI ct) (hnu : nu 3 = nI ng) (hc0 : ct ≤ 64) (hn0 : ng ≤ 64) (hs0 : sm < 2 ^ 29) (hN : N < 2 ^ 29) (hn : n < 2 ^ 30) (hn1 : 0 < n) : Met l y_M_learn (WSY y_M_learn b_M_learn 5 none) ({ frames := 0, cells := 0, slots := 0, locals := 0 }) (va_Pc [.ref y, .int 3, .int 1, .int (nI N), .int (-nI n)] (fun U => va_P D CLS [(y, .inr (5, [.int th, .int (nI bi), .int (nI ne), .int (nI li), .int (nI sp), .int (nI q), .ref ms, .ref mw, .ref mu, .ref mc, .ref mn, .int en, .int (nI sz), .ref mr, .int (nI wa), .ref mq, .int la, .ref md, .int at0, .int lk])), (mu, .inl (cI, 4, .inl su)), (mc, .inl (cI, 4, .inl cu)), (mn, .inl (cI, 4, .inl nu))] U.heap ∧ va_K D CLS [(cI, .int)] U ∧ va_D (fun _ => True) [(y, .inr (5, [.int th, .int (nI bi), .int (nI ne), .int (nI li), .int (nI sp), .int (nI q), .ref ms, .ref mw, .ref mu, .ref mc, .ref mn, .int en, .int (nI sz), .ref mr, .int (nI wa), .ref mq, .int la, .ref md, .int at0, .int lk])), (mu, .inl (cI, 4, .inl su)), (mc, .inl (cI, 4, .inl cu)), (mn, .inl (cI, 4, .inl nu))])) (QM none [(y, .inr (5, [.int th, .int (nI bi), .int (nI ne), .int (nI li), .int (nI sp), .int (nI q), .ref ms, .ref mw, .ref mu, .ref mc, .ref mn, .int en, .int (nI sz), .ref mr, .int (nI wa), .ref mq, .int la, .ref md, .int at0, .int lk])), (mu, .inl (cI, 4, .inl su)), (mc, .inl (cI, 4, .inl cu)), (mn, .inl (cI, 4, .inl nu))] [(y, .inr (5, [.int th, .int (nI bi), .int (nI ne), .int (nI li), .int (nI sp), .int (nI q), .ref ms, .ref mw, .ref mu, .ref mc, .ref mn, .int en, .int (nI sz), .ref mr, .int (nI wa), .ref mq, .int la, .ref md, .int at0, .int lk])), (mu, .inl (cI, 4, .inl (upd su 3 (nI (hvd ct (sm + (N + 1 - 1) / 2)))))), (mc, .inl (cI, 4, .inl (upd cu 3 (nI (hvd ct ct + 1))))), (mn, .inl (cI, 4, .inl (upd nu 3 (nI (hvd ct (ng + 1))))))] D) 0 0 (ad [(y, .inr (5, [.int th, .int (nI bi), .int (nI ne), .int (nI li), .int (nI sp), .int (nI q), .ref ms, .ref mw, .ref mu, .ref mc, .ref mn, .int en, .int (nI sz), .ref mr, .int (nI wa), .ref mq, .int la, .ref md, .int at0, .int lk])), (mu, .inl (cI, 4, .inl su)), (mc, .inl (cI, 4, .inl cu)), (mn, .inl (cI, 4, .inl nu))]) := by
  refine Met.ofW (cc := b_M_learn) (maxL := 5) (ret := none) (by decide) rfl ?_
  intro p e s m args below meth c s₁ B hml hv
  obtain ⟨rfl, hP, hK, hD0⟩ := hv
  have hx := B.exec
  have hb := B.bytes
  have hr := B.returns
  have hts := atoms_spec (ws := WSY y_M_learn b_M_learn 5 none) B.pre
  have hg : ∀ w ∈ GW, w.before _ s = true := fun w h => hts w (List.mem_cons_of_mem _ h)
  have hown : s.vm.findClass "LineGolombModel" = some m.cls := findClass_of_methodNamed B.named
  have hlocks := B.notSynchronized
  obtain ⟨A, hAe⟩ : ∃ A, A = ad [(y, .inr (5, [.int th, .int (nI bi), .int (nI ne), .int (nI li), .int (nI sp), .int (nI q), .ref ms, .ref mw, .ref mu, .ref mc, .ref mn, .int en, .int (nI sz), .ref mr, .int (nI wa), .ref mq, .int la, .ref md, .int at0, .int lk])), (mu, .inl (cI, 4, .inl su)), (mc, .inl (cI, 4, .inl cu)), (mn, .inl (cI, 4, .inl nu))] := ⟨_, rfl⟩
  have hD : va_D A [(y, .inr (5, [.int th, .int (nI bi), .int (nI ne), .int (nI li), .int (nI sp), .int (nI q), .ref ms, .ref mw, .ref mu, .ref mc, .ref mn, .int en, .int (nI sz), .ref mr, .int (nI wa), .ref mq, .int la, .ref md, .int at0, .int lk])), (mu, .inl (cI, 4, .inl su)), (mc, .inl (cI, 4, .inl cu)), (mn, .inl (cI, 4, .inl nu))] := by rw [hAe]; exact va_D_ad hD0
  have hS : va_S A s.heap s.heap [] := va_S.rf
  have hl := lv_entry ([.ref y, .int 3, .int 1, .int (nI N), .int (-nI n)]) (n := 5) (Nat.le_of_ble_eq_true rfl)
  rw [lg_entry_eq]
  generalize (lg_sl ([.ref y, .int 3, .int 1, .int (nI N), .int (-nI n)]) ++ List.replicate (5 - (lg_sl ([.ref y, .int 3, .int 1, .int (nI N), .int (-nI n)])).length) Slot.unset).toArray = ls at hl ⊢
  have hl : lv_has ls 5 [(0, .ref y), (1, .int 3), (2, .int 1), (3, .int (nI N)), (4, .int (-nI n))] := hl
  refine lv_aload_n hx hb d_M_learn_0 rfl (lv_at hl 0 rfl) ?_
  refine va_get (D := D) (ci := 5) (v := .ref mn) (C := R_M) (T := T_M) (N := 20) hx hb hg in_M hown hK hP 0 rfl rfl 10 (by decide) (hg _ gw_534) (fun _ h9 => h9) rfl d_M_learn_1 ?_
  refine lv_iload_n hx hb d_M_learn_4 rfl (lv_at hl 1 rfl) ?_
  refine lv_iload hx hb d_M_learn_5 (lv_at hl 4 rfl) ?_
  refine lv_if_ge (tgt := 21) hx hb d_M_learn_7 (by decide) (fun c_1 => ?_) (fun c_1 => ?_)
  · skip
    exact absurd c_1 (by rw [leT, ngT (by omega), zT]; omega)
  · skip
    refine lv_aload_n hx hb d_M_learn_10 rfl (lv_at hl 0 rfl) ?_
    refine va_get (D := D) (ci := 5) (v := .ref mn) (C := R_M) (T := T_M) (N := 20) hx hb hg in_M hown hK hP 0 rfl rfl 10 (by decide) (hg _ gw_534) (fun _ h9 => h9) rfl d_M_learn_11 ?_
    refine lv_iload_n hx hb d_M_learn_14 rfl (lv_at hl 1 rfl) ?_
    refine va_iald hx hb hK hP 3 0 rfl rfl (vp_in_nI (n := 3) (by decide) (by decide)) d_M_learn_15 ?_
    refine tpi (y := nI ng) (hnu) ?_
    refine lv_iconst (v := 1) hx hb d_M_learn_16 (by decide) ?_
    refine lv_iadd hx hb d_M_learn_17 ?_
    refine tpi (y := nI (ng + 1)) (nI_1 ng) ?_
    refine lv_goto (tgt := 27) hx hb d_M_learn_18 (by decide) ?_
    refine va_iast hx hb hK hP hD hS 3 0 rfl rfl (vp_in_nI (n := 3) (by decide) (by decide)) d_M_learn_27 (fun H locs hP hD hS => ?_)
    rw [show (3 : Int32).toNatClampNeg = 3 from rfl] at hP hD
    have hP : va_P D CLS [(y, .inr (5, [.int th, .int (nI bi), .int (nI ne), .int (nI li), .int (nI sp), .int (nI q), .ref ms, .ref mw, .ref mu, .ref mc, .ref mn, .int en, .int (nI sz), .ref mr, .int (nI wa), .ref mq, .int la, .ref md, .int at0, .int lk])), (mu, .inl (cI, 4, .inl su)), (mc, .inl (cI, 4, .inl cu)), (mn, .inl (cI, 4, .inl (upd nu 3 (nI (ng + 1)))))] H := hP
    have hD : va_D A [(y, .inr (5, [.int th, .int (nI bi), .int (nI ne), .int (nI li), .int (nI sp), .int (nI q), .ref ms, .ref mw, .ref mu, .ref mc, .ref mn, .int en, .int (nI sz), .ref mr, .int (nI wa), .ref mq, .int la, .ref md, .int at0, .int lk])), (mu, .inl (cI, 4, .inl su)), (mc, .inl (cI, 4, .inl cu)), (mn, .inl (cI, 4, .inl (upd nu 3 (nI (ng + 1)))))] := hD
    refine lv_aload_n hx hb d_M_learn_28 rfl (lv_at hl 0 rfl) ?_
    refine va_get (D := D) (ci := 5) (v := .ref mu) (C := R_M) (T := T_M) (N := 20) hx hb hg in_M hown hK hP 0 rfl rfl 8 (by decide) (hg _ gw_532) (fun _ h9 => h9) rfl d_M_learn_29 ?_
    refine lv_iload_n hx hb d_M_learn_32 rfl (lv_at hl 1 rfl) ?_
    refine lv_aload_n hx hb d_M_learn_33 rfl (lv_at hl 0 rfl) ?_
    refine va_get (D := D) (ci := 5) (v := .ref mu) (C := R_M) (T := T_M) (N := 20) hx hb hg in_M hown hK hP 0 rfl rfl 8 (by decide) (hg _ gw_532) (fun _ h9 => h9) rfl d_M_learn_34 ?_
    refine lv_iload_n hx hb d_M_learn_37 rfl (lv_at hl 1 rfl) ?_
    refine va_iald hx hb hK hP 1 0 rfl rfl (vp_in_nI (n := 3) (by decide) (by decide)) d_M_learn_38 ?_
    refine tpi (y := nI sm) (hsu) ?_
    refine lv_iload_n hx hb d_M_learn_39 rfl (lv_at hl 3 rfl) ?_
    refine lv_iconst (v := 1) hx hb d_M_learn_40 (by decide) ?_
    refine lv_iadd hx hb d_M_learn_41 ?_
    refine tpi (y := nI (N + 1)) (nI_1 N) ?_
    refine lv_iload_n hx hb d_M_learn_42 rfl (lv_at hl 2 rfl) ?_
    refine lv_isub hx hb d_M_learn_43 ?_
    refine tpi (y := nI (N + 1 - 1)) (pk_sub (b := 1) (by omega)) ?_
    refine lv_iconst (v := 2) hx hb d_M_learn_44 (by decide) ?_
    refine lv_idiv hx hb d_M_learn_45 (by decide) ?_
    refine tpi (y := nI ((N + 1 - 1) / 2)) (div2 (by omega)) ?_
    refine lv_iadd hx hb d_M_learn_46 ?_
    refine tpi (y := nI (sm + (N + 1 - 1) / 2)) (nI_add _ _) ?_
    refine va_iast hx hb hK hP hD hS 1 0 rfl rfl (vp_in_nI (n := 3) (by decide) (by decide)) d_M_learn_47 (fun H locs hP hD hS => ?_)
    rw [show (3 : Int32).toNatClampNeg = 3 from rfl] at hP hD
    have hP : va_P D CLS [(y, .inr (5, [.int th, .int (nI bi), .int (nI ne), .int (nI li), .int (nI sp), .int (nI q), .ref ms, .ref mw, .ref mu, .ref mc, .ref mn, .int en, .int (nI sz), .ref mr, .int (nI wa), .ref mq, .int la, .ref md, .int at0, .int lk])), (mu, .inl (cI, 4, .inl (upd su 3 (nI (sm + (N + 1 - 1) / 2))))), (mc, .inl (cI, 4, .inl cu)), (mn, .inl (cI, 4, .inl (upd nu 3 (nI (ng + 1)))))] H := hP
    have hD : va_D A [(y, .inr (5, [.int th, .int (nI bi), .int (nI ne), .int (nI li), .int (nI sp), .int (nI q), .ref ms, .ref mw, .ref mu, .ref mc, .ref mn, .int en, .int (nI sz), .ref mr, .int (nI wa), .ref mq, .int la, .ref md, .int at0, .int lk])), (mu, .inl (cI, 4, .inl (upd su 3 (nI (sm + (N + 1 - 1) / 2))))), (mc, .inl (cI, 4, .inl cu)), (mn, .inl (cI, 4, .inl (upd nu 3 (nI (ng + 1)))))] := hD
    refine lv_aload_n hx hb d_M_learn_48 rfl (lv_at hl 0 rfl) ?_
    refine va_get (D := D) (ci := 5) (v := .ref mc) (C := R_M) (T := T_M) (N := 20) hx hb hg in_M hown hK hP 0 rfl rfl 9 (by decide) (hg _ gw_533) (fun _ h9 => h9) rfl d_M_learn_49 ?_
    refine lv_iload_n hx hb d_M_learn_52 rfl (lv_at hl 1 rfl) ?_
    refine va_iald hx hb hK hP 2 0 rfl rfl (vp_in_nI (n := 3) (by decide) (by decide)) d_M_learn_53 ?_
    refine tpi (y := nI ct) (hcu) ?_
    refine lv_bipush (v := 64) hx hb d_M_learn_54 (by decide) ?_
    refine lv_icmp_ne (tgt := 101) hx hb d_M_learn_56 (by decide) (fun c_2 => ?_) (fun c_2 => ?_)
    · skip
      have h2 : ¬ ct = 64 := fun z => c_2 (by rw [z]; rfl)
      refine lv_aload_n hx hb d_M_learn_101 rfl (lv_at hl 0 rfl) ?_
      refine va_get (D := D) (ci := 5) (v := .ref mc) (C := R_M) (T := T_M) (N := 20) hx hb hg in_M hown hK hP 0 rfl rfl 9 (by decide) (hg _ gw_533) (fun _ h9 => h9) rfl d_M_learn_102 ?_
      refine lv_iload_n hx hb d_M_learn_105 rfl (lv_at hl 1 rfl) ?_
      refine lv_dup2_11 hx hb d_M_learn_106 rfl rfl ?_
      refine va_iald hx hb hK hP 2 0 rfl rfl (vp_in_nI (n := 3) (by decide) (by decide)) d_M_learn_107 ?_
      refine tpi (y := nI ct) (hcu) ?_
      refine lv_iconst (v := 1) hx hb d_M_learn_108 (by decide) ?_
      refine lv_iadd hx hb d_M_learn_109 ?_
      refine tpi (y := nI (hvd ct ct + 1)) (by rw [show hvd ct ct = ct from if_neg h2]; exact nI_1 ct) ?_
      refine va_iast hx hb hK hP hD hS 2 0 rfl rfl (vp_in_nI (n := 3) (by decide) (by decide)) d_M_learn_110 (fun H locs hP hD hS => ?_)
      rw [show (3 : Int32).toNatClampNeg = 3 from rfl] at hP hD
      have hP : va_P D CLS [(y, .inr (5, [.int th, .int (nI bi), .int (nI ne), .int (nI li), .int (nI sp), .int (nI q), .ref ms, .ref mw, .ref mu, .ref mc, .ref mn, .int en, .int (nI sz), .ref mr, .int (nI wa), .ref mq, .int la, .ref md, .int at0, .int lk])), (mu, .inl (cI, 4, .inl (upd su 3 (nI (sm + (N + 1 - 1) / 2))))), (mc, .inl (cI, 4, .inl (upd cu 3 (nI (hvd ct ct + 1))))), (mn, .inl (cI, 4, .inl (upd nu 3 (nI (ng + 1)))))] H := hP
      have hD : va_D A [(y, .inr (5, [.int th, .int (nI bi), .int (nI ne), .int (nI li), .int (nI sp), .int (nI q), .ref ms, .ref mw, .ref mu, .ref mc, .ref mn, .int en, .int (nI sz), .ref mr, .int (nI wa), .ref mq, .int la, .ref md, .int at0, .int lk])), (mu, .inl (cI, 4, .inl (upd su 3 (nI (sm + (N + 1 - 1) / 2))))), (mc, .inl (cI, 4, .inl (upd cu 3 (nI (hvd ct ct + 1))))), (mn, .inl (cI, 4, .inl (upd nu 3 (nI (ng + 1)))))] := hD
      exact W.vret hx hb hr (fun t ht hW => ⟨rfl, by rw [ht]; exact (by rw [show hvd ct (sm + (N + 1 - 1) / 2) = sm + (N + 1 - 1) / 2 from if_neg h2, show hvd ct (ng + 1) = (ng + 1) from if_neg h2]; exact hP), (hAe ▸ hS).F ht⟩) (hAe ▸ hS).2.2 d_M_learn_111
    · skip
      have h2 : ct = 64 := (nI_eq (b := 64) (by omega) (by omega)).mp c_2
      refine lv_aload_n hx hb d_M_learn_59 rfl (lv_at hl 0 rfl) ?_
      refine va_get (D := D) (ci := 5) (v := .ref mu) (C := R_M) (T := T_M) (N := 20) hx hb hg in_M hown hK hP 0 rfl rfl 8 (by decide) (hg _ gw_532) (fun _ h9 => h9) rfl d_M_learn_60 ?_
      refine lv_iload_n hx hb d_M_learn_63 rfl (lv_at hl 1 rfl) ?_
      refine lv_aload_n hx hb d_M_learn_64 rfl (lv_at hl 0 rfl) ?_
      refine va_get (D := D) (ci := 5) (v := .ref mu) (C := R_M) (T := T_M) (N := 20) hx hb hg in_M hown hK hP 0 rfl rfl 8 (by decide) (hg _ gw_532) (fun _ h9 => h9) rfl d_M_learn_65 ?_
      refine lv_iload_n hx hb d_M_learn_68 rfl (lv_at hl 1 rfl) ?_
      refine va_iald hx hb hK hP 1 0 rfl rfl (vp_in_nI (n := 3) (by decide) (by decide)) d_M_learn_69 ?_
      refine tpi (y := nI (sm + (N + 1 - 1) / 2)) (pk_us) ?_
      refine lv_iconst (v := 2) hx hb d_M_learn_70 (by decide) ?_
      refine lv_idiv hx hb d_M_learn_71 (by decide) ?_
      refine tpi (y := nI ((sm + (N + 1 - 1) / 2) / 2)) (div2 (by omega)) ?_
      refine va_iast hx hb hK hP hD hS 1 0 rfl rfl (vp_in_nI (n := 3) (by decide) (by decide)) d_M_learn_72 (fun H locs hP hD hS => ?_)
      rw [show (3 : Int32).toNatClampNeg = 3 from rfl, updd] at hP hD
      have hP : va_P D CLS [(y, .inr (5, [.int th, .int (nI bi), .int (nI ne), .int (nI li), .int (nI sp), .int (nI q), .ref ms, .ref mw, .ref mu, .ref mc, .ref mn, .int en, .int (nI sz), .ref mr, .int (nI wa), .ref mq, .int la, .ref md, .int at0, .int lk])), (mu, .inl (cI, 4, .inl (upd su 3 (nI ((sm + (N + 1 - 1) / 2) / 2))))), (mc, .inl (cI, 4, .inl cu)), (mn, .inl (cI, 4, .inl (upd nu 3 (nI (ng + 1)))))] H := hP
      have hD : va_D A [(y, .inr (5, [.int th, .int (nI bi), .int (nI ne), .int (nI li), .int (nI sp), .int (nI q), .ref ms, .ref mw, .ref mu, .ref mc, .ref mn, .int en, .int (nI sz), .ref mr, .int (nI wa), .ref mq, .int la, .ref md, .int at0, .int lk])), (mu, .inl (cI, 4, .inl (upd su 3 (nI ((sm + (N + 1 - 1) / 2) / 2))))), (mc, .inl (cI, 4, .inl cu)), (mn, .inl (cI, 4, .inl (upd nu 3 (nI (ng + 1)))))] := hD
      refine lv_aload_n hx hb d_M_learn_73 rfl (lv_at hl 0 rfl) ?_
      refine va_get (D := D) (ci := 5) (v := .ref mc) (C := R_M) (T := T_M) (N := 20) hx hb hg in_M hown hK hP 0 rfl rfl 9 (by decide) (hg _ gw_533) (fun _ h9 => h9) rfl d_M_learn_74 ?_
      refine lv_iload_n hx hb d_M_learn_77 rfl (lv_at hl 1 rfl) ?_
      refine lv_aload_n hx hb d_M_learn_78 rfl (lv_at hl 0 rfl) ?_
      refine va_get (D := D) (ci := 5) (v := .ref mc) (C := R_M) (T := T_M) (N := 20) hx hb hg in_M hown hK hP 0 rfl rfl 9 (by decide) (hg _ gw_533) (fun _ h9 => h9) rfl d_M_learn_79 ?_
      refine lv_iload_n hx hb d_M_learn_82 rfl (lv_at hl 1 rfl) ?_
      refine va_iald hx hb hK hP 2 0 rfl rfl (vp_in_nI (n := 3) (by decide) (by decide)) d_M_learn_83 ?_
      refine tpi (y := nI ct) (hcu) ?_
      refine lv_iconst (v := 2) hx hb d_M_learn_84 (by decide) ?_
      refine lv_idiv hx hb d_M_learn_85 (by decide) ?_
      refine tpi (y := nI (ct / 2)) (div2 (by omega)) ?_
      refine va_iast hx hb hK hP hD hS 2 0 rfl rfl (vp_in_nI (n := 3) (by decide) (by decide)) d_M_learn_86 (fun H locs hP hD hS => ?_)
      rw [show (3 : Int32).toNatClampNeg = 3 from rfl] at hP hD
      have hP : va_P D CLS [(y, .inr (5, [.int th, .int (nI bi), .int (nI ne), .int (nI li), .int (nI sp), .int (nI q), .ref ms, .ref mw, .ref mu, .ref mc, .ref mn, .int en, .int (nI sz), .ref mr, .int (nI wa), .ref mq, .int la, .ref md, .int at0, .int lk])), (mu, .inl (cI, 4, .inl (upd su 3 (nI ((sm + (N + 1 - 1) / 2) / 2))))), (mc, .inl (cI, 4, .inl (upd cu 3 (nI (ct / 2))))), (mn, .inl (cI, 4, .inl (upd nu 3 (nI (ng + 1)))))] H := hP
      have hD : va_D A [(y, .inr (5, [.int th, .int (nI bi), .int (nI ne), .int (nI li), .int (nI sp), .int (nI q), .ref ms, .ref mw, .ref mu, .ref mc, .ref mn, .int en, .int (nI sz), .ref mr, .int (nI wa), .ref mq, .int la, .ref md, .int at0, .int lk])), (mu, .inl (cI, 4, .inl (upd su 3 (nI ((sm + (N + 1 - 1) / 2) / 2))))), (mc, .inl (cI, 4, .inl (upd cu 3 (nI (ct / 2))))), (mn, .inl (cI, 4, .inl (upd nu 3 (nI (ng + 1)))))] := hD
      refine lv_aload_n hx hb d_M_learn_87 rfl (lv_at hl 0 rfl) ?_
      refine va_get (D := D) (ci := 5) (v := .ref mn) (C := R_M) (T := T_M) (N := 20) hx hb hg in_M hown hK hP 0 rfl rfl 10 (by decide) (hg _ gw_534) (fun _ h9 => h9) rfl d_M_learn_88 ?_
      refine lv_iload_n hx hb d_M_learn_91 rfl (lv_at hl 1 rfl) ?_
      refine lv_aload_n hx hb d_M_learn_92 rfl (lv_at hl 0 rfl) ?_
      refine va_get (D := D) (ci := 5) (v := .ref mn) (C := R_M) (T := T_M) (N := 20) hx hb hg in_M hown hK hP 0 rfl rfl 10 (by decide) (hg _ gw_534) (fun _ h9 => h9) rfl d_M_learn_93 ?_
      refine lv_iload_n hx hb d_M_learn_96 rfl (lv_at hl 1 rfl) ?_
      refine va_iald hx hb hK hP 3 0 rfl rfl (vp_in_nI (n := 3) (by decide) (by decide)) d_M_learn_97 ?_
      refine tpi (y := nI (ng + 1)) (pk_us) ?_
      refine lv_iconst (v := 2) hx hb d_M_learn_98 (by decide) ?_
      refine lv_idiv hx hb d_M_learn_99 (by decide) ?_
      refine tpi (y := nI ((ng + 1) / 2)) (div2 (by omega)) ?_
      refine va_iast hx hb hK hP hD hS 3 0 rfl rfl (vp_in_nI (n := 3) (by decide) (by decide)) d_M_learn_100 (fun H locs hP hD hS => ?_)
      rw [show (3 : Int32).toNatClampNeg = 3 from rfl, updd] at hP hD
      have hP : va_P D CLS [(y, .inr (5, [.int th, .int (nI bi), .int (nI ne), .int (nI li), .int (nI sp), .int (nI q), .ref ms, .ref mw, .ref mu, .ref mc, .ref mn, .int en, .int (nI sz), .ref mr, .int (nI wa), .ref mq, .int la, .ref md, .int at0, .int lk])), (mu, .inl (cI, 4, .inl (upd su 3 (nI ((sm + (N + 1 - 1) / 2) / 2))))), (mc, .inl (cI, 4, .inl (upd cu 3 (nI (ct / 2))))), (mn, .inl (cI, 4, .inl (upd nu 3 (nI ((ng + 1) / 2)))))] H := hP
      have hD : va_D A [(y, .inr (5, [.int th, .int (nI bi), .int (nI ne), .int (nI li), .int (nI sp), .int (nI q), .ref ms, .ref mw, .ref mu, .ref mc, .ref mn, .int en, .int (nI sz), .ref mr, .int (nI wa), .ref mq, .int la, .ref md, .int at0, .int lk])), (mu, .inl (cI, 4, .inl (upd su 3 (nI ((sm + (N + 1 - 1) / 2) / 2))))), (mc, .inl (cI, 4, .inl (upd cu 3 (nI (ct / 2))))), (mn, .inl (cI, 4, .inl (upd nu 3 (nI ((ng + 1) / 2)))))] := hD
      refine lv_aload_n hx hb d_M_learn_101 rfl (lv_at hl 0 rfl) ?_
      refine va_get (D := D) (ci := 5) (v := .ref mc) (C := R_M) (T := T_M) (N := 20) hx hb hg in_M hown hK hP 0 rfl rfl 9 (by decide) (hg _ gw_533) (fun _ h9 => h9) rfl d_M_learn_102 ?_
      refine lv_iload_n hx hb d_M_learn_105 rfl (lv_at hl 1 rfl) ?_
      refine lv_dup2_11 hx hb d_M_learn_106 rfl rfl ?_
      refine va_iald hx hb hK hP 2 0 rfl rfl (vp_in_nI (n := 3) (by decide) (by decide)) d_M_learn_107 ?_
      refine tpi (y := nI (ct / 2)) (pk_us) ?_
      refine lv_iconst (v := 1) hx hb d_M_learn_108 (by decide) ?_
      refine lv_iadd hx hb d_M_learn_109 ?_
      refine tpi (y := nI (ct / 2 + 1)) (nI_1 _) ?_
      refine va_iast hx hb hK hP hD hS 2 0 rfl rfl (vp_in_nI (n := 3) (by decide) (by decide)) d_M_learn_110 (fun H locs hP hD hS => ?_)
      rw [show (3 : Int32).toNatClampNeg = 3 from rfl, updd] at hP hD
      have hP : va_P D CLS [(y, .inr (5, [.int th, .int (nI bi), .int (nI ne), .int (nI li), .int (nI sp), .int (nI q), .ref ms, .ref mw, .ref mu, .ref mc, .ref mn, .int en, .int (nI sz), .ref mr, .int (nI wa), .ref mq, .int la, .ref md, .int at0, .int lk])), (mu, .inl (cI, 4, .inl (upd su 3 (nI ((sm + (N + 1 - 1) / 2) / 2))))), (mc, .inl (cI, 4, .inl (upd cu 3 (nI (ct / 2 + 1))))), (mn, .inl (cI, 4, .inl (upd nu 3 (nI ((ng + 1) / 2)))))] H := hP
      have hD : va_D A [(y, .inr (5, [.int th, .int (nI bi), .int (nI ne), .int (nI li), .int (nI sp), .int (nI q), .ref ms, .ref mw, .ref mu, .ref mc, .ref mn, .int en, .int (nI sz), .ref mr, .int (nI wa), .ref mq, .int la, .ref md, .int at0, .int lk])), (mu, .inl (cI, 4, .inl (upd su 3 (nI ((sm + (N + 1 - 1) / 2) / 2))))), (mc, .inl (cI, 4, .inl (upd cu 3 (nI (ct / 2 + 1))))), (mn, .inl (cI, 4, .inl (upd nu 3 (nI ((ng + 1) / 2)))))] := hD
      exact W.vret hx hb hr (fun t ht hW => ⟨rfl, by rw [ht]; exact (by rw [show hvd ct (sm + (N + 1 - 1) / 2) = (sm + (N + 1 - 1) / 2) / 2 from if_pos h2, show hvd ct ct = ct / 2 from if_pos h2, show hvd ct (ng + 1) = (ng + 1) / 2 from if_pos h2]; exact hP), (hAe ▸ hS).F ht⟩) (hAe ▸ hS).2.2 d_M_learn_111
set_option maxHeartbeats 4000000 in
set_option maxRecDepth 100000 in
theorem c_M_comes (l : Launch) (D : va_G) (y ms mw mu mc mn mr mq md bi ne li sp q sz wa : Nat) (th en la at0 lk : Int32) (cB : ClassId) (wq : Nat → Int32) (b0 : Int32) (hb0 : b0 = 0 ∨ b0 = 1) (hwa : wa < 1000) : Met l y_M_comes (WSY y_M_comes b_M_comes 2 (some .boolean)) ({ frames := 0, cells := 0, slots := 0, locals := 0 }) (va_Pc [.ref y, .int b0] (fun U => va_P D CLS [(y, .inr (5, [.int th, .int (nI bi), .int (nI ne), .int (nI li), .int (nI sp), .int (nI q), .ref ms, .ref mw, .ref mu, .ref mc, .ref mn, .int en, .int (nI sz), .ref mr, .int (nI wa), .ref mq, .int la, .ref md, .int at0, .int lk])), (mq, .inl (cB, 1000, .inl wq))] U.heap ∧ va_K D CLS [(cB, .byte)] U ∧ va_D (fun _ => True) [(y, .inr (5, [.int th, .int (nI bi), .int (nI ne), .int (nI li), .int (nI sp), .int (nI q), .ref ms, .ref mw, .ref mu, .ref mc, .ref mn, .int en, .int (nI sz), .ref mr, .int (nI wa), .ref mq, .int la, .ref md, .int at0, .int lk])), (mq, .inl (cB, 1000, .inl wq))])) (QM (some (.int 1)) [(y, .inr (5, [.int th, .int (nI bi), .int (nI ne), .int (nI li), .int (nI sp), .int (nI q), .ref ms, .ref mw, .ref mu, .ref mc, .ref mn, .int en, .int (nI sz), .ref mr, .int (nI wa), .ref mq, .int la, .ref md, .int at0, .int lk])), (mq, .inl (cB, 1000, .inl wq))] [(y, .inr (5, [.int th, .int (nI bi), .int (nI ne), .int (nI li), .int (nI sp), .int (nI q), .ref ms, .ref mw, .ref mu, .ref mc, .ref mn, .int en, .int (nI sz), .ref mr, .int (nI (wa + 1)), .ref mq, .int la, .ref md, .int at0, .int lk])), (mq, .inl (cB, 1000, .inl (upd wq wa b0)))] D) 0 0 (ad [(y, .inr (5, [.int th, .int (nI bi), .int (nI ne), .int (nI li), .int (nI sp), .int (nI q), .ref ms, .ref mw, .ref mu, .ref mc, .ref mn, .int en, .int (nI sz), .ref mr, .int (nI wa), .ref mq, .int la, .ref md, .int at0, .int lk])), (mq, .inl (cB, 1000, .inl wq))]) := by
  refine Met.ofW (cc := b_M_comes) (maxL := 2) (ret := (some .boolean)) (by decide) rfl ?_
  intro p e s m args below meth c s₁ B hml hv
  obtain ⟨rfl, hP, hK, hD0⟩ := hv
  have hx := B.exec
  have hb := B.bytes
  have hr := B.returns
  have hts := atoms_spec (ws := WSY y_M_comes b_M_comes 2 (some .boolean)) B.pre
  have hg : ∀ w ∈ GW, w.before _ s = true := fun w h => hts w (List.mem_cons_of_mem _ h)
  have hown : s.vm.findClass "LineGolombModel" = some m.cls := findClass_of_methodNamed B.named
  have hlocks := B.notSynchronized
  obtain ⟨A, hAe⟩ : ∃ A, A = ad [(y, .inr (5, [.int th, .int (nI bi), .int (nI ne), .int (nI li), .int (nI sp), .int (nI q), .ref ms, .ref mw, .ref mu, .ref mc, .ref mn, .int en, .int (nI sz), .ref mr, .int (nI wa), .ref mq, .int la, .ref md, .int at0, .int lk])), (mq, .inl (cB, 1000, .inl wq))] := ⟨_, rfl⟩
  have hD : va_D A [(y, .inr (5, [.int th, .int (nI bi), .int (nI ne), .int (nI li), .int (nI sp), .int (nI q), .ref ms, .ref mw, .ref mu, .ref mc, .ref mn, .int en, .int (nI sz), .ref mr, .int (nI wa), .ref mq, .int la, .ref md, .int at0, .int lk])), (mq, .inl (cB, 1000, .inl wq))] := by rw [hAe]; exact va_D_ad hD0
  have hS : va_S A s.heap s.heap [] := va_S.rf
  have hl := lv_entry ([.ref y, .int b0]) (n := 2) (Nat.le_of_ble_eq_true rfl)
  rw [lg_entry_eq]
  generalize (lg_sl ([.ref y, .int b0]) ++ List.replicate (2 - (lg_sl ([.ref y, .int b0])).length) Slot.unset).toArray = ls at hl ⊢
  have hl : lv_has ls 2 [(0, .ref y), (1, .int b0)] := hl
  refine lv_aload_n hx hb d_M_comes_0 rfl (lv_at hl 0 rfl) ?_
  refine va_get (D := D) (ci := 5) (v := .int (nI wa)) (C := R_M) (T := T_M) (N := 20) hx hb hg in_M hown hK hP 0 rfl rfl 14 (by decide) (hg _ gw_538) (fun _ h9 => h9) rfl d_M_comes_1 ?_
  refine lv_sipush (v := 1000) hx hb d_M_comes_4 (by decide) ?_
  refine lv_icmp_ne (tgt := 12) hx hb d_M_comes_7 (by decide) (fun c_1 => ?_) (fun c_1 => ?_)
  · skip
    refine lv_aload_n hx hb d_M_comes_12 rfl (lv_at hl 0 rfl) ?_
    refine va_get (D := D) (ci := 5) (v := .ref mq) (C := R_M) (T := T_M) (N := 20) hx hb hg in_M hown hK hP 0 rfl rfl 15 (by decide) (hg _ gw_539) (fun _ h9 => h9) rfl d_M_comes_13 ?_
    refine lv_aload_n hx hb d_M_comes_16 rfl (lv_at hl 0 rfl) ?_
    refine va_get (D := D) (ci := 5) (v := .int (nI wa)) (C := R_M) (T := T_M) (N := 20) hx hb hg in_M hown hK hP 0 rfl rfl 14 (by decide) (hg _ gw_538) (fun _ h9 => h9) rfl d_M_comes_17 ?_
    refine lv_iload_n hx hb d_M_comes_20 rfl (lv_at hl 1 rfl) ?_
    refine lv_i2b (v := b0) hx hb d_M_comes_21 (b8 hb0) ?_
    refine va_bast hx hb hK hP hD hS 1 0 rfl rfl (vp_in_nI hwa (by omega)) d_M_comes_22 (fun H locs hP hD hS => ?_)
    rw [nI_clamp (show wa < 2 ^ 31 by omega), n8 hb0] at hP hD
    have hP : va_P D CLS [(y, .inr (5, [.int th, .int (nI bi), .int (nI ne), .int (nI li), .int (nI sp), .int (nI q), .ref ms, .ref mw, .ref mu, .ref mc, .ref mn, .int en, .int (nI sz), .ref mr, .int (nI wa), .ref mq, .int la, .ref md, .int at0, .int lk])), (mq, .inl (cB, 1000, .inl (upd wq wa b0)))] H := hP
    have hD : va_D A [(y, .inr (5, [.int th, .int (nI bi), .int (nI ne), .int (nI li), .int (nI sp), .int (nI q), .ref ms, .ref mw, .ref mu, .ref mc, .ref mn, .int en, .int (nI sz), .ref mr, .int (nI wa), .ref mq, .int la, .ref md, .int at0, .int lk])), (mq, .inl (cB, 1000, .inl (upd wq wa b0)))] := hD
    refine lv_aload_n hx hb d_M_comes_23 rfl (lv_at hl 0 rfl) ?_
    refine lv_dup hx hb d_M_comes_24 rfl ?_
    refine va_get (D := D) (ci := 5) (v := .int (nI wa)) (C := R_M) (T := T_M) (N := 20) hx hb hg in_M hown hK hP 0 rfl rfl 14 (by decide) (hg _ gw_538) (fun _ h9 => h9) rfl d_M_comes_25 ?_
    refine lv_iconst (v := 1) hx hb d_M_comes_28 (by decide) ?_
    refine lv_iadd hx hb d_M_comes_29 ?_
    refine tpi (y := nI (wa + 1)) (nI_1 wa) ?_
    refine va_put (D := D) (ci := 5) (v := .int (nI (wa + 1))) (ty := .int) (C := R_M) (T := T_M) (N := 20) hx hb hg in_M ty_M tok_M nm_M hown hK hP hD hS 0 rfl rfl 14 (by decide) (hg _ gw_538) (fun _ h9 => h9) rfl (by decide +kernel) (rfl) (rfl) (Nat.le_of_ble_eq_true rfl) d_M_comes_30 (fun H locs hP hD hS => ?_)
    have hP : va_P D CLS [(y, .inr (5, [.int th, .int (nI bi), .int (nI ne), .int (nI li), .int (nI sp), .int (nI q), .ref ms, .ref mw, .ref mu, .ref mc, .ref mn, .int en, .int (nI sz), .ref mr, .int (nI (wa + 1)), .ref mq, .int la, .ref md, .int at0, .int lk])), (mq, .inl (cB, 1000, .inl (upd wq wa b0)))] H := hP
    have hD : va_D A [(y, .inr (5, [.int th, .int (nI bi), .int (nI ne), .int (nI li), .int (nI sp), .int (nI q), .ref ms, .ref mw, .ref mu, .ref mc, .ref mn, .int en, .int (nI sz), .ref mr, .int (nI (wa + 1)), .ref mq, .int la, .ref md, .int at0, .int lk])), (mq, .inl (cB, 1000, .inl (upd wq wa b0)))] := hD
    refine lv_iconst (v := 1) hx hb d_M_comes_33 (by decide) ?_
    exact W.zret (v := 1) hx hb hr (rfl) (fun t ht hW => ⟨rfl, by rw [ht]; exact hP, (hAe ▸ hS).F ht⟩) (hAe ▸ hS).2.2 d_M_comes_34
  · skip
    exact absurd ((nI_eq (b := 1000) (by omega) (by omega)).mp c_1) (by omega)
set_option maxHeartbeats 4000000 in
set_option maxRecDepth 100000 in
theorem c_M_comesF (l : Launch) (D : va_G) (y ms mw mu mc mn mr mq md bi ne li sp q sz wa : Nat) (th en la at0 lk : Int32) (cB : ClassId) (wq : Nat → Int32) (b0 : Int32) (hwa : wa = 1000) : Met l y_M_comes (WSY y_M_comes b_M_comes 2 (some .boolean)) ({ frames := 0, cells := 0, slots := 0, locals := 0 }) (va_Pc [.ref y, .int b0] (fun U => va_P D CLS [(y, .inr (5, [.int th, .int (nI bi), .int (nI ne), .int (nI li), .int (nI sp), .int (nI q), .ref ms, .ref mw, .ref mu, .ref mc, .ref mn, .int en, .int (nI sz), .ref mr, .int (nI wa), .ref mq, .int la, .ref md, .int at0, .int lk])), (mq, .inl (cB, 1000, .inl wq))] U.heap ∧ va_K D CLS [(cB, .byte)] U ∧ va_D (fun _ => True) [(y, .inr (5, [.int th, .int (nI bi), .int (nI ne), .int (nI li), .int (nI sp), .int (nI q), .ref ms, .ref mw, .ref mu, .ref mc, .ref mn, .int en, .int (nI sz), .ref mr, .int (nI wa), .ref mq, .int la, .ref md, .int at0, .int lk])), (mq, .inl (cB, 1000, .inl wq))])) (QM (some (.int 0)) [(y, .inr (5, [.int th, .int (nI bi), .int (nI ne), .int (nI li), .int (nI sp), .int (nI q), .ref ms, .ref mw, .ref mu, .ref mc, .ref mn, .int en, .int (nI sz), .ref mr, .int (nI wa), .ref mq, .int la, .ref md, .int at0, .int lk])), (mq, .inl (cB, 1000, .inl wq))] [(y, .inr (5, [.int th, .int (nI bi), .int (nI ne), .int (nI li), .int (nI sp), .int (nI q), .ref ms, .ref mw, .ref mu, .ref mc, .ref mn, .int en, .int (nI sz), .ref mr, .int (nI wa), .ref mq, .int la, .ref md, .int at0, .int lk])), (mq, .inl (cB, 1000, .inl wq))] D) 0 0 (ad [(y, .inr (5, [.int th, .int (nI bi), .int (nI ne), .int (nI li), .int (nI sp), .int (nI q), .ref ms, .ref mw, .ref mu, .ref mc, .ref mn, .int en, .int (nI sz), .ref mr, .int (nI wa), .ref mq, .int la, .ref md, .int at0, .int lk])), (mq, .inl (cB, 1000, .inl wq))]) := by
  refine Met.ofW (cc := b_M_comes) (maxL := 2) (ret := (some .boolean)) (by decide) rfl ?_
  intro p e s m args below meth c s₁ B hml hv
  obtain ⟨rfl, hP, hK, hD0⟩ := hv
  have hx := B.exec
  have hb := B.bytes
  have hr := B.returns
  have hts := atoms_spec (ws := WSY y_M_comes b_M_comes 2 (some .boolean)) B.pre
  have hg : ∀ w ∈ GW, w.before _ s = true := fun w h => hts w (List.mem_cons_of_mem _ h)
  have hown : s.vm.findClass "LineGolombModel" = some m.cls := findClass_of_methodNamed B.named
  have hlocks := B.notSynchronized
  obtain ⟨A, hAe⟩ : ∃ A, A = ad [(y, .inr (5, [.int th, .int (nI bi), .int (nI ne), .int (nI li), .int (nI sp), .int (nI q), .ref ms, .ref mw, .ref mu, .ref mc, .ref mn, .int en, .int (nI sz), .ref mr, .int (nI wa), .ref mq, .int la, .ref md, .int at0, .int lk])), (mq, .inl (cB, 1000, .inl wq))] := ⟨_, rfl⟩
  have hD : va_D A [(y, .inr (5, [.int th, .int (nI bi), .int (nI ne), .int (nI li), .int (nI sp), .int (nI q), .ref ms, .ref mw, .ref mu, .ref mc, .ref mn, .int en, .int (nI sz), .ref mr, .int (nI wa), .ref mq, .int la, .ref md, .int at0, .int lk])), (mq, .inl (cB, 1000, .inl wq))] := by rw [hAe]; exact va_D_ad hD0
  have hS : va_S A s.heap s.heap [] := va_S.rf
  have hl := lv_entry ([.ref y, .int b0]) (n := 2) (Nat.le_of_ble_eq_true rfl)
  rw [lg_entry_eq]
  generalize (lg_sl ([.ref y, .int b0]) ++ List.replicate (2 - (lg_sl ([.ref y, .int b0])).length) Slot.unset).toArray = ls at hl ⊢
  have hl : lv_has ls 2 [(0, .ref y), (1, .int b0)] := hl
  refine lv_aload_n hx hb d_M_comes_0 rfl (lv_at hl 0 rfl) ?_
  refine va_get (D := D) (ci := 5) (v := .int (nI wa)) (C := R_M) (T := T_M) (N := 20) hx hb hg in_M hown hK hP 0 rfl rfl 14 (by decide) (hg _ gw_538) (fun _ h9 => h9) rfl d_M_comes_1 ?_
  refine lv_sipush (v := 1000) hx hb d_M_comes_4 (by decide) ?_
  refine lv_icmp_ne (tgt := 12) hx hb d_M_comes_7 (by decide) (fun c_1 => ?_) (fun c_1 => ?_)
  · skip
    exact absurd (by rw [hwa]; rfl) c_1
  · skip
    refine lv_iconst (v := 0) hx hb d_M_comes_10 (by decide) ?_
    exact W.zret (v := 0) hx hb hr (rfl) (fun t ht hW => ⟨rfl, by rw [ht]; exact hP, (hAe ▸ hS).F ht⟩) (hAe ▸ hS).2.2 d_M_comes_11
set_option maxHeartbeats 4000000 in
set_option maxRecDepth 100000 in
theorem c_M_next (l : Launch) (D : va_G) (y ms mw mu mc mn mr mq md bi ne li sp q sz wa : Nat) (th en la at0 lk : Int32) (cB : ClassId) (wq : Nat → Int32) (a0 : Nat) (hwa : wa ≤ 1000) (ha : a0 < wa) : Met l y_M_next (WSY y_M_next b_M_next 1 (some .int)) ({ frames := 0, cells := 0, slots := 0, locals := 0 }) (va_Pc [.ref y] (fun U => va_P D CLS [(y, .inr (5, [.int th, .int (nI bi), .int (nI ne), .int (nI li), .int (nI sp), .int (nI q), .ref ms, .ref mw, .ref mu, .ref mc, .ref mn, .int en, .int (nI sz), .ref mr, .int (nI wa), .ref mq, .int la, .ref md, .int (nI a0), .int lk])), (mq, .inl (cB, 1000, .inl wq))] U.heap ∧ va_K D CLS [(cB, .byte)] U ∧ va_D (fun _ => True) [(y, .inr (5, [.int th, .int (nI bi), .int (nI ne), .int (nI li), .int (nI sp), .int (nI q), .ref ms, .ref mw, .ref mu, .ref mc, .ref mn, .int en, .int (nI sz), .ref mr, .int (nI wa), .ref mq, .int la, .ref md, .int (nI a0), .int lk])), (mq, .inl (cB, 1000, .inl wq))])) (QM (some (.int (wq a0))) [(y, .inr (5, [.int th, .int (nI bi), .int (nI ne), .int (nI li), .int (nI sp), .int (nI q), .ref ms, .ref mw, .ref mu, .ref mc, .ref mn, .int en, .int (nI sz), .ref mr, .int (nI wa), .ref mq, .int la, .ref md, .int (nI a0), .int lk])), (mq, .inl (cB, 1000, .inl wq))] [(y, .inr (5, [.int th, .int (nI bi), .int (nI ne), .int (nI li), .int (nI sp), .int (nI q), .ref ms, .ref mw, .ref mu, .ref mc, .ref mn, .int en, .int (nI sz), .ref mr, .int (nI wa), .ref mq, .int la, .ref md, .int (nI (a0 + 1)), .int lk])), (mq, .inl (cB, 1000, .inl wq))] D) 0 0 (ad [(y, .inr (5, [.int th, .int (nI bi), .int (nI ne), .int (nI li), .int (nI sp), .int (nI q), .ref ms, .ref mw, .ref mu, .ref mc, .ref mn, .int en, .int (nI sz), .ref mr, .int (nI wa), .ref mq, .int la, .ref md, .int (nI a0), .int lk])), (mq, .inl (cB, 1000, .inl wq))]) := by
  refine Met.ofW (cc := b_M_next) (maxL := 1) (ret := (some .int)) (by decide) rfl ?_
  intro p e s m args below meth c s₁ B hml hv
  obtain ⟨rfl, hP, hK, hD0⟩ := hv
  have hx := B.exec
  have hb := B.bytes
  have hr := B.returns
  have hts := atoms_spec (ws := WSY y_M_next b_M_next 1 (some .int)) B.pre
  have hg : ∀ w ∈ GW, w.before _ s = true := fun w h => hts w (List.mem_cons_of_mem _ h)
  have hown : s.vm.findClass "LineGolombModel" = some m.cls := findClass_of_methodNamed B.named
  have hlocks := B.notSynchronized
  obtain ⟨A, hAe⟩ : ∃ A, A = ad [(y, .inr (5, [.int th, .int (nI bi), .int (nI ne), .int (nI li), .int (nI sp), .int (nI q), .ref ms, .ref mw, .ref mu, .ref mc, .ref mn, .int en, .int (nI sz), .ref mr, .int (nI wa), .ref mq, .int la, .ref md, .int (nI a0), .int lk])), (mq, .inl (cB, 1000, .inl wq))] := ⟨_, rfl⟩
  have hD : va_D A [(y, .inr (5, [.int th, .int (nI bi), .int (nI ne), .int (nI li), .int (nI sp), .int (nI q), .ref ms, .ref mw, .ref mu, .ref mc, .ref mn, .int en, .int (nI sz), .ref mr, .int (nI wa), .ref mq, .int la, .ref md, .int (nI a0), .int lk])), (mq, .inl (cB, 1000, .inl wq))] := by rw [hAe]; exact va_D_ad hD0
  have hS : va_S A s.heap s.heap [] := va_S.rf
  have hl := lv_entry ([.ref y]) (n := 1) (Nat.le_of_ble_eq_true rfl)
  rw [lg_entry_eq]
  generalize (lg_sl ([.ref y]) ++ List.replicate (1 - (lg_sl ([.ref y])).length) Slot.unset).toArray = ls at hl ⊢
  have hl : lv_has ls 1 [(0, .ref y)] := hl
  refine lv_aload_n hx hb d_M_next_0 rfl (lv_at hl 0 rfl) ?_
  refine va_get (D := D) (ci := 5) (v := .int (nI a0)) (C := R_M) (T := T_M) (N := 20) hx hb hg in_M hown hK hP 0 rfl rfl 18 (by decide) (hg _ gw_542) (fun _ h9 => h9) rfl d_M_next_1 ?_
  refine lv_aload_n hx hb d_M_next_4 rfl (lv_at hl 0 rfl) ?_
  refine va_get (D := D) (ci := 5) (v := .int (nI wa)) (C := R_M) (T := T_M) (N := 20) hx hb hg in_M hown hK hP 0 rfl rfl 14 (by decide) (hg _ gw_538) (fun _ h9 => h9) rfl d_M_next_5 ?_
  refine lv_icmp_lt (tgt := 18) hx hb d_M_next_8 (by decide) (fun c_1 => ?_) (fun c_1 => ?_)
  · skip
    refine lv_aload_n hx hb d_M_next_18 rfl (lv_at hl 0 rfl) ?_
    refine lv_dup hx hb d_M_next_19 rfl ?_
    refine va_get (D := D) (ci := 5) (v := .int (nI a0)) (C := R_M) (T := T_M) (N := 20) hx hb hg in_M hown hK hP 0 rfl rfl 18 (by decide) (hg _ gw_542) (fun _ h9 => h9) rfl d_M_next_20 ?_
    refine lv_iconst (v := 1) hx hb d_M_next_23 (by decide) ?_
    refine lv_iadd hx hb d_M_next_24 ?_
    refine tpi (y := nI (a0 + 1)) (nI_1 a0) ?_
    refine va_put (D := D) (ci := 5) (v := .int (nI (a0 + 1))) (ty := .int) (C := R_M) (T := T_M) (N := 20) hx hb hg in_M ty_M tok_M nm_M hown hK hP hD hS 0 rfl rfl 18 (by decide) (hg _ gw_542) (fun _ h9 => h9) rfl (by decide +kernel) (rfl) (rfl) (Nat.le_of_ble_eq_true rfl) d_M_next_25 (fun H locs hP hD hS => ?_)
    have hP : va_P D CLS [(y, .inr (5, [.int th, .int (nI bi), .int (nI ne), .int (nI li), .int (nI sp), .int (nI q), .ref ms, .ref mw, .ref mu, .ref mc, .ref mn, .int en, .int (nI sz), .ref mr, .int (nI wa), .ref mq, .int la, .ref md, .int (nI (a0 + 1)), .int lk])), (mq, .inl (cB, 1000, .inl wq))] H := hP
    have hD : va_D A [(y, .inr (5, [.int th, .int (nI bi), .int (nI ne), .int (nI li), .int (nI sp), .int (nI q), .ref ms, .ref mw, .ref mu, .ref mc, .ref mn, .int en, .int (nI sz), .ref mr, .int (nI wa), .ref mq, .int la, .ref md, .int (nI (a0 + 1)), .int lk])), (mq, .inl (cB, 1000, .inl wq))] := hD
    refine lv_aload_n hx hb d_M_next_28 rfl (lv_at hl 0 rfl) ?_
    refine va_get (D := D) (ci := 5) (v := .ref mq) (C := R_M) (T := T_M) (N := 20) hx hb hg in_M hown hK hP 0 rfl rfl 15 (by decide) (hg _ gw_539) (fun _ h9 => h9) rfl d_M_next_29 ?_
    refine lv_aload_n hx hb d_M_next_32 rfl (lv_at hl 0 rfl) ?_
    refine va_get (D := D) (ci := 5) (v := .int (nI (a0 + 1))) (C := R_M) (T := T_M) (N := 20) hx hb hg in_M hown hK hP 0 rfl rfl 18 (by decide) (hg _ gw_542) (fun _ h9 => h9) rfl d_M_next_33 ?_
    refine lv_iconst (v := 1) hx hb d_M_next_36 (by decide) ?_
    refine lv_isub hx hb d_M_next_37 ?_
    refine tpi (y := nI a0) (nI_pred a0) ?_
    refine va_bald hx hb hK hP 1 0 rfl rfl (vp_in_nI (by omega) (by omega)) d_M_next_38 ?_
    refine tpi (y := wq a0) (by rw [nI_clamp (by omega)]) ?_
    exact W.iret (v := wq a0) hx hb hr (fun t ht hW => ⟨rfl, by rw [ht]; exact hP, (hAe ▸ hS).F ht⟩) (hAe ▸ hS).2.2 d_M_next_39
  · skip
    exact absurd (nI_lt ha (by omega)) c_1
set_option maxHeartbeats 4000000 in
set_option maxRecDepth 100000 in
theorem c_M_nextL (l : Launch) (D : va_G) (y ms mw mu mc mn mr mq md bi ne li sp q sz wa : Nat) (th en la at0 lk : Int32) (cB : ClassId) (wq : Nat → Int32) (a0 : Nat) (hwa : wa ≤ 1000) (ha : a0 = wa) : Met l y_M_next (WSY y_M_next b_M_next 1 (some .int)) ({ frames := 0, cells := 0, slots := 0, locals := 0 }) (va_Pc [.ref y] (fun U => va_P D CLS [(y, .inr (5, [.int th, .int (nI bi), .int (nI ne), .int (nI li), .int (nI sp), .int (nI q), .ref ms, .ref mw, .ref mu, .ref mc, .ref mn, .int en, .int (nI sz), .ref mr, .int (nI wa), .ref mq, .int la, .ref md, .int (nI a0), .int lk])), (mq, .inl (cB, 1000, .inl wq))] U.heap ∧ va_K D CLS [(cB, .byte)] U ∧ va_D (fun _ => True) [(y, .inr (5, [.int th, .int (nI bi), .int (nI ne), .int (nI li), .int (nI sp), .int (nI q), .ref ms, .ref mw, .ref mu, .ref mc, .ref mn, .int en, .int (nI sz), .ref mr, .int (nI wa), .ref mq, .int la, .ref md, .int (nI a0), .int lk])), (mq, .inl (cB, 1000, .inl wq))])) (QM (some (.int 0)) [(y, .inr (5, [.int th, .int (nI bi), .int (nI ne), .int (nI li), .int (nI sp), .int (nI q), .ref ms, .ref mw, .ref mu, .ref mc, .ref mn, .int en, .int (nI sz), .ref mr, .int (nI wa), .ref mq, .int la, .ref md, .int (nI a0), .int lk])), (mq, .inl (cB, 1000, .inl wq))] [(y, .inr (5, [.int th, .int (nI bi), .int (nI ne), .int (nI li), .int (nI sp), .int (nI q), .ref ms, .ref mw, .ref mu, .ref mc, .ref mn, .int en, .int (nI sz), .ref mr, .int (nI wa), .ref mq, .int la, .ref md, .int (nI a0), .int 1])), (mq, .inl (cB, 1000, .inl wq))] D) 0 0 (ad [(y, .inr (5, [.int th, .int (nI bi), .int (nI ne), .int (nI li), .int (nI sp), .int (nI q), .ref ms, .ref mw, .ref mu, .ref mc, .ref mn, .int en, .int (nI sz), .ref mr, .int (nI wa), .ref mq, .int la, .ref md, .int (nI a0), .int lk])), (mq, .inl (cB, 1000, .inl wq))]) := by
  refine Met.ofW (cc := b_M_next) (maxL := 1) (ret := (some .int)) (by decide) rfl ?_
  intro p e s m args below meth c s₁ B hml hv
  obtain ⟨rfl, hP, hK, hD0⟩ := hv
  have hx := B.exec
  have hb := B.bytes
  have hr := B.returns
  have hts := atoms_spec (ws := WSY y_M_next b_M_next 1 (some .int)) B.pre
  have hg : ∀ w ∈ GW, w.before _ s = true := fun w h => hts w (List.mem_cons_of_mem _ h)
  have hown : s.vm.findClass "LineGolombModel" = some m.cls := findClass_of_methodNamed B.named
  have hlocks := B.notSynchronized
  obtain ⟨A, hAe⟩ : ∃ A, A = ad [(y, .inr (5, [.int th, .int (nI bi), .int (nI ne), .int (nI li), .int (nI sp), .int (nI q), .ref ms, .ref mw, .ref mu, .ref mc, .ref mn, .int en, .int (nI sz), .ref mr, .int (nI wa), .ref mq, .int la, .ref md, .int (nI a0), .int lk])), (mq, .inl (cB, 1000, .inl wq))] := ⟨_, rfl⟩
  have hD : va_D A [(y, .inr (5, [.int th, .int (nI bi), .int (nI ne), .int (nI li), .int (nI sp), .int (nI q), .ref ms, .ref mw, .ref mu, .ref mc, .ref mn, .int en, .int (nI sz), .ref mr, .int (nI wa), .ref mq, .int la, .ref md, .int (nI a0), .int lk])), (mq, .inl (cB, 1000, .inl wq))] := by rw [hAe]; exact va_D_ad hD0
  have hS : va_S A s.heap s.heap [] := va_S.rf
  have hl := lv_entry ([.ref y]) (n := 1) (Nat.le_of_ble_eq_true rfl)
  rw [lg_entry_eq]
  generalize (lg_sl ([.ref y]) ++ List.replicate (1 - (lg_sl ([.ref y])).length) Slot.unset).toArray = ls at hl ⊢
  have hl : lv_has ls 1 [(0, .ref y)] := hl
  refine lv_aload_n hx hb d_M_next_0 rfl (lv_at hl 0 rfl) ?_
  refine va_get (D := D) (ci := 5) (v := .int (nI a0)) (C := R_M) (T := T_M) (N := 20) hx hb hg in_M hown hK hP 0 rfl rfl 18 (by decide) (hg _ gw_542) (fun _ h9 => h9) rfl d_M_next_1 ?_
  refine lv_aload_n hx hb d_M_next_4 rfl (lv_at hl 0 rfl) ?_
  refine va_get (D := D) (ci := 5) (v := .int (nI wa)) (C := R_M) (T := T_M) (N := 20) hx hb hg in_M hown hK hP 0 rfl rfl 14 (by decide) (hg _ gw_538) (fun _ h9 => h9) rfl d_M_next_5 ?_
  refine lv_icmp_lt (tgt := 18) hx hb d_M_next_8 (by decide) (fun c_1 => ?_) (fun c_1 => ?_)
  · skip
    exact absurd c_1 (nI_nlt (by omega) (by omega))
  · skip
    refine lv_aload_n hx hb d_M_next_11 rfl (lv_at hl 0 rfl) ?_
    refine lv_iconst (v := 1) hx hb d_M_next_12 (by decide) ?_
    refine va_put (D := D) (ci := 5) (v := .int 1) (ty := .boolean) (C := R_M) (T := T_M) (N := 20) hx hb hg in_M ty_M tok_M nm_M hown hK hP hD hS 0 rfl rfl 19 (by decide) (hg _ gw_543) (fun _ h9 => h9) rfl (by decide +kernel) (rfl) (rfl) (Nat.le_of_ble_eq_true rfl) d_M_next_13 (fun H locs hP hD hS => ?_)
    have hP : va_P D CLS [(y, .inr (5, [.int th, .int (nI bi), .int (nI ne), .int (nI li), .int (nI sp), .int (nI q), .ref ms, .ref mw, .ref mu, .ref mc, .ref mn, .int en, .int (nI sz), .ref mr, .int (nI wa), .ref mq, .int la, .ref md, .int (nI a0), .int 1])), (mq, .inl (cB, 1000, .inl wq))] H := hP
    have hD : va_D A [(y, .inr (5, [.int th, .int (nI bi), .int (nI ne), .int (nI li), .int (nI sp), .int (nI q), .ref ms, .ref mw, .ref mu, .ref mc, .ref mn, .int en, .int (nI sz), .ref mr, .int (nI wa), .ref mq, .int la, .ref md, .int (nI a0), .int 1])), (mq, .inl (cB, 1000, .inl wq))] := hD
    refine lv_iconst (v := 0) hx hb d_M_next_16 (by decide) ?_
    exact W.iret (v := 0) hx hb hr (fun t ht hW => ⟨rfl, by rw [ht]; exact hP, (hAe ▸ hS).F ht⟩) (hAe ▸ hS).2.2 d_M_next_17
set_option maxHeartbeats 4000000 in
set_option maxRecDepth 100000 in
theorem c_M_nextLow (l : Launch) (D : va_G) (y ms mw mu mc mn mr mq md bi ne li sp q sz wa : Nat) (th en la at0 lk : Int32) (cB : ClassId) (wq : Nat → Int32) (a0 n : Nat) (hwa : wa ≤ 1000) (ha : a0 ≤ wa) (hn : n < 32) : Met l y_M_nextLow (WSY y_M_nextLow b_M_nextLow 4 (some .int)) ({ frames := 1, cells := 0, slots := 0, locals := 20 }) (va_Pc [.ref y, .int (nI n)] (fun U => va_P D CLS [(y, .inr (5, [.int th, .int (nI bi), .int (nI ne), .int (nI li), .int (nI sp), .int (nI q), .ref ms, .ref mw, .ref mu, .ref mc, .ref mn, .int en, .int (nI sz), .ref mr, .int (nI wa), .ref mq, .int la, .ref md, .int (nI a0), .int lk])), (mq, .inl (cB, 1000, .inl wq))] U.heap ∧ va_K D CLS [(cB, .byte)] U ∧ va_D (fun _ => True) [(y, .inr (5, [.int th, .int (nI bi), .int (nI ne), .int (nI li), .int (nI sp), .int (nI q), .ref ms, .ref mw, .ref mu, .ref mc, .ref mn, .int en, .int (nI sz), .ref mr, .int (nI wa), .ref mq, .int la, .ref md, .int (nI a0), .int lk])), (mq, .inl (cB, 1000, .inl wq))])) (QM (some (.int (bnum (mbt wq wa) a0 n))) [(y, .inr (5, [.int th, .int (nI bi), .int (nI ne), .int (nI li), .int (nI sp), .int (nI q), .ref ms, .ref mw, .ref mu, .ref mc, .ref mn, .int en, .int (nI sz), .ref mr, .int (nI wa), .ref mq, .int la, .ref md, .int (nI a0), .int lk])), (mq, .inl (cB, 1000, .inl wq))] [(y, .inr (5, [.int th, .int (nI bi), .int (nI ne), .int (nI li), .int (nI sp), .int (nI q), .ref ms, .ref mw, .ref mu, .ref mc, .ref mn, .int en, .int (nI sz), .ref mr, .int (nI wa), .ref mq, .int la, .ref md, .int (nI (min (a0 + n) wa)), .int (if wa < a0 + n then 1 else lk)])), (mq, .inl (cB, 1000, .inl wq))] D) 0 0 (ad [(y, .inr (5, [.int th, .int (nI bi), .int (nI ne), .int (nI li), .int (nI sp), .int (nI q), .ref ms, .ref mw, .ref mu, .ref mc, .ref mn, .int en, .int (nI sz), .ref mr, .int (nI wa), .ref mq, .int la, .ref md, .int (nI a0), .int lk])), (mq, .inl (cB, 1000, .inl wq))]) := by
  refine Met.ofW (cc := b_M_nextLow) (maxL := 4) (ret := (some .int)) (by decide) rfl ?_
  intro p e s m args below meth c s₁ B hml hv
  obtain ⟨rfl, hP, hK, hD0⟩ := hv
  have hx := B.exec
  have hb := B.bytes
  have hr := B.returns
  have hts := atoms_spec (ws := WSY y_M_nextLow b_M_nextLow 4 (some .int)) B.pre
  have hg : ∀ w ∈ GW, w.before _ s = true := fun w h => hts w (List.mem_cons_of_mem _ h)
  have hown : s.vm.findClass "LineGolombModel" = some m.cls := findClass_of_methodNamed B.named
  have hlocks := B.notSynchronized
  obtain ⟨A, hAe⟩ : ∃ A, A = ad [(y, .inr (5, [.int th, .int (nI bi), .int (nI ne), .int (nI li), .int (nI sp), .int (nI q), .ref ms, .ref mw, .ref mu, .ref mc, .ref mn, .int en, .int (nI sz), .ref mr, .int (nI wa), .ref mq, .int la, .ref md, .int (nI a0), .int lk])), (mq, .inl (cB, 1000, .inl wq))] := ⟨_, rfl⟩
  have hD : va_D A [(y, .inr (5, [.int th, .int (nI bi), .int (nI ne), .int (nI li), .int (nI sp), .int (nI q), .ref ms, .ref mw, .ref mu, .ref mc, .ref mn, .int en, .int (nI sz), .ref mr, .int (nI wa), .ref mq, .int la, .ref md, .int (nI a0), .int lk])), (mq, .inl (cB, 1000, .inl wq))] := by rw [hAe]; exact va_D_ad hD0
  have hS : va_S A s.heap s.heap [] := va_S.rf
  have hl := lv_entry ([.ref y, .int (nI n)]) (n := 4) (Nat.le_of_ble_eq_true rfl)
  rw [lg_entry_eq]
  generalize (lg_sl ([.ref y, .int (nI n)]) ++ List.replicate (4 - (lg_sl ([.ref y, .int (nI n)])).length) Slot.unset).toArray = ls at hl ⊢
  have hl : lv_has ls 4 [(0, .ref y), (1, .int (nI n))] := hl
  refine lv_iconst (v := 0) hx hb d_M_nextLow_0 (by decide) ?_
  refine lv_istore_n (lv' := [(2, .int 0), (0, .ref y), (1, .int (nI n))]) hx hb d_M_nextLow_1 rfl hl (by decide) rfl (fun ls hl => ?_)
  refine lv_iconst (v := 0) hx hb d_M_nextLow_2 (by decide) ?_
  refine lv_istore_n (lv' := [(3, .int 0), (2, .int 0), (0, .ref y), (1, .int (nI n))]) hx hb d_M_nextLow_3 rfl hl (by decide) rfl (fun ls hl => ?_)
  have loop : ∀ (d k : Nat), k + d = n → ∀ (H : Heap) (locs : List Loc), va_P D CLS [(y, .inr (5, [.int th, .int (nI bi), .int (nI ne), .int (nI li), .int (nI sp), .int (nI q), .ref ms, .ref mw, .ref mu, .ref mc, .ref mn, .int en, .int (nI sz), .ref mr, .int (nI wa), .ref mq, .int la, .ref md, .int (nI (min (a0 + k) wa)), .int (if wa < a0 + k then 1 else lk)])), (mq, .inl (cB, 1000, .inl wq))] H → va_D A [(y, .inr (5, [.int th, .int (nI bi), .int (nI ne), .int (nI li), .int (nI sp), .int (nI q), .ref ms, .ref mw, .ref mu, .ref mc, .ref mn, .int en, .int (nI sz), .ref mr, .int (nI wa), .ref mq, .int la, .ref md, .int (nI (min (a0 + k) wa)), .int (if wa < a0 + k then 1 else lk)])), (mq, .inl (cB, 1000, .inl wq))] → va_S A s.heap H locs → ∀ (ls : Array Slot), lv_has ls 4 [(3, .int (nI k)), (2, .int (bnum (mbt wq wa) a0 k)), (0, .ref y), (1, .int (nI n))] → W p l e (headSpec (WSY y_M_nextLow b_M_nextLow 4 (some .int)) ({ frames := 1, cells := 0, slots := 0, locals := 20 })).room s m ([.ref y, .int (nI n)] : List Value).toArray below meth c H locs 0 0 (MQ below (QM (some (.int (bnum (mbt wq wa) a0 n))) [(y, .inr (5, [.int th, .int (nI bi), .int (nI ne), .int (nI li), .int (nI sp), .int (nI q), .ref ms, .ref mw, .ref mu, .ref mc, .ref mn, .int en, .int (nI sz), .ref mr, .int (nI wa), .ref mq, .int la, .ref md, .int (nI a0), .int lk])), (mq, .inl (cB, 1000, .inl wq))] [(y, .inr (5, [.int th, .int (nI bi), .int (nI ne), .int (nI li), .int (nI sp), .int (nI q), .ref ms, .ref mw, .ref mu, .ref mc, .ref mn, .int en, .int (nI sz), .ref mr, .int (nI wa), .ref mq, .int la, .ref md, .int (nI (min (a0 + n) wa)), .int (if wa < a0 + n then 1 else lk)])), (mq, .inl (cB, 1000, .inl wq))] D) ([.ref y, .int (nI n)] : List Value).toArray s 0 0 (ad [(y, .inr (5, [.int th, .int (nI bi), .int (nI ne), .int (nI li), .int (nI sp), .int (nI q), .ref ms, .ref mw, .ref mu, .ref mc, .ref mn, .int en, .int (nI sz), .ref mr, .int (nI wa), .ref mq, .int la, .ref md, .int (nI a0), .int lk])), (mq, .inl (cB, 1000, .inl wq))])) (F0 m 4 ls []) := by
    intro d
    induction d with
    | zero =>
      intro k hk H locs hP hD hS ls hl
      obtain rfl : n = k := by omega
      refine lv_iload_n hx hb d_M_nextLow_4 rfl (lv_at hl 0 rfl) ?_
      refine lv_iload_n hx hb d_M_nextLow_5 rfl (lv_at hl 3 rfl) ?_
      refine lv_icmp_ge (tgt := 24) hx hb d_M_nextLow_6 (by decide) (fun c_1 => ?_) (fun c_1 => ?_)
      · skip
        refine lv_iload_n hx hb d_M_nextLow_24 rfl (lv_at hl 1 rfl) ?_
        exact W.iret (v := bnum (mbt wq wa) a0 n) hx hb hr (fun t ht hW => ⟨rfl, by rw [ht]; exact hP, (hAe ▸ hS).F ht⟩) (hAe ▸ hS).2.2 d_M_nextLow_25
      · skip
        exact absurd (nI_le (Nat.le_refl _) (by omega)) c_1
    | succ d ih =>
      intro k hk H locs hP hD hS ls hl
      refine lv_iload_n hx hb d_M_nextLow_4 rfl (lv_at hl 0 rfl) ?_
      refine lv_iload_n hx hb d_M_nextLow_5 rfl (lv_at hl 3 rfl) ?_
      refine lv_icmp_ge (tgt := 24) hx hb d_M_nextLow_6 (by decide) (fun c_2 => ?_) (fun c_2 => ?_)
      · skip
        exact absurd ((nI_leI (by omega) (by omega)).mp c_2) (by omega)
      · skip
        refine lv_iconst (v := 2) hx hb d_M_nextLow_9 (by decide) ?_
        refine lv_iload_n hx hb d_M_nextLow_10 rfl (lv_at hl 1 rfl) ?_
        refine lv_imul hx hb d_M_nextLow_11 ?_
        refine lv_aload_n hx hb d_M_nextLow_12 rfl (lv_at hl 2 rfl) ?_
        by_cases hin : a0 + k < wa
        · skip
          have e1 : min (a0 + k) wa = a0 + k := by omega
          have e2 : min (a0 + (k + 1)) wa = a0 + k + 1 := by omega
          have e3 : ¬ wa < a0 + k := by omega
          have e4 : ¬ wa < a0 + (k + 1) := by omega
          rw [e1, if_neg e3] at hP hD
          have hP : va_P D CLS [(y, .inr (5, [.int th, .int (nI bi), .int (nI ne), .int (nI li), .int (nI sp), .int (nI q), .ref ms, .ref mw, .ref mu, .ref mc, .ref mn, .int en, .int (nI sz), .ref mr, .int (nI wa), .ref mq, .int la, .ref md, .int (nI (a0 + k)), .int lk])), (mq, .inl (cB, 1000, .inl wq))] H := hP
          have hD : va_D A [(y, .inr (5, [.int th, .int (nI bi), .int (nI ne), .int (nI li), .int (nI sp), .int (nI q), .ref ms, .ref mw, .ref mu, .ref mc, .ref mn, .int en, .int (nI sz), .ref mr, .int (nI wa), .ref mq, .int la, .ref md, .int (nI (a0 + k)), .int lk])), (mq, .inl (cB, 1000, .inl wq))] := hD
          have hPc := hP.sub (ws' := [(y, .inr (5, [.int th, .int (nI bi), .int (nI ne), .int (nI li), .int (nI sp), .int (nI q), .ref ms, .ref mw, .ref mu, .ref mc, .ref mn, .int en, .int (nI sz), .ref mr, .int (nI wa), .ref mq, .int la, .ref md, .int (nI (a0 + k)), .int lk])), (mq, .inl (cB, 1000, .inl wq))]) [0, 1] rfl
          have hDc := hD.sub (ws' := [(y, .inr (5, [.int th, .int (nI bi), .int (nI ne), .int (nI li), .int (nI sp), .int (nI q), .ref ms, .ref mw, .ref mu, .ref mc, .ref mn, .int en, .int (nI sz), .ref mr, .int (nI wa), .ref mq, .int la, .ref md, .int (nI (a0 + k)), .int lk])), (mq, .inl (cB, 1000, .inl wq))]) [0, 1] (by decide) rfl
          have hKc := hK.sub (tys' := [(cB, .byte)]) [0] rfl
          refine mci (va_runV (As := []) (rest := [.int (2 * (bnum (mbt wq wa) a0 k))]) ⟨hx, hb, hml, hown, hg⟩ (c_M_next l D y ms mw mu mc mn mr mq md bi ne li sp q sz wa th en la at0 lk cB wq (a0 + k) hwa hin) (cwV 0 hg (gV gw_678 gw_680 gs_26 gw_7 gw_681) rfl rfl rfl (by decide +kernel) ⟨Nat.le_of_ble_eq_true rfl, Nat.le_of_ble_eq_true rfl⟩) ⟨fun a U g mk q => by obtain ⟨q0, qP, qK, qD⟩ := q; exact ⟨q0, qP, va_K.moved (u := U) (U := U.calling g mk a) (Vm.Alike.refl U.vm) qK, qD⟩, va_recv hKc hPc (ci := 5) (q0 := 0) rfl rfl, fun U hU hW => ⟨rfl, by rw [hU]; exact hPc, va_K.moved hW.alike hKc, hDc.weaken (fun _ _ _ _ => trivial)⟩⟩ rfl rfl hl.1 rfl (lv_room (Nat.le_of_ble_eq_true rfl)) d_M_nextLow_13 (⟨Nat.le_of_ble_eq_true rfl, Nat.le_of_ble_eq_true rfl⟩)) hS hP hD [0, 1] rfl rfl rfl (fun H locs hP hD hS => ?_)
          have hP : va_P D CLS [(y, .inr (5, [.int th, .int (nI bi), .int (nI ne), .int (nI li), .int (nI sp), .int (nI q), .ref ms, .ref mw, .ref mu, .ref mc, .ref mn, .int en, .int (nI sz), .ref mr, .int (nI wa), .ref mq, .int la, .ref md, .int (nI (a0 + k + 1)), .int lk])), (mq, .inl (cB, 1000, .inl wq))] H := hP
          have hD : va_D A [(y, .inr (5, [.int th, .int (nI bi), .int (nI ne), .int (nI li), .int (nI sp), .int (nI q), .ref ms, .ref mw, .ref mu, .ref mc, .ref mn, .int en, .int (nI sz), .ref mr, .int (nI wa), .ref mq, .int la, .ref md, .int (nI (a0 + k + 1)), .int lk])), (mq, .inl (cB, 1000, .inl wq))] := hD
          refine lv_iadd hx hb d_M_nextLow_16 ?_
          refine tpi (y := bnum (mbt wq wa) a0 (k + 1)) (by rw [← mbt_in (wq := wq) hin]; rfl) ?_
          rw [← e2] at hP hD
          have hP : va_P D CLS [(y, .inr (5, [.int th, .int (nI bi), .int (nI ne), .int (nI li), .int (nI sp), .int (nI q), .ref ms, .ref mw, .ref mu, .ref mc, .ref mn, .int en, .int (nI sz), .ref mr, .int (nI wa), .ref mq, .int la, .ref md, .int (nI (min (a0 + (k + 1)) wa)), .int (if wa < a0 + (k + 1) then 1 else lk)])), (mq, .inl (cB, 1000, .inl wq))] H := by rw [if_neg e4]; exact hP
          have hD : va_D A [(y, .inr (5, [.int th, .int (nI bi), .int (nI ne), .int (nI li), .int (nI sp), .int (nI q), .ref ms, .ref mw, .ref mu, .ref mc, .ref mn, .int en, .int (nI sz), .ref mr, .int (nI wa), .ref mq, .int la, .ref md, .int (nI (min (a0 + (k + 1)) wa)), .int (if wa < a0 + (k + 1) then 1 else lk)])), (mq, .inl (cB, 1000, .inl wq))] := by rw [if_neg e4]; exact hD
          refine lv_istore_n (lv' := [(2, .int (bnum (mbt wq wa) a0 (k + 1))), (3, .int (nI k)), (0, .ref y), (1, .int (nI n))]) hx hb d_M_nextLow_17 rfl hl (by decide) rfl (fun ls hl => ?_)
          refine lv_iinc (v := nI (k + 1)) (lv' := [(3, .int (nI (k + 1))), (2, .int (bnum (mbt wq wa) a0 (k + 1))), (0, .ref y), (1, .int (nI n))]) hx hb d_M_nextLow_18 hl (k := 1) rfl (nI_1 k) (by decide) rfl (fun ls hl => ?_)
          refine lv_goto (tgt := 4) hx hb d_M_nextLow_21 (by decide) ?_
          exact ih (k + 1) (by omega) H locs hP hD hS ls (lv_sub hl [0, 1, 2, 3] rfl)
        · skip
          have e1 : min (a0 + k) wa = wa := by omega
          have e2 : min (a0 + (k + 1)) wa = wa := by omega
          have e4 : wa < a0 + (k + 1) := by omega
          rw [e1] at hP hD
          have hP : va_P D CLS [(y, .inr (5, [.int th, .int (nI bi), .int (nI ne), .int (nI li), .int (nI sp), .int (nI q), .ref ms, .ref mw, .ref mu, .ref mc, .ref mn, .int en, .int (nI sz), .ref mr, .int (nI wa), .ref mq, .int la, .ref md, .int (nI wa), .int (if wa < a0 + k then 1 else lk)])), (mq, .inl (cB, 1000, .inl wq))] H := hP
          have hD : va_D A [(y, .inr (5, [.int th, .int (nI bi), .int (nI ne), .int (nI li), .int (nI sp), .int (nI q), .ref ms, .ref mw, .ref mu, .ref mc, .ref mn, .int en, .int (nI sz), .ref mr, .int (nI wa), .ref mq, .int la, .ref md, .int (nI wa), .int (if wa < a0 + k then 1 else lk)])), (mq, .inl (cB, 1000, .inl wq))] := hD
          have hPc := hP.sub (ws' := [(y, .inr (5, [.int th, .int (nI bi), .int (nI ne), .int (nI li), .int (nI sp), .int (nI q), .ref ms, .ref mw, .ref mu, .ref mc, .ref mn, .int en, .int (nI sz), .ref mr, .int (nI wa), .ref mq, .int la, .ref md, .int (nI wa), .int (if wa < a0 + k then 1 else lk)])), (mq, .inl (cB, 1000, .inl wq))]) [0, 1] rfl
          have hDc := hD.sub (ws' := [(y, .inr (5, [.int th, .int (nI bi), .int (nI ne), .int (nI li), .int (nI sp), .int (nI q), .ref ms, .ref mw, .ref mu, .ref mc, .ref mn, .int en, .int (nI sz), .ref mr, .int (nI wa), .ref mq, .int la, .ref md, .int (nI wa), .int (if wa < a0 + k then 1 else lk)])), (mq, .inl (cB, 1000, .inl wq))]) [0, 1] (by decide) rfl
          have hKc := hK.sub (tys' := [(cB, .byte)]) [0] rfl
          refine mci (va_runV (As := []) (rest := [.int (2 * (bnum (mbt wq wa) a0 k))]) ⟨hx, hb, hml, hown, hg⟩ (c_M_nextL l D y ms mw mu mc mn mr mq md bi ne li sp q sz wa th en la at0 (if wa < a0 + k then 1 else lk) cB wq wa hwa rfl) (cwV 0 hg (gV gw_678 gw_680 gs_26 gw_7 gw_681) rfl rfl rfl (by decide +kernel) ⟨Nat.le_of_ble_eq_true rfl, Nat.le_of_ble_eq_true rfl⟩) ⟨fun a U g mk q => by obtain ⟨q0, qP, qK, qD⟩ := q; exact ⟨q0, qP, va_K.moved (u := U) (U := U.calling g mk a) (Vm.Alike.refl U.vm) qK, qD⟩, va_recv hKc hPc (ci := 5) (q0 := 0) rfl rfl, fun U hU hW => ⟨rfl, by rw [hU]; exact hPc, va_K.moved hW.alike hKc, hDc.weaken (fun _ _ _ _ => trivial)⟩⟩ rfl rfl hl.1 rfl (lv_room (Nat.le_of_ble_eq_true rfl)) d_M_nextLow_13 (⟨Nat.le_of_ble_eq_true rfl, Nat.le_of_ble_eq_true rfl⟩)) hS hP hD [0, 1] rfl rfl rfl (fun H locs hP hD hS => ?_)
          have hP : va_P D CLS [(y, .inr (5, [.int th, .int (nI bi), .int (nI ne), .int (nI li), .int (nI sp), .int (nI q), .ref ms, .ref mw, .ref mu, .ref mc, .ref mn, .int en, .int (nI sz), .ref mr, .int (nI wa), .ref mq, .int la, .ref md, .int (nI wa), .int 1])), (mq, .inl (cB, 1000, .inl wq))] H := hP
          have hD : va_D A [(y, .inr (5, [.int th, .int (nI bi), .int (nI ne), .int (nI li), .int (nI sp), .int (nI q), .ref ms, .ref mw, .ref mu, .ref mc, .ref mn, .int en, .int (nI sz), .ref mr, .int (nI wa), .ref mq, .int la, .ref md, .int (nI wa), .int 1])), (mq, .inl (cB, 1000, .inl wq))] := hD
          refine lv_iadd hx hb d_M_nextLow_16 ?_
          refine tpi (y := bnum (mbt wq wa) a0 (k + 1)) (by rw [show (0 : Int32) = mbt wq wa (a0 + k) from (mbt_out hin).symm]; rfl) ?_
          have hP : va_P D CLS [(y, .inr (5, [.int th, .int (nI bi), .int (nI ne), .int (nI li), .int (nI sp), .int (nI q), .ref ms, .ref mw, .ref mu, .ref mc, .ref mn, .int en, .int (nI sz), .ref mr, .int (nI wa), .ref mq, .int la, .ref md, .int (nI (min (a0 + (k + 1)) wa)), .int (if wa < a0 + (k + 1) then 1 else lk)])), (mq, .inl (cB, 1000, .inl wq))] H := by rw [if_pos e4, e2]; exact hP
          have hD : va_D A [(y, .inr (5, [.int th, .int (nI bi), .int (nI ne), .int (nI li), .int (nI sp), .int (nI q), .ref ms, .ref mw, .ref mu, .ref mc, .ref mn, .int en, .int (nI sz), .ref mr, .int (nI wa), .ref mq, .int la, .ref md, .int (nI (min (a0 + (k + 1)) wa)), .int (if wa < a0 + (k + 1) then 1 else lk)])), (mq, .inl (cB, 1000, .inl wq))] := by rw [if_pos e4, e2]; exact hD
          refine lv_istore_n (lv' := [(2, .int (bnum (mbt wq wa) a0 (k + 1))), (3, .int (nI k)), (0, .ref y), (1, .int (nI n))]) hx hb d_M_nextLow_17 rfl hl (by decide) rfl (fun ls hl => ?_)
          refine lv_iinc (v := nI (k + 1)) (lv' := [(3, .int (nI (k + 1))), (2, .int (bnum (mbt wq wa) a0 (k + 1))), (0, .ref y), (1, .int (nI n))]) hx hb d_M_nextLow_18 hl (k := 1) rfl (nI_1 k) (by decide) rfl (fun ls hl => ?_)
          refine lv_goto (tgt := 4) hx hb d_M_nextLow_21 (by decide) ?_
          exact ih (k + 1) (by omega) H locs hP hD hS ls (lv_sub hl [0, 1, 2, 3] rfl)
  have hP : va_P D CLS [(y, .inr (5, [.int th, .int (nI bi), .int (nI ne), .int (nI li), .int (nI sp), .int (nI q), .ref ms, .ref mw, .ref mu, .ref mc, .ref mn, .int en, .int (nI sz), .ref mr, .int (nI wa), .ref mq, .int la, .ref md, .int (nI (min (a0 + 0) wa)), .int (if wa < a0 + 0 then 1 else lk)])), (mq, .inl (cB, 1000, .inl wq))] s.heap := by rw [if_neg (by omega), show min (a0 + 0) wa = a0 by omega]; exact hP
  have hD : va_D A [(y, .inr (5, [.int th, .int (nI bi), .int (nI ne), .int (nI li), .int (nI sp), .int (nI q), .ref ms, .ref mw, .ref mu, .ref mc, .ref mn, .int en, .int (nI sz), .ref mr, .int (nI wa), .ref mq, .int la, .ref md, .int (nI (min (a0 + 0) wa)), .int (if wa < a0 + 0 then 1 else lk)])), (mq, .inl (cB, 1000, .inl wq))] := by rw [if_neg (by omega), show min (a0 + 0) wa = a0 by omega]; exact hD
  exact loop n 0 (by omega) s.heap [] hP hD hS ls hl
set_option maxHeartbeats 4000000 in
set_option maxRecDepth 100000 in
theorem c_M_go (l : Launch) (D : va_G) (y ms mw mu mc mn mr mq md bi ne li sp q sz wa : Nat) (th en la at0 lk : Int32) (cB : ClassId) (wq : Nat → Int32) (n : Nat) (hwa : wa ≤ 1000) (hn : n ≤ wa) (hqb : ∀ j, j < wa → wq j = 0 ∨ wq j = 1) : Met l y_M_go (WSY y_M_go b_M_go 3 none) ({ frames := 0, cells := 0, slots := 0, locals := 0 }) (va_Pc [.ref y, .int (nI n)] (fun U => va_P D CLS [(y, .inr (5, [.int th, .int (nI bi), .int (nI ne), .int (nI li), .int (nI sp), .int (nI q), .ref ms, .ref mw, .ref mu, .ref mc, .ref mn, .int en, .int (nI sz), .ref mr, .int (nI wa), .ref mq, .int la, .ref md, .int at0, .int lk])), (mq, .inl (cB, 1000, .inl wq))] U.heap ∧ va_K D CLS [(cB, .byte)] U ∧ va_D (fun _ => True) [(y, .inr (5, [.int th, .int (nI bi), .int (nI ne), .int (nI li), .int (nI sp), .int (nI q), .ref ms, .ref mw, .ref mu, .ref mc, .ref mn, .int en, .int (nI sz), .ref mr, .int (nI wa), .ref mq, .int la, .ref md, .int at0, .int lk])), (mq, .inl (cB, 1000, .inl wq))])) (QM none [(y, .inr (5, [.int th, .int (nI bi), .int (nI ne), .int (nI li), .int (nI sp), .int (nI q), .ref ms, .ref mw, .ref mu, .ref mc, .ref mn, .int en, .int (nI sz), .ref mr, .int (nI wa), .ref mq, .int la, .ref md, .int at0, .int lk])), (mq, .inl (cB, 1000, .inl wq))] [(y, .inr (5, [.int th, .int (nI bi), .int (nI ne), .int (nI li), .int (nI sp), .int (nI q), .ref ms, .ref mw, .ref mu, .ref mc, .ref mn, .int en, .int (nI sz), .ref mr, .int (nI (wa - n)), .ref mq, .int la, .ref md, .int at0, .int lk])), (mq, .inl (cB, 1000, .inl (gof wq n (wa - n))))] D) 0 0 (ad [(y, .inr (5, [.int th, .int (nI bi), .int (nI ne), .int (nI li), .int (nI sp), .int (nI q), .ref ms, .ref mw, .ref mu, .ref mc, .ref mn, .int en, .int (nI sz), .ref mr, .int (nI wa), .ref mq, .int la, .ref md, .int at0, .int lk])), (mq, .inl (cB, 1000, .inl wq))]) := by
  refine Met.ofW (cc := b_M_go) (maxL := 3) (ret := none) (by decide) rfl ?_
  intro p e s m args below meth c s₁ B hml hv
  obtain ⟨rfl, hP, hK, hD0⟩ := hv
  have hx := B.exec
  have hb := B.bytes
  have hr := B.returns
  have hts := atoms_spec (ws := WSY y_M_go b_M_go 3 none) B.pre
  have hg : ∀ w ∈ GW, w.before _ s = true := fun w h => hts w (List.mem_cons_of_mem _ h)
  have hown : s.vm.findClass "LineGolombModel" = some m.cls := findClass_of_methodNamed B.named
  have hlocks := B.notSynchronized
  obtain ⟨A, hAe⟩ : ∃ A, A = ad [(y, .inr (5, [.int th, .int (nI bi), .int (nI ne), .int (nI li), .int (nI sp), .int (nI q), .ref ms, .ref mw, .ref mu, .ref mc, .ref mn, .int en, .int (nI sz), .ref mr, .int (nI wa), .ref mq, .int la, .ref md, .int at0, .int lk])), (mq, .inl (cB, 1000, .inl wq))] := ⟨_, rfl⟩
  have hD : va_D A [(y, .inr (5, [.int th, .int (nI bi), .int (nI ne), .int (nI li), .int (nI sp), .int (nI q), .ref ms, .ref mw, .ref mu, .ref mc, .ref mn, .int en, .int (nI sz), .ref mr, .int (nI wa), .ref mq, .int la, .ref md, .int at0, .int lk])), (mq, .inl (cB, 1000, .inl wq))] := by rw [hAe]; exact va_D_ad hD0
  have hS : va_S A s.heap s.heap [] := va_S.rf
  have hl := lv_entry ([.ref y, .int (nI n)]) (n := 3) (Nat.le_of_ble_eq_true rfl)
  rw [lg_entry_eq]
  generalize (lg_sl ([.ref y, .int (nI n)]) ++ List.replicate (3 - (lg_sl ([.ref y, .int (nI n)])).length) Slot.unset).toArray = ls at hl ⊢
  have hl : lv_has ls 3 [(0, .ref y), (1, .int (nI n))] := hl
  refine lv_aload_n hx hb d_M_go_0 rfl (lv_at hl 0 rfl) ?_
  refine lv_aload_n hx hb d_M_go_1 rfl (lv_at hl 0 rfl) ?_
  refine va_get (D := D) (ci := 5) (v := .int (nI wa)) (C := R_M) (T := T_M) (N := 20) hx hb hg in_M hown hK hP 0 rfl rfl 14 (by decide) (hg _ gw_538) (fun _ h9 => h9) rfl d_M_go_2 ?_
  refine lv_iload_n hx hb d_M_go_5 rfl (lv_at hl 1 rfl) ?_
  refine lv_isub hx hb d_M_go_6 ?_
  refine tpi (y := nI (wa - n)) (pk_sub hn) ?_
  refine va_put (D := D) (ci := 5) (v := .int (nI (wa - n))) (ty := .int) (C := R_M) (T := T_M) (N := 20) hx hb hg in_M ty_M tok_M nm_M hown hK hP hD hS 0 rfl rfl 14 (by decide) (hg _ gw_538) (fun _ h9 => h9) rfl (by decide +kernel) (rfl) (rfl) (Nat.le_of_ble_eq_true rfl) d_M_go_7 (fun H locs hP hD hS => ?_)
  have hP : va_P D CLS [(y, .inr (5, [.int th, .int (nI bi), .int (nI ne), .int (nI li), .int (nI sp), .int (nI q), .ref ms, .ref mw, .ref mu, .ref mc, .ref mn, .int en, .int (nI sz), .ref mr, .int (nI (wa - n)), .ref mq, .int la, .ref md, .int at0, .int lk])), (mq, .inl (cB, 1000, .inl wq))] H := hP
  have hD : va_D A [(y, .inr (5, [.int th, .int (nI bi), .int (nI ne), .int (nI li), .int (nI sp), .int (nI q), .ref ms, .ref mw, .ref mu, .ref mc, .ref mn, .int en, .int (nI sz), .ref mr, .int (nI (wa - n)), .ref mq, .int la, .ref md, .int at0, .int lk])), (mq, .inl (cB, 1000, .inl wq))] := hD
  refine lv_iconst (v := 0) hx hb d_M_go_10 (by decide) ?_
  refine lv_istore_n (lv' := [(2, .int 0), (0, .ref y), (1, .int (nI n))]) hx hb d_M_go_11 rfl hl (by decide) rfl (fun ls hl => ?_)
  have loop : ∀ (d k : Nat), k + d = wa - n → ∀ (H : Heap) (locs : List Loc), va_P D CLS [(y, .inr (5, [.int th, .int (nI bi), .int (nI ne), .int (nI li), .int (nI sp), .int (nI q), .ref ms, .ref mw, .ref mu, .ref mc, .ref mn, .int en, .int (nI sz), .ref mr, .int (nI (wa - n)), .ref mq, .int la, .ref md, .int at0, .int lk])), (mq, .inl (cB, 1000, .inl (gof wq n k)))] H → va_D A [(y, .inr (5, [.int th, .int (nI bi), .int (nI ne), .int (nI li), .int (nI sp), .int (nI q), .ref ms, .ref mw, .ref mu, .ref mc, .ref mn, .int en, .int (nI sz), .ref mr, .int (nI (wa - n)), .ref mq, .int la, .ref md, .int at0, .int lk])), (mq, .inl (cB, 1000, .inl (gof wq n k)))] → va_S A s.heap H locs → ∀ (ls : Array Slot), lv_has ls 3 [(2, .int (nI k)), (0, .ref y), (1, .int (nI n))] → W p l e (headSpec (WSY y_M_go b_M_go 3 none) ({ frames := 0, cells := 0, slots := 0, locals := 0 })).room s m ([.ref y, .int (nI n)] : List Value).toArray below meth c H locs 0 0 (MQ below (QM none [(y, .inr (5, [.int th, .int (nI bi), .int (nI ne), .int (nI li), .int (nI sp), .int (nI q), .ref ms, .ref mw, .ref mu, .ref mc, .ref mn, .int en, .int (nI sz), .ref mr, .int (nI wa), .ref mq, .int la, .ref md, .int at0, .int lk])), (mq, .inl (cB, 1000, .inl wq))] [(y, .inr (5, [.int th, .int (nI bi), .int (nI ne), .int (nI li), .int (nI sp), .int (nI q), .ref ms, .ref mw, .ref mu, .ref mc, .ref mn, .int en, .int (nI sz), .ref mr, .int (nI (wa - n)), .ref mq, .int la, .ref md, .int at0, .int lk])), (mq, .inl (cB, 1000, .inl (gof wq n (wa - n))))] D) ([.ref y, .int (nI n)] : List Value).toArray s 0 0 (ad [(y, .inr (5, [.int th, .int (nI bi), .int (nI ne), .int (nI li), .int (nI sp), .int (nI q), .ref ms, .ref mw, .ref mu, .ref mc, .ref mn, .int en, .int (nI sz), .ref mr, .int (nI wa), .ref mq, .int la, .ref md, .int at0, .int lk])), (mq, .inl (cB, 1000, .inl wq))])) (F0 m 12 ls []) := by
    intro d
    induction d with
    | zero =>
      intro k hk H locs hP hD hS ls hl
      refine lv_iload_n hx hb d_M_go_12 rfl (lv_at hl 0 rfl) ?_
      refine lv_aload_n hx hb d_M_go_13 rfl (lv_at hl 1 rfl) ?_
      refine va_get (D := D) (ci := 5) (v := .int (nI (wa - n))) (C := R_M) (T := T_M) (N := 20) hx hb hg in_M hown hK hP 0 rfl rfl 14 (by decide) (hg _ gw_538) (fun _ h9 => h9) rfl d_M_go_14 ?_
      refine lv_icmp_ge (tgt := 40) hx hb d_M_go_17 (by decide) (fun c_1 => ?_) (fun c_1 => ?_)
      · skip
        have hk2 : k = wa - n := by omega
        rw [hk2] at hP
        exact W.vret hx hb hr (fun t ht hW => ⟨rfl, by rw [ht]; exact hP, (hAe ▸ hS).F ht⟩) (hAe ▸ hS).2.2 d_M_go_40
      · skip
        exact absurd (nI_le (show wa - n ≤ k by omega) (by omega)) c_1
    | succ d ih =>
      intro k hk H locs hP hD hS ls hl
      refine lv_iload_n hx hb d_M_go_12 rfl (lv_at hl 0 rfl) ?_
      refine lv_aload_n hx hb d_M_go_13 rfl (lv_at hl 1 rfl) ?_
      refine va_get (D := D) (ci := 5) (v := .int (nI (wa - n))) (C := R_M) (T := T_M) (N := 20) hx hb hg in_M hown hK hP 0 rfl rfl 14 (by decide) (hg _ gw_538) (fun _ h9 => h9) rfl d_M_go_14 ?_
      refine lv_icmp_ge (tgt := 40) hx hb d_M_go_17 (by decide) (fun c_2 => ?_) (fun c_2 => ?_)
      · skip
        exact absurd ((nI_leI (by omega) (by omega)).mp c_2) (by omega)
      · skip
        have h01 : gof wq n k (k + n) = 0 ∨ gof wq n k (k + n) = 1 := by rw [gof_hi wq n k (k + n) (by omega)]; exact hqb _ (by omega)
        refine lv_aload_n hx hb d_M_go_20 rfl (lv_at hl 1 rfl) ?_
        refine va_get (D := D) (ci := 5) (v := .ref mq) (C := R_M) (T := T_M) (N := 20) hx hb hg in_M hown hK hP 0 rfl rfl 15 (by decide) (hg _ gw_539) (fun _ h9 => h9) rfl d_M_go_21 ?_
        refine lv_iload_n hx hb d_M_go_24 rfl (lv_at hl 0 rfl) ?_
        refine lv_aload_n hx hb d_M_go_25 rfl (lv_at hl 1 rfl) ?_
        refine va_get (D := D) (ci := 5) (v := .ref mq) (C := R_M) (T := T_M) (N := 20) hx hb hg in_M hown hK hP 0 rfl rfl 15 (by decide) (hg _ gw_539) (fun _ h9 => h9) rfl d_M_go_26 ?_
        refine lv_iload_n hx hb d_M_go_29 rfl (lv_at hl 0 rfl) ?_
        refine lv_iload_n hx hb d_M_go_30 rfl (lv_at hl 2 rfl) ?_
        refine lv_iadd hx hb d_M_go_31 ?_
        refine tpi (y := nI (k + n)) (nI_add _ _) ?_
        refine va_bald hx hb hK hP 1 0 rfl rfl (vp_in_nI (by omega) (by omega)) d_M_go_32 ?_
        refine tpi (y := gof wq n k (k + n)) (by rw [nI_clamp (by omega)]) ?_
        refine va_bast hx hb hK hP hD hS 1 0 rfl rfl (vp_in_nI (by omega) (by omega)) d_M_go_33 (fun H locs hP hD hS => ?_)
        rw [nI_clamp (show k < 2 ^ 31 by omega), n8 h01] at hP hD
        have hP : va_P D CLS [(y, .inr (5, [.int th, .int (nI bi), .int (nI ne), .int (nI li), .int (nI sp), .int (nI q), .ref ms, .ref mw, .ref mu, .ref mc, .ref mn, .int en, .int (nI sz), .ref mr, .int (nI (wa - n)), .ref mq, .int la, .ref md, .int at0, .int lk])), (mq, .inl (cB, 1000, .inl (gof wq n (k + 1))))] H := hP
        have hD : va_D A [(y, .inr (5, [.int th, .int (nI bi), .int (nI ne), .int (nI li), .int (nI sp), .int (nI q), .ref ms, .ref mw, .ref mu, .ref mc, .ref mn, .int en, .int (nI sz), .ref mr, .int (nI (wa - n)), .ref mq, .int la, .ref md, .int at0, .int lk])), (mq, .inl (cB, 1000, .inl (gof wq n (k + 1))))] := hD
        refine lv_iinc (v := nI (k + 1)) (lv' := [(2, .int (nI (k + 1))), (0, .ref y), (1, .int (nI n))]) hx hb d_M_go_34 hl (k := 0) rfl (nI_1 k) (by decide) rfl (fun ls hl => ?_)
        refine lv_goto (tgt := 12) hx hb d_M_go_37 (by decide) ?_
        exact ih (k + 1) (by omega) H locs hP hD hS ls (lv_sub hl [0, 1, 2] rfl)
  exact loop (wa - n) 0 (by omega) H locs hP hD hS ls hl
set_option maxHeartbeats 4000000 in
set_option maxRecDepth 100000 in
theorem c_M_lookN (l : Launch) (D : va_G) (y ms mw mu mc mn mr mq md bi ne li sp q sz wa : Nat) (th en la at0 lk : Int32) (cB : ClassId) (wq : Nat → Int32) (K mx z : Nat) (hwa : wa ≤ 1000) (hKb : K ≤ 30) (hq : q ≤ 30) (hmx : q + 1 ≤ mx) (hmx2 : mx ≤ 200) (hz1 : z ≤ (mx - q - 1) + 1) (hz2 : z ≤ wa) (hz3 : ∀ j, j < z → wq j = 0) (hz4 : z = (mx - q - 1) + 1 ∨ z = wa ∨ wq z ≠ 0) (hzN : z = (mx - q - 1) + 1) : Met l y_M_look (WSY y_M_look b_M_look 7 (some .int)) ({ frames := 2, cells := 0, slots := 0, locals := 44 }) (va_Pc [.ref y, .int (nI K), .int (nI mx)] (fun U => va_P D CLS [(y, .inr (5, [.int th, .int (nI bi), .int (nI ne), .int (nI li), .int (nI sp), .int (nI q), .ref ms, .ref mw, .ref mu, .ref mc, .ref mn, .int en, .int (nI sz), .ref mr, .int (nI wa), .ref mq, .int la, .ref md, .int at0, .int lk])), (mq, .inl (cB, 1000, .inl wq))] U.heap ∧ va_K D CLS [(cB, .byte)] U ∧ va_D (fun _ => True) [(y, .inr (5, [.int th, .int (nI bi), .int (nI ne), .int (nI li), .int (nI sp), .int (nI q), .ref ms, .ref mw, .ref mu, .ref mc, .ref mn, .int en, .int (nI sz), .ref mr, .int (nI wa), .ref mq, .int la, .ref md, .int at0, .int lk])), (mq, .inl (cB, 1000, .inl wq))])) (QM (some (.int (-2))) [(y, .inr (5, [.int th, .int (nI bi), .int (nI ne), .int (nI li), .int (nI sp), .int (nI q), .ref ms, .ref mw, .ref mu, .ref mc, .ref mn, .int en, .int (nI sz), .ref mr, .int (nI wa), .ref mq, .int la, .ref md, .int at0, .int lk])), (mq, .inl (cB, 1000, .inl wq))] [(y, .inr (5, [.int th, .int (nI bi), .int (nI ne), .int (nI li), .int (nI sp), .int (nI q), .ref ms, .ref mw, .ref mu, .ref mc, .ref mn, .int en, .int (nI sz), .ref mr, .int (nI wa), .ref mq, .int la, .ref md, .int (nI ((mx - q - 1) + 1)), .int 0])), (mq, .inl (cB, 1000, .inl wq))] D) 0 0 (ad [(y, .inr (5, [.int th, .int (nI bi), .int (nI ne), .int (nI li), .int (nI sp), .int (nI q), .ref ms, .ref mw, .ref mu, .ref mc, .ref mn, .int en, .int (nI sz), .ref mr, .int (nI wa), .ref mq, .int la, .ref md, .int at0, .int lk])), (mq, .inl (cB, 1000, .inl wq))]) := by
  refine Met.ofW (cc := b_M_look) (maxL := 7) (ret := (some .int)) (by decide) rfl ?_
  intro p e s m args below meth c s₁ B hml hv
  obtain ⟨rfl, hP, hK, hD0⟩ := hv
  have hx := B.exec
  have hb := B.bytes
  have hr := B.returns
  have hts := atoms_spec (ws := WSY y_M_look b_M_look 7 (some .int)) B.pre
  have hg : ∀ w ∈ GW, w.before _ s = true := fun w h => hts w (List.mem_cons_of_mem _ h)
  have hown : s.vm.findClass "LineGolombModel" = some m.cls := findClass_of_methodNamed B.named
  have hlocks := B.notSynchronized
  obtain ⟨A, hAe⟩ : ∃ A, A = ad [(y, .inr (5, [.int th, .int (nI bi), .int (nI ne), .int (nI li), .int (nI sp), .int (nI q), .ref ms, .ref mw, .ref mu, .ref mc, .ref mn, .int en, .int (nI sz), .ref mr, .int (nI wa), .ref mq, .int la, .ref md, .int at0, .int lk])), (mq, .inl (cB, 1000, .inl wq))] := ⟨_, rfl⟩
  have hD : va_D A [(y, .inr (5, [.int th, .int (nI bi), .int (nI ne), .int (nI li), .int (nI sp), .int (nI q), .ref ms, .ref mw, .ref mu, .ref mc, .ref mn, .int en, .int (nI sz), .ref mr, .int (nI wa), .ref mq, .int la, .ref md, .int at0, .int lk])), (mq, .inl (cB, 1000, .inl wq))] := by rw [hAe]; exact va_D_ad hD0
  have hS : va_S A s.heap s.heap [] := va_S.rf
  have hl := lv_entry ([.ref y, .int (nI K), .int (nI mx)]) (n := 7) (Nat.le_of_ble_eq_true rfl)
  rw [lg_entry_eq]
  generalize (lg_sl ([.ref y, .int (nI K), .int (nI mx)]) ++ List.replicate (7 - (lg_sl ([.ref y, .int (nI K), .int (nI mx)])).length) Slot.unset).toArray = ls at hl ⊢
  have hl : lv_has ls 7 [(0, .ref y), (1, .int (nI K)), (2, .int (nI mx))] := hl
  refine lv_iload_n hx hb d_M_look_0 rfl (lv_at hl 2 rfl) ?_
  refine lv_aload_n hx hb d_M_look_1 rfl (lv_at hl 0 rfl) ?_
  refine va_get (D := D) (ci := 5) (v := .int (nI q)) (C := R_M) (T := T_M) (N := 20) hx hb hg in_M hown hK hP 0 rfl rfl 5 (by decide) (hg _ gw_529) (fun _ h9 => h9) rfl d_M_look_2 ?_
  refine lv_isub hx hb d_M_look_5 ?_
  refine tpi (y := nI (mx - q)) (pk_sub (by omega)) ?_
  refine lv_iconst (v := 1) hx hb d_M_look_6 (by decide) ?_
  refine lv_isub hx hb d_M_look_7 ?_
  refine tpi (y := nI (mx - q - 1)) (pk_sub (b := 1) (by omega)) ?_
  refine lv_istore_n (lv' := [(3, .int (nI (mx - q - 1))), (0, .ref y), (1, .int (nI K)), (2, .int (nI mx))]) hx hb d_M_look_8 rfl hl (by decide) rfl (fun ls hl => ?_)
  refine lv_aload_n hx hb d_M_look_9 rfl (lv_at hl 1 rfl) ?_
  refine lv_iconst (v := 0) hx hb d_M_look_10 (by decide) ?_
  refine tpi (y := nI 0) (rfl) ?_
  refine va_put (D := D) (ci := 5) (v := .int (nI 0)) (ty := .int) (C := R_M) (T := T_M) (N := 20) hx hb hg in_M ty_M tok_M nm_M hown hK hP hD hS 0 rfl rfl 18 (by decide) (hg _ gw_542) (fun _ h9 => h9) rfl (by decide +kernel) (rfl) (rfl) (Nat.le_of_ble_eq_true rfl) d_M_look_11 (fun H locs hP hD hS => ?_)
  have hP : va_P D CLS [(y, .inr (5, [.int th, .int (nI bi), .int (nI ne), .int (nI li), .int (nI sp), .int (nI q), .ref ms, .ref mw, .ref mu, .ref mc, .ref mn, .int en, .int (nI sz), .ref mr, .int (nI wa), .ref mq, .int la, .ref md, .int (nI 0), .int lk])), (mq, .inl (cB, 1000, .inl wq))] H := hP
  have hD : va_D A [(y, .inr (5, [.int th, .int (nI bi), .int (nI ne), .int (nI li), .int (nI sp), .int (nI q), .ref ms, .ref mw, .ref mu, .ref mc, .ref mn, .int en, .int (nI sz), .ref mr, .int (nI wa), .ref mq, .int la, .ref md, .int (nI 0), .int lk])), (mq, .inl (cB, 1000, .inl wq))] := hD
  refine lv_aload_n hx hb d_M_look_14 rfl (lv_at hl 1 rfl) ?_
  refine lv_iconst (v := 0) hx hb d_M_look_15 (by decide) ?_
  refine va_put (D := D) (ci := 5) (v := .int 0) (ty := .boolean) (C := R_M) (T := T_M) (N := 20) hx hb hg in_M ty_M tok_M nm_M hown hK hP hD hS 0 rfl rfl 19 (by decide) (hg _ gw_543) (fun _ h9 => h9) rfl (by decide +kernel) (rfl) (rfl) (Nat.le_of_ble_eq_true rfl) d_M_look_16 (fun H locs hP hD hS => ?_)
  have hP : va_P D CLS [(y, .inr (5, [.int th, .int (nI bi), .int (nI ne), .int (nI li), .int (nI sp), .int (nI q), .ref ms, .ref mw, .ref mu, .ref mc, .ref mn, .int en, .int (nI sz), .ref mr, .int (nI wa), .ref mq, .int la, .ref md, .int (nI 0), .int 0])), (mq, .inl (cB, 1000, .inl wq))] H := hP
  have hD : va_D A [(y, .inr (5, [.int th, .int (nI bi), .int (nI ne), .int (nI li), .int (nI sp), .int (nI q), .ref ms, .ref mw, .ref mu, .ref mc, .ref mn, .int en, .int (nI sz), .ref mr, .int (nI wa), .ref mq, .int la, .ref md, .int (nI 0), .int 0])), (mq, .inl (cB, 1000, .inl wq))] := hD
  refine lv_iconst (v := 0) hx hb d_M_look_19 (by decide) ?_
  refine lv_istore (lv' := [(4, .int 0), (3, .int (nI (mx - q - 1))), (0, .ref y), (1, .int (nI K)), (2, .int (nI mx))]) hx hb d_M_look_20 hl (by decide) rfl (fun ls hl => ?_)
  refine lv_aload_n hx hb d_M_look_22 rfl (lv_at hl 2 rfl) ?_
  have loop : ∀ (d j : Nat), j + d = (mx - q - 1) → ∀ (H : Heap) (locs : List Loc), va_P D CLS [(y, .inr (5, [.int th, .int (nI bi), .int (nI ne), .int (nI li), .int (nI sp), .int (nI q), .ref ms, .ref mw, .ref mu, .ref mc, .ref mn, .int en, .int (nI sz), .ref mr, .int (nI wa), .ref mq, .int la, .ref md, .int (nI (j + 1)), .int 0])), (mq, .inl (cB, 1000, .inl wq))] H → va_D A [(y, .inr (5, [.int th, .int (nI bi), .int (nI ne), .int (nI li), .int (nI sp), .int (nI q), .ref ms, .ref mw, .ref mu, .ref mc, .ref mn, .int en, .int (nI sz), .ref mr, .int (nI wa), .ref mq, .int la, .ref md, .int (nI (j + 1)), .int 0])), (mq, .inl (cB, 1000, .inl wq))] → va_S A s.heap H locs → ∀ (ls : Array Slot), lv_has ls 7 [(5, .int (wq j)), (4, .int (nI j)), (3, .int (nI (mx - q - 1))), (0, .ref y), (1, .int (nI K)), (2, .int (nI mx))] → W p l e (headSpec (WSY y_M_look b_M_look 7 (some .int)) ({ frames := 2, cells := 0, slots := 0, locals := 44 })).room s m ([.ref y, .int (nI K), .int (nI mx)] : List Value).toArray below meth c H locs 0 0 (MQ below (QM (some (.int (-2))) [(y, .inr (5, [.int th, .int (nI bi), .int (nI ne), .int (nI li), .int (nI sp), .int (nI q), .ref ms, .ref mw, .ref mu, .ref mc, .ref mn, .int en, .int (nI sz), .ref mr, .int (nI wa), .ref mq, .int la, .ref md, .int at0, .int lk])), (mq, .inl (cB, 1000, .inl wq))] [(y, .inr (5, [.int th, .int (nI bi), .int (nI ne), .int (nI li), .int (nI sp), .int (nI q), .ref ms, .ref mw, .ref mu, .ref mc, .ref mn, .int en, .int (nI sz), .ref mr, .int (nI wa), .ref mq, .int la, .ref md, .int (nI ((mx - q - 1) + 1)), .int 0])), (mq, .inl (cB, 1000, .inl wq))] D) ([.ref y, .int (nI K), .int (nI mx)] : List Value).toArray s 0 0 (ad [(y, .inr (5, [.int th, .int (nI bi), .int (nI ne), .int (nI li), .int (nI sp), .int (nI q), .ref ms, .ref mw, .ref mu, .ref mc, .ref mn, .int en, .int (nI sz), .ref mr, .int (nI wa), .ref mq, .int la, .ref md, .int at0, .int lk])), (mq, .inl (cB, 1000, .inl wq))])) (F0 m 28 ls []) := by
    intro d
    induction d with
    | zero =>
      intro j hj H locs hP hD hS ls hl
      have hjs : j = (mx - q - 1) := by omega
      refine lv_aload_n hx hb d_M_look_28 rfl (lv_at hl 3 rfl) ?_
      refine va_get (D := D) (ci := 5) (v := .int 0) (C := R_M) (T := T_M) (N := 20) hx hb hg in_M hown hK hP 0 rfl rfl 19 (by decide) (hg _ gw_543) (fun _ h9 => h9) rfl d_M_look_29 ?_
      refine lv_if_ne (tgt := 58) hx hb d_M_look_32 (by decide) (fun c_1 => ?_) (fun c_1 => ?_)
      · skip
        exact absurd rfl c_1
      · skip
        refine lv_iload hx hb d_M_look_35 (lv_at hl 0 rfl) ?_
        refine lv_if_ne (tgt := 58) hx hb d_M_look_37 (by decide) (fun c_2 => ?_) (fun c_2 => ?_)
        · skip
          exact absurd (hz3 j (by omega)) c_2
        · skip
          refine lv_iload hx hb d_M_look_40 (lv_at hl 1 rfl) ?_
          refine lv_iload_n hx hb d_M_look_42 rfl (lv_at hl 2 rfl) ?_
          refine lv_icmp_ge (tgt := 58) hx hb d_M_look_43 (by decide) (fun c_3 => ?_) (fun c_3 => ?_)
          · skip
            refine lv_aload_n hx hb d_M_look_58 rfl (lv_at hl 3 rfl) ?_
            refine va_get (D := D) (ci := 5) (v := .int 0) (C := R_M) (T := T_M) (N := 20) hx hb hg in_M hown hK hP 0 rfl rfl 19 (by decide) (hg _ gw_543) (fun _ h9 => h9) rfl d_M_look_59 ?_
            refine lv_if_eq (tgt := 67) hx hb d_M_look_62 (by decide) (fun c_4 => ?_) (fun c_4 => ?_)
            · skip
              refine lv_iload hx hb d_M_look_67 (lv_at hl 0 rfl) ?_
              refine lv_if_ne (tgt := 75) hx hb d_M_look_69 (by decide) (fun c_5 => ?_) (fun c_5 => ?_)
              · skip
                exact absurd (hz3 j (by omega)) c_5
              · skip
                refine lv_bipush (v := (-2)) hx hb d_M_look_72 (by decide) ?_
                exact W.iret (v := (-2)) hx hb hr (fun t ht hW => ⟨rfl, by rw [ht]; exact (by rw [hjs] at hP; exact hP), (hAe ▸ hS).F ht⟩) (hAe ▸ hS).2.2 d_M_look_74
            · skip
              exact absurd rfl c_4
          · skip
            exact absurd (nI_le (by omega) (by omega)) c_3
    | succ d ih =>
      intro j hj H locs hP hD hS ls hl
      refine lv_aload_n hx hb d_M_look_28 rfl (lv_at hl 3 rfl) ?_
      refine va_get (D := D) (ci := 5) (v := .int 0) (C := R_M) (T := T_M) (N := 20) hx hb hg in_M hown hK hP 0 rfl rfl 19 (by decide) (hg _ gw_543) (fun _ h9 => h9) rfl d_M_look_29 ?_
      refine lv_if_ne (tgt := 58) hx hb d_M_look_32 (by decide) (fun c_6 => ?_) (fun c_6 => ?_)
      · skip
        exact absurd rfl c_6
      · skip
        refine lv_iload hx hb d_M_look_35 (lv_at hl 0 rfl) ?_
        refine lv_if_ne (tgt := 58) hx hb d_M_look_37 (by decide) (fun c_7 => ?_) (fun c_7 => ?_)
        · skip
          exact absurd (hz3 j (by omega)) c_7
        · skip
          refine lv_iload hx hb d_M_look_40 (lv_at hl 1 rfl) ?_
          refine lv_iload_n hx hb d_M_look_42 rfl (lv_at hl 2 rfl) ?_
          refine lv_icmp_ge (tgt := 58) hx hb d_M_look_43 (by decide) (fun c_8 => ?_) (fun c_8 => ?_)
          · skip
            exact absurd ((nI_leI (by omega) (by omega)).mp c_8) (by omega)
          · skip
            refine lv_iinc (v := nI (j + 1)) (lv' := [(4, .int (nI (j + 1))), (5, .int (wq j)), (3, .int (nI (mx - q - 1))), (0, .ref y), (1, .int (nI K)), (2, .int (nI mx))]) hx hb d_M_look_46 hl (k := 1) rfl (nI_1 j) (by decide) rfl (fun ls hl => ?_)
            refine lv_aload_n hx hb d_M_look_49 rfl (lv_at hl 3 rfl) ?_
            have hPc := hP.sub (ws' := [(y, .inr (5, [.int th, .int (nI bi), .int (nI ne), .int (nI li), .int (nI sp), .int (nI q), .ref ms, .ref mw, .ref mu, .ref mc, .ref mn, .int en, .int (nI sz), .ref mr, .int (nI wa), .ref mq, .int la, .ref md, .int (nI (j + 1)), .int 0])), (mq, .inl (cB, 1000, .inl wq))]) [0, 1] rfl
            have hDc := hD.sub (ws' := [(y, .inr (5, [.int th, .int (nI bi), .int (nI ne), .int (nI li), .int (nI sp), .int (nI q), .ref ms, .ref mw, .ref mu, .ref mc, .ref mn, .int en, .int (nI sz), .ref mr, .int (nI wa), .ref mq, .int la, .ref md, .int (nI (j + 1)), .int 0])), (mq, .inl (cB, 1000, .inl wq))]) [0, 1] (by decide) rfl
            have hKc := hK.sub (tys' := [(cB, .byte)]) [0] rfl
            refine mci (va_runV (As := []) (rest := []) ⟨hx, hb, hml, hown, hg⟩ (c_M_next l D y ms mw mu mc mn mr mq md bi ne li sp q sz wa th en la at0 0 cB wq (j + 1) hwa (by omega)) (cwV 0 hg (gV gw_678 gw_680 gs_26 gw_7 gw_681) rfl rfl rfl (by decide +kernel) ⟨Nat.le_of_ble_eq_true rfl, Nat.le_of_ble_eq_true rfl⟩) ⟨fun a U g mk q => by obtain ⟨q0, qP, qK, qD⟩ := q; exact ⟨q0, qP, va_K.moved (u := U) (U := U.calling g mk a) (Vm.Alike.refl U.vm) qK, qD⟩, va_recv hKc hPc (ci := 5) (q0 := 0) rfl rfl, fun U hU hW => ⟨rfl, by rw [hU]; exact hPc, va_K.moved hW.alike hKc, hDc.weaken (fun _ _ _ _ => trivial)⟩⟩ rfl rfl hl.1 rfl (lv_room (Nat.le_of_ble_eq_true rfl)) d_M_look_50 (⟨Nat.le_of_ble_eq_true rfl, Nat.le_of_ble_eq_true rfl⟩)) hS hP hD [0, 1] rfl rfl rfl (fun H locs hP hD hS => ?_)
            have hP : va_P D CLS [(y, .inr (5, [.int th, .int (nI bi), .int (nI ne), .int (nI li), .int (nI sp), .int (nI q), .ref ms, .ref mw, .ref mu, .ref mc, .ref mn, .int en, .int (nI sz), .ref mr, .int (nI wa), .ref mq, .int la, .ref md, .int (nI (j + 1 + 1)), .int 0])), (mq, .inl (cB, 1000, .inl wq))] H := hP
            have hD : va_D A [(y, .inr (5, [.int th, .int (nI bi), .int (nI ne), .int (nI li), .int (nI sp), .int (nI q), .ref ms, .ref mw, .ref mu, .ref mc, .ref mn, .int en, .int (nI sz), .ref mr, .int (nI wa), .ref mq, .int la, .ref md, .int (nI (j + 1 + 1)), .int 0])), (mq, .inl (cB, 1000, .inl wq))] := hD
            refine lv_istore (lv' := [(5, .int (wq (j + 1))), (4, .int (nI (j + 1))), (3, .int (nI (mx - q - 1))), (0, .ref y), (1, .int (nI K)), (2, .int (nI mx))]) hx hb d_M_look_53 hl (by decide) rfl (fun ls hl => ?_)
            refine lv_goto (tgt := 28) hx hb d_M_look_55 (by decide) ?_
            exact ih (j + 1) (by omega) H locs hP hD hS ls (lv_sub hl [0, 1, 2, 3, 4, 5] rfl)
  have hPc := hP.sub (ws' := [(y, .inr (5, [.int th, .int (nI bi), .int (nI ne), .int (nI li), .int (nI sp), .int (nI q), .ref ms, .ref mw, .ref mu, .ref mc, .ref mn, .int en, .int (nI sz), .ref mr, .int (nI wa), .ref mq, .int la, .ref md, .int (nI 0), .int 0])), (mq, .inl (cB, 1000, .inl wq))]) [0, 1] rfl
  have hDc := hD.sub (ws' := [(y, .inr (5, [.int th, .int (nI bi), .int (nI ne), .int (nI li), .int (nI sp), .int (nI q), .ref ms, .ref mw, .ref mu, .ref mc, .ref mn, .int en, .int (nI sz), .ref mr, .int (nI wa), .ref mq, .int la, .ref md, .int (nI 0), .int 0])), (mq, .inl (cB, 1000, .inl wq))]) [0, 1] (by decide) rfl
  have hKc := hK.sub (tys' := [(cB, .byte)]) [0] rfl
  refine mci (va_runV (As := []) (rest := []) ⟨hx, hb, hml, hown, hg⟩ (c_M_next l D y ms mw mu mc mn mr mq md bi ne li sp q sz wa th en la at0 0 cB wq 0 hwa (by omega)) (cwV 0 hg (gV gw_678 gw_680 gs_26 gw_7 gw_681) rfl rfl rfl (by decide +kernel) ⟨Nat.le_of_ble_eq_true rfl, Nat.le_of_ble_eq_true rfl⟩) ⟨fun a U g mk q => by obtain ⟨q0, qP, qK, qD⟩ := q; exact ⟨q0, qP, va_K.moved (u := U) (U := U.calling g mk a) (Vm.Alike.refl U.vm) qK, qD⟩, va_recv hKc hPc (ci := 5) (q0 := 0) rfl rfl, fun U hU hW => ⟨rfl, by rw [hU]; exact hPc, va_K.moved hW.alike hKc, hDc.weaken (fun _ _ _ _ => trivial)⟩⟩ rfl rfl hl.1 rfl (lv_room (Nat.le_of_ble_eq_true rfl)) d_M_look_23 (⟨Nat.le_of_ble_eq_true rfl, Nat.le_of_ble_eq_true rfl⟩)) hS hP hD [0, 1] rfl rfl rfl (fun H locs hP hD hS => ?_)
  have hP : va_P D CLS [(y, .inr (5, [.int th, .int (nI bi), .int (nI ne), .int (nI li), .int (nI sp), .int (nI q), .ref ms, .ref mw, .ref mu, .ref mc, .ref mn, .int en, .int (nI sz), .ref mr, .int (nI wa), .ref mq, .int la, .ref md, .int (nI (0 + 1)), .int 0])), (mq, .inl (cB, 1000, .inl wq))] H := hP
  have hD : va_D A [(y, .inr (5, [.int th, .int (nI bi), .int (nI ne), .int (nI li), .int (nI sp), .int (nI q), .ref ms, .ref mw, .ref mu, .ref mc, .ref mn, .int en, .int (nI sz), .ref mr, .int (nI wa), .ref mq, .int la, .ref md, .int (nI (0 + 1)), .int 0])), (mq, .inl (cB, 1000, .inl wq))] := hD
  refine lv_istore (lv' := [(5, .int (wq 0)), (4, .int 0), (3, .int (nI (mx - q - 1))), (0, .ref y), (1, .int (nI K)), (2, .int (nI mx))]) hx hb d_M_look_26 hl (by decide) rfl (fun ls hl => ?_)
  exact loop (mx - q - 1) 0 (by omega) H locs hP hD hS ls hl
set_option maxHeartbeats 4000000 in
set_option maxRecDepth 100000 in
theorem c_M_lookW (l : Launch) (D : va_G) (y ms mw mu mc mn mr mq md bi ne li sp q sz wa : Nat) (th en la at0 lk : Int32) (cB : ClassId) (wq : Nat → Int32) (K mx z : Nat) (hwa : wa ≤ 1000) (hKb : K ≤ 30) (hq : q ≤ 30) (hmx : q + 1 ≤ mx) (hmx2 : mx ≤ 200) (hz1 : z ≤ (mx - q - 1) + 1) (hz2 : z ≤ wa) (hz3 : ∀ j, j < z → wq j = 0) (hz4 : z = (mx - q - 1) + 1 ∨ z = wa ∨ wq z ≠ 0) (hzm : z ≤ (mx - q - 1)) (hw : wa < z + 1 + tln q K (mx - q - 1) z) : Met l y_M_look (WSY y_M_look b_M_look 7 (some .int)) ({ frames := 2, cells := 0, slots := 0, locals := 44 }) (va_Pc [.ref y, .int (nI K), .int (nI mx)] (fun U => va_P D CLS [(y, .inr (5, [.int th, .int (nI bi), .int (nI ne), .int (nI li), .int (nI sp), .int (nI q), .ref ms, .ref mw, .ref mu, .ref mc, .ref mn, .int en, .int (nI sz), .ref mr, .int (nI wa), .ref mq, .int la, .ref md, .int at0, .int lk])), (mq, .inl (cB, 1000, .inl wq))] U.heap ∧ va_K D CLS [(cB, .byte)] U ∧ va_D (fun _ => True) [(y, .inr (5, [.int th, .int (nI bi), .int (nI ne), .int (nI li), .int (nI sp), .int (nI q), .ref ms, .ref mw, .ref mu, .ref mc, .ref mn, .int en, .int (nI sz), .ref mr, .int (nI wa), .ref mq, .int la, .ref md, .int at0, .int lk])), (mq, .inl (cB, 1000, .inl wq))])) (QM (some (.int (-1))) [(y, .inr (5, [.int th, .int (nI bi), .int (nI ne), .int (nI li), .int (nI sp), .int (nI q), .ref ms, .ref mw, .ref mu, .ref mc, .ref mn, .int en, .int (nI sz), .ref mr, .int (nI wa), .ref mq, .int la, .ref md, .int at0, .int lk])), (mq, .inl (cB, 1000, .inl wq))] [(y, .inr (5, [.int th, .int (nI bi), .int (nI ne), .int (nI li), .int (nI sp), .int (nI q), .ref ms, .ref mw, .ref mu, .ref mc, .ref mn, .int en, .int (nI sz), .ref mr, .int (nI wa), .ref mq, .int la, .ref md, .int (nI wa), .int 1])), (mq, .inl (cB, 1000, .inl wq))] D) 0 0 (ad [(y, .inr (5, [.int th, .int (nI bi), .int (nI ne), .int (nI li), .int (nI sp), .int (nI q), .ref ms, .ref mw, .ref mu, .ref mc, .ref mn, .int en, .int (nI sz), .ref mr, .int (nI wa), .ref mq, .int la, .ref md, .int at0, .int lk])), (mq, .inl (cB, 1000, .inl wq))]) := by
  refine Met.ofW (cc := b_M_look) (maxL := 7) (ret := (some .int)) (by decide) rfl ?_
  intro p e s m args below meth c s₁ B hml hv
  obtain ⟨rfl, hP, hK, hD0⟩ := hv
  have hx := B.exec
  have hb := B.bytes
  have hr := B.returns
  have hts := atoms_spec (ws := WSY y_M_look b_M_look 7 (some .int)) B.pre
  have hg : ∀ w ∈ GW, w.before _ s = true := fun w h => hts w (List.mem_cons_of_mem _ h)
  have hown : s.vm.findClass "LineGolombModel" = some m.cls := findClass_of_methodNamed B.named
  have hlocks := B.notSynchronized
  obtain ⟨A, hAe⟩ : ∃ A, A = ad [(y, .inr (5, [.int th, .int (nI bi), .int (nI ne), .int (nI li), .int (nI sp), .int (nI q), .ref ms, .ref mw, .ref mu, .ref mc, .ref mn, .int en, .int (nI sz), .ref mr, .int (nI wa), .ref mq, .int la, .ref md, .int at0, .int lk])), (mq, .inl (cB, 1000, .inl wq))] := ⟨_, rfl⟩
  have hD : va_D A [(y, .inr (5, [.int th, .int (nI bi), .int (nI ne), .int (nI li), .int (nI sp), .int (nI q), .ref ms, .ref mw, .ref mu, .ref mc, .ref mn, .int en, .int (nI sz), .ref mr, .int (nI wa), .ref mq, .int la, .ref md, .int at0, .int lk])), (mq, .inl (cB, 1000, .inl wq))] := by rw [hAe]; exact va_D_ad hD0
  have hS : va_S A s.heap s.heap [] := va_S.rf
  have hl := lv_entry ([.ref y, .int (nI K), .int (nI mx)]) (n := 7) (Nat.le_of_ble_eq_true rfl)
  rw [lg_entry_eq]
  generalize (lg_sl ([.ref y, .int (nI K), .int (nI mx)]) ++ List.replicate (7 - (lg_sl ([.ref y, .int (nI K), .int (nI mx)])).length) Slot.unset).toArray = ls at hl ⊢
  have hl : lv_has ls 7 [(0, .ref y), (1, .int (nI K)), (2, .int (nI mx))] := hl
  refine lv_iload_n hx hb d_M_look_0 rfl (lv_at hl 2 rfl) ?_
  refine lv_aload_n hx hb d_M_look_1 rfl (lv_at hl 0 rfl) ?_
  refine va_get (D := D) (ci := 5) (v := .int (nI q)) (C := R_M) (T := T_M) (N := 20) hx hb hg in_M hown hK hP 0 rfl rfl 5 (by decide) (hg _ gw_529) (fun _ h9 => h9) rfl d_M_look_2 ?_
  refine lv_isub hx hb d_M_look_5 ?_
  refine tpi (y := nI (mx - q)) (pk_sub (by omega)) ?_
  refine lv_iconst (v := 1) hx hb d_M_look_6 (by decide) ?_
  refine lv_isub hx hb d_M_look_7 ?_
  refine tpi (y := nI (mx - q - 1)) (pk_sub (b := 1) (by omega)) ?_
  refine lv_istore_n (lv' := [(3, .int (nI (mx - q - 1))), (0, .ref y), (1, .int (nI K)), (2, .int (nI mx))]) hx hb d_M_look_8 rfl hl (by decide) rfl (fun ls hl => ?_)
  refine lv_aload_n hx hb d_M_look_9 rfl (lv_at hl 1 rfl) ?_
  refine lv_iconst (v := 0) hx hb d_M_look_10 (by decide) ?_
  refine tpi (y := nI 0) (rfl) ?_
  refine va_put (D := D) (ci := 5) (v := .int (nI 0)) (ty := .int) (C := R_M) (T := T_M) (N := 20) hx hb hg in_M ty_M tok_M nm_M hown hK hP hD hS 0 rfl rfl 18 (by decide) (hg _ gw_542) (fun _ h9 => h9) rfl (by decide +kernel) (rfl) (rfl) (Nat.le_of_ble_eq_true rfl) d_M_look_11 (fun H locs hP hD hS => ?_)
  have hP : va_P D CLS [(y, .inr (5, [.int th, .int (nI bi), .int (nI ne), .int (nI li), .int (nI sp), .int (nI q), .ref ms, .ref mw, .ref mu, .ref mc, .ref mn, .int en, .int (nI sz), .ref mr, .int (nI wa), .ref mq, .int la, .ref md, .int (nI 0), .int lk])), (mq, .inl (cB, 1000, .inl wq))] H := hP
  have hD : va_D A [(y, .inr (5, [.int th, .int (nI bi), .int (nI ne), .int (nI li), .int (nI sp), .int (nI q), .ref ms, .ref mw, .ref mu, .ref mc, .ref mn, .int en, .int (nI sz), .ref mr, .int (nI wa), .ref mq, .int la, .ref md, .int (nI 0), .int lk])), (mq, .inl (cB, 1000, .inl wq))] := hD
  refine lv_aload_n hx hb d_M_look_14 rfl (lv_at hl 1 rfl) ?_
  refine lv_iconst (v := 0) hx hb d_M_look_15 (by decide) ?_
  refine va_put (D := D) (ci := 5) (v := .int 0) (ty := .boolean) (C := R_M) (T := T_M) (N := 20) hx hb hg in_M ty_M tok_M nm_M hown hK hP hD hS 0 rfl rfl 19 (by decide) (hg _ gw_543) (fun _ h9 => h9) rfl (by decide +kernel) (rfl) (rfl) (Nat.le_of_ble_eq_true rfl) d_M_look_16 (fun H locs hP hD hS => ?_)
  have hP : va_P D CLS [(y, .inr (5, [.int th, .int (nI bi), .int (nI ne), .int (nI li), .int (nI sp), .int (nI q), .ref ms, .ref mw, .ref mu, .ref mc, .ref mn, .int en, .int (nI sz), .ref mr, .int (nI wa), .ref mq, .int la, .ref md, .int (nI 0), .int 0])), (mq, .inl (cB, 1000, .inl wq))] H := hP
  have hD : va_D A [(y, .inr (5, [.int th, .int (nI bi), .int (nI ne), .int (nI li), .int (nI sp), .int (nI q), .ref ms, .ref mw, .ref mu, .ref mc, .ref mn, .int en, .int (nI sz), .ref mr, .int (nI wa), .ref mq, .int la, .ref md, .int (nI 0), .int 0])), (mq, .inl (cB, 1000, .inl wq))] := hD
  refine lv_iconst (v := 0) hx hb d_M_look_19 (by decide) ?_
  refine lv_istore (lv' := [(4, .int 0), (3, .int (nI (mx - q - 1))), (0, .ref y), (1, .int (nI K)), (2, .int (nI mx))]) hx hb d_M_look_20 hl (by decide) rfl (fun ls hl => ?_)
  refine lv_aload_n hx hb d_M_look_22 rfl (lv_at hl 2 rfl) ?_
  by_cases hzw : z = wa
  · skip
    by_cases hw0 : wa = 0
    · skip
      have hPc := hP.sub (ws' := [(y, .inr (5, [.int th, .int (nI bi), .int (nI ne), .int (nI li), .int (nI sp), .int (nI q), .ref ms, .ref mw, .ref mu, .ref mc, .ref mn, .int en, .int (nI sz), .ref mr, .int (nI wa), .ref mq, .int la, .ref md, .int (nI 0), .int 0])), (mq, .inl (cB, 1000, .inl wq))]) [0, 1] rfl
      have hDc := hD.sub (ws' := [(y, .inr (5, [.int th, .int (nI bi), .int (nI ne), .int (nI li), .int (nI sp), .int (nI q), .ref ms, .ref mw, .ref mu, .ref mc, .ref mn, .int en, .int (nI sz), .ref mr, .int (nI wa), .ref mq, .int la, .ref md, .int (nI 0), .int 0])), (mq, .inl (cB, 1000, .inl wq))]) [0, 1] (by decide) rfl
      have hKc := hK.sub (tys' := [(cB, .byte)]) [0] rfl
      refine mci (va_runV (As := []) (rest := []) ⟨hx, hb, hml, hown, hg⟩ (c_M_nextL l D y ms mw mu mc mn mr mq md bi ne li sp q sz wa th en la at0 0 cB wq 0 hwa (by omega)) (cwV 0 hg (gV gw_678 gw_680 gs_26 gw_7 gw_681) rfl rfl rfl (by decide +kernel) ⟨Nat.le_of_ble_eq_true rfl, Nat.le_of_ble_eq_true rfl⟩) ⟨fun a U g mk q => by obtain ⟨q0, qP, qK, qD⟩ := q; exact ⟨q0, qP, va_K.moved (u := U) (U := U.calling g mk a) (Vm.Alike.refl U.vm) qK, qD⟩, va_recv hKc hPc (ci := 5) (q0 := 0) rfl rfl, fun U hU hW => ⟨rfl, by rw [hU]; exact hPc, va_K.moved hW.alike hKc, hDc.weaken (fun _ _ _ _ => trivial)⟩⟩ rfl rfl hl.1 rfl (lv_room (Nat.le_of_ble_eq_true rfl)) d_M_look_23 (⟨Nat.le_of_ble_eq_true rfl, Nat.le_of_ble_eq_true rfl⟩)) hS hP hD [0, 1] rfl rfl rfl (fun H locs hP hD hS => ?_)
      have hP : va_P D CLS [(y, .inr (5, [.int th, .int (nI bi), .int (nI ne), .int (nI li), .int (nI sp), .int (nI q), .ref ms, .ref mw, .ref mu, .ref mc, .ref mn, .int en, .int (nI sz), .ref mr, .int (nI wa), .ref mq, .int la, .ref md, .int (nI 0), .int 1])), (mq, .inl (cB, 1000, .inl wq))] H := hP
      have hD : va_D A [(y, .inr (5, [.int th, .int (nI bi), .int (nI ne), .int (nI li), .int (nI sp), .int (nI q), .ref ms, .ref mw, .ref mu, .ref mc, .ref mn, .int en, .int (nI sz), .ref mr, .int (nI wa), .ref mq, .int la, .ref md, .int (nI 0), .int 1])), (mq, .inl (cB, 1000, .inl wq))] := hD
      refine lv_istore (lv' := [(5, .int 0), (4, .int 0), (3, .int (nI (mx - q - 1))), (0, .ref y), (1, .int (nI K)), (2, .int (nI mx))]) hx hb d_M_look_26 hl (by decide) rfl (fun ls hl => ?_)
      refine lv_aload_n hx hb d_M_look_28 rfl (lv_at hl 3 rfl) ?_
      refine va_get (D := D) (ci := 5) (v := .int 1) (C := R_M) (T := T_M) (N := 20) hx hb hg in_M hown hK hP 0 rfl rfl 19 (by decide) (hg _ gw_543) (fun _ h9 => h9) rfl d_M_look_29 ?_
      refine lv_if_ne (tgt := 58) hx hb d_M_look_32 (by decide) (fun c_1 => ?_) (fun c_1 => ?_)
      · skip
        refine lv_aload_n hx hb d_M_look_58 rfl (lv_at hl 3 rfl) ?_
        refine va_get (D := D) (ci := 5) (v := .int 1) (C := R_M) (T := T_M) (N := 20) hx hb hg in_M hown hK hP 0 rfl rfl 19 (by decide) (hg _ gw_543) (fun _ h9 => h9) rfl d_M_look_59 ?_
        refine lv_if_eq (tgt := 67) hx hb d_M_look_62 (by decide) (fun c_2 => ?_) (fun c_2 => ?_)
        · skip
          exact absurd c_2 (by decide)
        · skip
          refine lv_iconst (v := (-1)) hx hb d_M_look_65 (by decide) ?_
          exact W.iret (v := (-1)) hx hb hr (fun t ht hW => ⟨rfl, by rw [ht]; exact (by rw [hw0] at hP ⊢; exact hP), (hAe ▸ hS).F ht⟩) (hAe ▸ hS).2.2 d_M_look_66
      · skip
        exact absurd c_1 (by decide)
    · skip
      have loop : ∀ (d j : Nat), j + d + 1 = wa → ∀ (H : Heap) (locs : List Loc), va_P D CLS [(y, .inr (5, [.int th, .int (nI bi), .int (nI ne), .int (nI li), .int (nI sp), .int (nI q), .ref ms, .ref mw, .ref mu, .ref mc, .ref mn, .int en, .int (nI sz), .ref mr, .int (nI wa), .ref mq, .int la, .ref md, .int (nI (j + 1)), .int 0])), (mq, .inl (cB, 1000, .inl wq))] H → va_D A [(y, .inr (5, [.int th, .int (nI bi), .int (nI ne), .int (nI li), .int (nI sp), .int (nI q), .ref ms, .ref mw, .ref mu, .ref mc, .ref mn, .int en, .int (nI sz), .ref mr, .int (nI wa), .ref mq, .int la, .ref md, .int (nI (j + 1)), .int 0])), (mq, .inl (cB, 1000, .inl wq))] → va_S A s.heap H locs → ∀ (ls : Array Slot), lv_has ls 7 [(5, .int (wq j)), (4, .int (nI j)), (3, .int (nI (mx - q - 1))), (0, .ref y), (1, .int (nI K)), (2, .int (nI mx))] → W p l e (headSpec (WSY y_M_look b_M_look 7 (some .int)) ({ frames := 2, cells := 0, slots := 0, locals := 44 })).room s m ([.ref y, .int (nI K), .int (nI mx)] : List Value).toArray below meth c H locs 0 0 (MQ below (QM (some (.int (-1))) [(y, .inr (5, [.int th, .int (nI bi), .int (nI ne), .int (nI li), .int (nI sp), .int (nI q), .ref ms, .ref mw, .ref mu, .ref mc, .ref mn, .int en, .int (nI sz), .ref mr, .int (nI wa), .ref mq, .int la, .ref md, .int at0, .int lk])), (mq, .inl (cB, 1000, .inl wq))] [(y, .inr (5, [.int th, .int (nI bi), .int (nI ne), .int (nI li), .int (nI sp), .int (nI q), .ref ms, .ref mw, .ref mu, .ref mc, .ref mn, .int en, .int (nI sz), .ref mr, .int (nI wa), .ref mq, .int la, .ref md, .int (nI wa), .int 1])), (mq, .inl (cB, 1000, .inl wq))] D) ([.ref y, .int (nI K), .int (nI mx)] : List Value).toArray s 0 0 (ad [(y, .inr (5, [.int th, .int (nI bi), .int (nI ne), .int (nI li), .int (nI sp), .int (nI q), .ref ms, .ref mw, .ref mu, .ref mc, .ref mn, .int en, .int (nI sz), .ref mr, .int (nI wa), .ref mq, .int la, .ref md, .int at0, .int lk])), (mq, .inl (cB, 1000, .inl wq))])) (F0 m 28 ls []) := by
        intro d
        induction d with
        | zero =>
          intro j hj H locs hP hD hS ls hl
          refine lv_aload_n hx hb d_M_look_28 rfl (lv_at hl 3 rfl) ?_
          refine va_get (D := D) (ci := 5) (v := .int 0) (C := R_M) (T := T_M) (N := 20) hx hb hg in_M hown hK hP 0 rfl rfl 19 (by decide) (hg _ gw_543) (fun _ h9 => h9) rfl d_M_look_29 ?_
          refine lv_if_ne (tgt := 58) hx hb d_M_look_32 (by decide) (fun c_3 => ?_) (fun c_3 => ?_)
          · skip
            exact absurd rfl c_3
          · skip
            refine lv_iload hx hb d_M_look_35 (lv_at hl 0 rfl) ?_
            refine lv_if_ne (tgt := 58) hx hb d_M_look_37 (by decide) (fun c_4 => ?_) (fun c_4 => ?_)
            · skip
              exact absurd (hz3 j (by omega)) c_4
            · skip
              refine lv_iload hx hb d_M_look_40 (lv_at hl 1 rfl) ?_
              refine lv_iload_n hx hb d_M_look_42 rfl (lv_at hl 2 rfl) ?_
              refine lv_icmp_ge (tgt := 58) hx hb d_M_look_43 (by decide) (fun c_5 => ?_) (fun c_5 => ?_)
              · skip
                exact absurd ((nI_leI (by omega) (by omega)).mp c_5) (by omega)
              · skip
                refine lv_iinc (v := nI (j + 1)) (lv' := [(4, .int (nI (j + 1))), (5, .int (wq j)), (3, .int (nI (mx - q - 1))), (0, .ref y), (1, .int (nI K)), (2, .int (nI mx))]) hx hb d_M_look_46 hl (k := 1) rfl (nI_1 j) (by decide) rfl (fun ls hl => ?_)
                refine lv_aload_n hx hb d_M_look_49 rfl (lv_at hl 3 rfl) ?_
                have hPc := hP.sub (ws' := [(y, .inr (5, [.int th, .int (nI bi), .int (nI ne), .int (nI li), .int (nI sp), .int (nI q), .ref ms, .ref mw, .ref mu, .ref mc, .ref mn, .int en, .int (nI sz), .ref mr, .int (nI wa), .ref mq, .int la, .ref md, .int (nI (j + 1)), .int 0])), (mq, .inl (cB, 1000, .inl wq))]) [0, 1] rfl
                have hDc := hD.sub (ws' := [(y, .inr (5, [.int th, .int (nI bi), .int (nI ne), .int (nI li), .int (nI sp), .int (nI q), .ref ms, .ref mw, .ref mu, .ref mc, .ref mn, .int en, .int (nI sz), .ref mr, .int (nI wa), .ref mq, .int la, .ref md, .int (nI (j + 1)), .int 0])), (mq, .inl (cB, 1000, .inl wq))]) [0, 1] (by decide) rfl
                have hKc := hK.sub (tys' := [(cB, .byte)]) [0] rfl
                refine mci (va_runV (As := []) (rest := []) ⟨hx, hb, hml, hown, hg⟩ (c_M_nextL l D y ms mw mu mc mn mr mq md bi ne li sp q sz wa th en la at0 0 cB wq (j + 1) hwa (by omega)) (cwV 0 hg (gV gw_678 gw_680 gs_26 gw_7 gw_681) rfl rfl rfl (by decide +kernel) ⟨Nat.le_of_ble_eq_true rfl, Nat.le_of_ble_eq_true rfl⟩) ⟨fun a U g mk q => by obtain ⟨q0, qP, qK, qD⟩ := q; exact ⟨q0, qP, va_K.moved (u := U) (U := U.calling g mk a) (Vm.Alike.refl U.vm) qK, qD⟩, va_recv hKc hPc (ci := 5) (q0 := 0) rfl rfl, fun U hU hW => ⟨rfl, by rw [hU]; exact hPc, va_K.moved hW.alike hKc, hDc.weaken (fun _ _ _ _ => trivial)⟩⟩ rfl rfl hl.1 rfl (lv_room (Nat.le_of_ble_eq_true rfl)) d_M_look_50 (⟨Nat.le_of_ble_eq_true rfl, Nat.le_of_ble_eq_true rfl⟩)) hS hP hD [0, 1] rfl rfl rfl (fun H locs hP hD hS => ?_)
                have hP : va_P D CLS [(y, .inr (5, [.int th, .int (nI bi), .int (nI ne), .int (nI li), .int (nI sp), .int (nI q), .ref ms, .ref mw, .ref mu, .ref mc, .ref mn, .int en, .int (nI sz), .ref mr, .int (nI wa), .ref mq, .int la, .ref md, .int (nI (j + 1)), .int 1])), (mq, .inl (cB, 1000, .inl wq))] H := hP
                have hD : va_D A [(y, .inr (5, [.int th, .int (nI bi), .int (nI ne), .int (nI li), .int (nI sp), .int (nI q), .ref ms, .ref mw, .ref mu, .ref mc, .ref mn, .int en, .int (nI sz), .ref mr, .int (nI wa), .ref mq, .int la, .ref md, .int (nI (j + 1)), .int 1])), (mq, .inl (cB, 1000, .inl wq))] := hD
                refine lv_istore (lv' := [(5, .int 0), (4, .int (nI (j + 1))), (3, .int (nI (mx - q - 1))), (0, .ref y), (1, .int (nI K)), (2, .int (nI mx))]) hx hb d_M_look_53 hl (by decide) rfl (fun ls hl => ?_)
                refine lv_goto (tgt := 28) hx hb d_M_look_55 (by decide) ?_
                refine lv_aload_n hx hb d_M_look_28 rfl (lv_at hl 3 rfl) ?_
                refine va_get (D := D) (ci := 5) (v := .int 1) (C := R_M) (T := T_M) (N := 20) hx hb hg in_M hown hK hP 0 rfl rfl 19 (by decide) (hg _ gw_543) (fun _ h9 => h9) rfl d_M_look_29 ?_
                refine lv_if_ne (tgt := 58) hx hb d_M_look_32 (by decide) (fun c_6 => ?_) (fun c_6 => ?_)
                · skip
                  refine lv_aload_n hx hb d_M_look_58 rfl (lv_at hl 3 rfl) ?_
                  refine va_get (D := D) (ci := 5) (v := .int 1) (C := R_M) (T := T_M) (N := 20) hx hb hg in_M hown hK hP 0 rfl rfl 19 (by decide) (hg _ gw_543) (fun _ h9 => h9) rfl d_M_look_59 ?_
                  refine lv_if_eq (tgt := 67) hx hb d_M_look_62 (by decide) (fun c_7 => ?_) (fun c_7 => ?_)
                  · skip
                    exact absurd c_7 (by decide)
                  · skip
                    refine lv_iconst (v := (-1)) hx hb d_M_look_65 (by decide) ?_
                    exact W.iret (v := (-1)) hx hb hr (fun t ht hW => ⟨rfl, by rw [ht]; exact (by have hj2 : wa = j + 1 := (by omega); rw [hj2] at hP ⊢; exact hP), (hAe ▸ hS).F ht⟩) (hAe ▸ hS).2.2 d_M_look_66
                · skip
                  exact absurd c_6 (by decide)
        | succ d ih =>
          intro j hj H locs hP hD hS ls hl
          refine lv_aload_n hx hb d_M_look_28 rfl (lv_at hl 3 rfl) ?_
          refine va_get (D := D) (ci := 5) (v := .int 0) (C := R_M) (T := T_M) (N := 20) hx hb hg in_M hown hK hP 0 rfl rfl 19 (by decide) (hg _ gw_543) (fun _ h9 => h9) rfl d_M_look_29 ?_
          refine lv_if_ne (tgt := 58) hx hb d_M_look_32 (by decide) (fun c_8 => ?_) (fun c_8 => ?_)
          · skip
            exact absurd rfl c_8
          · skip
            refine lv_iload hx hb d_M_look_35 (lv_at hl 0 rfl) ?_
            refine lv_if_ne (tgt := 58) hx hb d_M_look_37 (by decide) (fun c_9 => ?_) (fun c_9 => ?_)
            · skip
              exact absurd (hz3 j (by omega)) c_9
            · skip
              refine lv_iload hx hb d_M_look_40 (lv_at hl 1 rfl) ?_
              refine lv_iload_n hx hb d_M_look_42 rfl (lv_at hl 2 rfl) ?_
              refine lv_icmp_ge (tgt := 58) hx hb d_M_look_43 (by decide) (fun c_10 => ?_) (fun c_10 => ?_)
              · skip
                exact absurd ((nI_leI (by omega) (by omega)).mp c_10) (by omega)
              · skip
                refine lv_iinc (v := nI (j + 1)) (lv' := [(4, .int (nI (j + 1))), (5, .int (wq j)), (3, .int (nI (mx - q - 1))), (0, .ref y), (1, .int (nI K)), (2, .int (nI mx))]) hx hb d_M_look_46 hl (k := 1) rfl (nI_1 j) (by decide) rfl (fun ls hl => ?_)
                refine lv_aload_n hx hb d_M_look_49 rfl (lv_at hl 3 rfl) ?_
                have hPc := hP.sub (ws' := [(y, .inr (5, [.int th, .int (nI bi), .int (nI ne), .int (nI li), .int (nI sp), .int (nI q), .ref ms, .ref mw, .ref mu, .ref mc, .ref mn, .int en, .int (nI sz), .ref mr, .int (nI wa), .ref mq, .int la, .ref md, .int (nI (j + 1)), .int 0])), (mq, .inl (cB, 1000, .inl wq))]) [0, 1] rfl
                have hDc := hD.sub (ws' := [(y, .inr (5, [.int th, .int (nI bi), .int (nI ne), .int (nI li), .int (nI sp), .int (nI q), .ref ms, .ref mw, .ref mu, .ref mc, .ref mn, .int en, .int (nI sz), .ref mr, .int (nI wa), .ref mq, .int la, .ref md, .int (nI (j + 1)), .int 0])), (mq, .inl (cB, 1000, .inl wq))]) [0, 1] (by decide) rfl
                have hKc := hK.sub (tys' := [(cB, .byte)]) [0] rfl
                refine mci (va_runV (As := []) (rest := []) ⟨hx, hb, hml, hown, hg⟩ (c_M_next l D y ms mw mu mc mn mr mq md bi ne li sp q sz wa th en la at0 0 cB wq (j + 1) hwa (by omega)) (cwV 0 hg (gV gw_678 gw_680 gs_26 gw_7 gw_681) rfl rfl rfl (by decide +kernel) ⟨Nat.le_of_ble_eq_true rfl, Nat.le_of_ble_eq_true rfl⟩) ⟨fun a U g mk q => by obtain ⟨q0, qP, qK, qD⟩ := q; exact ⟨q0, qP, va_K.moved (u := U) (U := U.calling g mk a) (Vm.Alike.refl U.vm) qK, qD⟩, va_recv hKc hPc (ci := 5) (q0 := 0) rfl rfl, fun U hU hW => ⟨rfl, by rw [hU]; exact hPc, va_K.moved hW.alike hKc, hDc.weaken (fun _ _ _ _ => trivial)⟩⟩ rfl rfl hl.1 rfl (lv_room (Nat.le_of_ble_eq_true rfl)) d_M_look_50 (⟨Nat.le_of_ble_eq_true rfl, Nat.le_of_ble_eq_true rfl⟩)) hS hP hD [0, 1] rfl rfl rfl (fun H locs hP hD hS => ?_)
                have hP : va_P D CLS [(y, .inr (5, [.int th, .int (nI bi), .int (nI ne), .int (nI li), .int (nI sp), .int (nI q), .ref ms, .ref mw, .ref mu, .ref mc, .ref mn, .int en, .int (nI sz), .ref mr, .int (nI wa), .ref mq, .int la, .ref md, .int (nI (j + 1 + 1)), .int 0])), (mq, .inl (cB, 1000, .inl wq))] H := hP
                have hD : va_D A [(y, .inr (5, [.int th, .int (nI bi), .int (nI ne), .int (nI li), .int (nI sp), .int (nI q), .ref ms, .ref mw, .ref mu, .ref mc, .ref mn, .int en, .int (nI sz), .ref mr, .int (nI wa), .ref mq, .int la, .ref md, .int (nI (j + 1 + 1)), .int 0])), (mq, .inl (cB, 1000, .inl wq))] := hD
                refine lv_istore (lv' := [(5, .int (wq (j + 1))), (4, .int (nI (j + 1))), (3, .int (nI (mx - q - 1))), (0, .ref y), (1, .int (nI K)), (2, .int (nI mx))]) hx hb d_M_look_53 hl (by decide) rfl (fun ls hl => ?_)
                refine lv_goto (tgt := 28) hx hb d_M_look_55 (by decide) ?_
                exact ih (j + 1) (by omega) H locs hP hD hS ls (lv_sub hl [0, 1, 2, 3, 4, 5] rfl)
      have hPc := hP.sub (ws' := [(y, .inr (5, [.int th, .int (nI bi), .int (nI ne), .int (nI li), .int (nI sp), .int (nI q), .ref ms, .ref mw, .ref mu, .ref mc, .ref mn, .int en, .int (nI sz), .ref mr, .int (nI wa), .ref mq, .int la, .ref md, .int (nI 0), .int 0])), (mq, .inl (cB, 1000, .inl wq))]) [0, 1] rfl
      have hDc := hD.sub (ws' := [(y, .inr (5, [.int th, .int (nI bi), .int (nI ne), .int (nI li), .int (nI sp), .int (nI q), .ref ms, .ref mw, .ref mu, .ref mc, .ref mn, .int en, .int (nI sz), .ref mr, .int (nI wa), .ref mq, .int la, .ref md, .int (nI 0), .int 0])), (mq, .inl (cB, 1000, .inl wq))]) [0, 1] (by decide) rfl
      have hKc := hK.sub (tys' := [(cB, .byte)]) [0] rfl
      refine mci (va_runV (As := []) (rest := []) ⟨hx, hb, hml, hown, hg⟩ (c_M_next l D y ms mw mu mc mn mr mq md bi ne li sp q sz wa th en la at0 0 cB wq 0 hwa (by omega)) (cwV 0 hg (gV gw_678 gw_680 gs_26 gw_7 gw_681) rfl rfl rfl (by decide +kernel) ⟨Nat.le_of_ble_eq_true rfl, Nat.le_of_ble_eq_true rfl⟩) ⟨fun a U g mk q => by obtain ⟨q0, qP, qK, qD⟩ := q; exact ⟨q0, qP, va_K.moved (u := U) (U := U.calling g mk a) (Vm.Alike.refl U.vm) qK, qD⟩, va_recv hKc hPc (ci := 5) (q0 := 0) rfl rfl, fun U hU hW => ⟨rfl, by rw [hU]; exact hPc, va_K.moved hW.alike hKc, hDc.weaken (fun _ _ _ _ => trivial)⟩⟩ rfl rfl hl.1 rfl (lv_room (Nat.le_of_ble_eq_true rfl)) d_M_look_23 (⟨Nat.le_of_ble_eq_true rfl, Nat.le_of_ble_eq_true rfl⟩)) hS hP hD [0, 1] rfl rfl rfl (fun H locs hP hD hS => ?_)
      have hP : va_P D CLS [(y, .inr (5, [.int th, .int (nI bi), .int (nI ne), .int (nI li), .int (nI sp), .int (nI q), .ref ms, .ref mw, .ref mu, .ref mc, .ref mn, .int en, .int (nI sz), .ref mr, .int (nI wa), .ref mq, .int la, .ref md, .int (nI (0 + 1)), .int 0])), (mq, .inl (cB, 1000, .inl wq))] H := hP
      have hD : va_D A [(y, .inr (5, [.int th, .int (nI bi), .int (nI ne), .int (nI li), .int (nI sp), .int (nI q), .ref ms, .ref mw, .ref mu, .ref mc, .ref mn, .int en, .int (nI sz), .ref mr, .int (nI wa), .ref mq, .int la, .ref md, .int (nI (0 + 1)), .int 0])), (mq, .inl (cB, 1000, .inl wq))] := hD
      refine lv_istore (lv' := [(5, .int (wq 0)), (4, .int 0), (3, .int (nI (mx - q - 1))), (0, .ref y), (1, .int (nI K)), (2, .int (nI mx))]) hx hb d_M_look_26 hl (by decide) rfl (fun ls hl => ?_)
      exact loop (wa - 1) 0 (by omega) H locs hP hD hS ls hl
  · skip
    have hbit : ¬ wq z = 0 := by rcases hz4 with q9 | q9 | q9 <;> first | omega | exact q9
    have hzwa : z < wa := by omega
    have loop : ∀ (d j : Nat), j + d = z → ∀ (H : Heap) (locs : List Loc), va_P D CLS [(y, .inr (5, [.int th, .int (nI bi), .int (nI ne), .int (nI li), .int (nI sp), .int (nI q), .ref ms, .ref mw, .ref mu, .ref mc, .ref mn, .int en, .int (nI sz), .ref mr, .int (nI wa), .ref mq, .int la, .ref md, .int (nI (j + 1)), .int 0])), (mq, .inl (cB, 1000, .inl wq))] H → va_D A [(y, .inr (5, [.int th, .int (nI bi), .int (nI ne), .int (nI li), .int (nI sp), .int (nI q), .ref ms, .ref mw, .ref mu, .ref mc, .ref mn, .int en, .int (nI sz), .ref mr, .int (nI wa), .ref mq, .int la, .ref md, .int (nI (j + 1)), .int 0])), (mq, .inl (cB, 1000, .inl wq))] → va_S A s.heap H locs → ∀ (ls : Array Slot), lv_has ls 7 [(5, .int (wq j)), (4, .int (nI j)), (3, .int (nI (mx - q - 1))), (0, .ref y), (1, .int (nI K)), (2, .int (nI mx))] → W p l e (headSpec (WSY y_M_look b_M_look 7 (some .int)) ({ frames := 2, cells := 0, slots := 0, locals := 44 })).room s m ([.ref y, .int (nI K), .int (nI mx)] : List Value).toArray below meth c H locs 0 0 (MQ below (QM (some (.int (-1))) [(y, .inr (5, [.int th, .int (nI bi), .int (nI ne), .int (nI li), .int (nI sp), .int (nI q), .ref ms, .ref mw, .ref mu, .ref mc, .ref mn, .int en, .int (nI sz), .ref mr, .int (nI wa), .ref mq, .int la, .ref md, .int at0, .int lk])), (mq, .inl (cB, 1000, .inl wq))] [(y, .inr (5, [.int th, .int (nI bi), .int (nI ne), .int (nI li), .int (nI sp), .int (nI q), .ref ms, .ref mw, .ref mu, .ref mc, .ref mn, .int en, .int (nI sz), .ref mr, .int (nI wa), .ref mq, .int la, .ref md, .int (nI wa), .int 1])), (mq, .inl (cB, 1000, .inl wq))] D) ([.ref y, .int (nI K), .int (nI mx)] : List Value).toArray s 0 0 (ad [(y, .inr (5, [.int th, .int (nI bi), .int (nI ne), .int (nI li), .int (nI sp), .int (nI q), .ref ms, .ref mw, .ref mu, .ref mc, .ref mn, .int en, .int (nI sz), .ref mr, .int (nI wa), .ref mq, .int la, .ref md, .int at0, .int lk])), (mq, .inl (cB, 1000, .inl wq))])) (F0 m 28 ls []) := by
      intro d
      induction d with
      | zero =>
        intro j hj H locs hP hD hS ls hl
        have hjs : j = z := by omega
        refine lv_aload_n hx hb d_M_look_28 rfl (lv_at hl 3 rfl) ?_
        refine va_get (D := D) (ci := 5) (v := .int 0) (C := R_M) (T := T_M) (N := 20) hx hb hg in_M hown hK hP 0 rfl rfl 19 (by decide) (hg _ gw_543) (fun _ h9 => h9) rfl d_M_look_29 ?_
        refine lv_if_ne (tgt := 58) hx hb d_M_look_32 (by decide) (fun c_11 => ?_) (fun c_11 => ?_)
        · skip
          exact absurd rfl c_11
        · skip
          refine lv_iload hx hb d_M_look_35 (lv_at hl 0 rfl) ?_
          refine lv_if_ne (tgt := 58) hx hb d_M_look_37 (by decide) (fun c_12 => ?_) (fun c_12 => ?_)
          · skip
            refine lv_aload_n hx hb d_M_look_58 rfl (lv_at hl 3 rfl) ?_
            refine va_get (D := D) (ci := 5) (v := .int 0) (C := R_M) (T := T_M) (N := 20) hx hb hg in_M hown hK hP 0 rfl rfl 19 (by decide) (hg _ gw_543) (fun _ h9 => h9) rfl d_M_look_59 ?_
            refine lv_if_eq (tgt := 67) hx hb d_M_look_62 (by decide) (fun c_13 => ?_) (fun c_13 => ?_)
            · skip
              rw [hjs] at hP hD hl
              have hP : va_P D CLS [(y, .inr (5, [.int th, .int (nI bi), .int (nI ne), .int (nI li), .int (nI sp), .int (nI q), .ref ms, .ref mw, .ref mu, .ref mc, .ref mn, .int en, .int (nI sz), .ref mr, .int (nI wa), .ref mq, .int la, .ref md, .int (nI (z + 1)), .int 0])), (mq, .inl (cB, 1000, .inl wq))] H := hP
              have hD : va_D A [(y, .inr (5, [.int th, .int (nI bi), .int (nI ne), .int (nI li), .int (nI sp), .int (nI q), .ref ms, .ref mw, .ref mu, .ref mc, .ref mn, .int en, .int (nI sz), .ref mr, .int (nI wa), .ref mq, .int la, .ref md, .int (nI (z + 1)), .int 0])), (mq, .inl (cB, 1000, .inl wq))] := hD
              refine lv_iload hx hb d_M_look_67 (lv_at hl 0 rfl) ?_
              refine lv_if_ne (tgt := 75) hx hb d_M_look_69 (by decide) (fun c_14 => ?_) (fun c_14 => ?_)
              · skip
                refine lv_iload hx hb d_M_look_75 (lv_at hl 1 rfl) ?_
                refine lv_iload_n hx hb d_M_look_77 rfl (lv_at hl 2 rfl) ?_
                refine lv_icmp_ge (tgt := 89) hx hb d_M_look_78 (by decide) (fun c_15 => ?_) (fun c_15 => ?_)
                · skip
                  have hlt : ¬ z < (mx - q - 1) := by have := (nI_leI (by omega) (by omega)).mp c_15; omega
                  have htl : tln q K (mx - q - 1) z = q := if_neg hlt
                  refine lv_aload_n hx hb d_M_look_89 rfl (lv_at hl 3 rfl) ?_
                  refine lv_aload_n hx hb d_M_look_90 rfl (lv_at hl 3 rfl) ?_
                  refine va_get (D := D) (ci := 5) (v := .int (nI q)) (C := R_M) (T := T_M) (N := 20) hx hb hg in_M hown hK hP 0 rfl rfl 5 (by decide) (hg _ gw_529) (fun _ h9 => h9) rfl d_M_look_91 ?_
                  have hPc := hP.sub (ws' := [(y, .inr (5, [.int th, .int (nI bi), .int (nI ne), .int (nI li), .int (nI sp), .int (nI q), .ref ms, .ref mw, .ref mu, .ref mc, .ref mn, .int en, .int (nI sz), .ref mr, .int (nI wa), .ref mq, .int la, .ref md, .int (nI (z + 1)), .int 0])), (mq, .inl (cB, 1000, .inl wq))]) [0, 1] rfl
                  have hDc := hD.sub (ws' := [(y, .inr (5, [.int th, .int (nI bi), .int (nI ne), .int (nI li), .int (nI sp), .int (nI q), .ref ms, .ref mw, .ref mu, .ref mc, .ref mn, .int en, .int (nI sz), .ref mr, .int (nI wa), .ref mq, .int la, .ref md, .int (nI (z + 1)), .int 0])), (mq, .inl (cB, 1000, .inl wq))]) [0, 1] (by decide) rfl
                  have hKc := hK.sub (tys' := [(cB, .byte)]) [0] rfl
                  refine mci (va_runV (As := [.int (nI q)]) (rest := []) ⟨hx, hb, hml, hown, hg⟩ (c_M_nextLow l D y ms mw mu mc mn mr mq md bi ne li sp q sz wa th en la at0 0 cB wq (z + 1) q hwa (by omega) (by omega)) (cwV 1 hg (gV gw_682 gw_684 gs_27 gw_7 gw_685) rfl rfl rfl (by decide +kernel) ⟨Nat.le_of_ble_eq_true rfl, Nat.le_of_ble_eq_true rfl⟩) ⟨fun a U g mk q => by obtain ⟨q0, qP, qK, qD⟩ := q; exact ⟨q0, qP, va_K.moved (u := U) (U := U.calling g mk a) (Vm.Alike.refl U.vm) qK, qD⟩, va_recv hKc hPc (ci := 5) (q0 := 0) rfl rfl, fun U hU hW => ⟨rfl, by rw [hU]; exact hPc, va_K.moved hW.alike hKc, hDc.weaken (fun _ _ _ _ => trivial)⟩⟩ rfl rfl hl.1 rfl (lv_room (Nat.le_of_ble_eq_true rfl)) d_M_look_94 (⟨Nat.le_of_ble_eq_true rfl, Nat.le_of_ble_eq_true rfl⟩)) hS hP hD [0, 1] rfl rfl rfl (fun H locs hP hD hS => ?_)
                  have hP : va_P D CLS [(y, .inr (5, [.int th, .int (nI bi), .int (nI ne), .int (nI li), .int (nI sp), .int (nI q), .ref ms, .ref mw, .ref mu, .ref mc, .ref mn, .int en, .int (nI sz), .ref mr, .int (nI wa), .ref mq, .int la, .ref md, .int (nI (min (z + 1 + q) wa)), .int (if wa < z + 1 + q then 1 else 0)])), (mq, .inl (cB, 1000, .inl wq))] H := hP
                  have hD : va_D A [(y, .inr (5, [.int th, .int (nI bi), .int (nI ne), .int (nI li), .int (nI sp), .int (nI q), .ref ms, .ref mw, .ref mu, .ref mc, .ref mn, .int en, .int (nI sz), .ref mr, .int (nI wa), .ref mq, .int la, .ref md, .int (nI (min (z + 1 + q) wa)), .int (if wa < z + 1 + q then 1 else 0)])), (mq, .inl (cB, 1000, .inl wq))] := hD
                  rw [if_pos (show wa < z + 1 + q by omega), show min (z + 1 + q) wa = wa by omega] at hP hD
                  have hP : va_P D CLS [(y, .inr (5, [.int th, .int (nI bi), .int (nI ne), .int (nI li), .int (nI sp), .int (nI q), .ref ms, .ref mw, .ref mu, .ref mc, .ref mn, .int en, .int (nI sz), .ref mr, .int (nI wa), .ref mq, .int la, .ref md, .int (nI wa), .int 1])), (mq, .inl (cB, 1000, .inl wq))] H := hP
                  have hD : va_D A [(y, .inr (5, [.int th, .int (nI bi), .int (nI ne), .int (nI li), .int (nI sp), .int (nI q), .ref ms, .ref mw, .ref mu, .ref mc, .ref mn, .int en, .int (nI sz), .ref mr, .int (nI wa), .ref mq, .int la, .ref md, .int (nI wa), .int 1])), (mq, .inl (cB, 1000, .inl wq))] := hD
                  refine lv_istore (lv' := [(6, .int (bnum (mbt wq wa) (z + 1) q)), (5, .int (wq z)), (4, .int (nI z)), (3, .int (nI (mx - q - 1))), (0, .ref y), (1, .int (nI K)), (2, .int (nI mx))]) hx hb d_M_look_97 hl (by decide) rfl (fun ls hl => ?_)
                  refine lv_aload_n hx hb d_M_look_99 rfl (lv_at hl 4 rfl) ?_
                  refine va_get (D := D) (ci := 5) (v := .int 1) (C := R_M) (T := T_M) (N := 20) hx hb hg in_M hown hK hP 0 rfl rfl 19 (by decide) (hg _ gw_543) (fun _ h9 => h9) rfl d_M_look_100 ?_
                  refine lv_if_eq (tgt := 108) hx hb d_M_look_103 (by decide) (fun c_16 => ?_) (fun c_16 => ?_)
                  · skip
                    exact absurd c_16 (by decide)
                  · skip
                    refine lv_iconst (v := (-1)) hx hb d_M_look_106 (by decide) ?_
                    exact W.iret (v := (-1)) hx hb hr (fun t ht hW => ⟨rfl, by rw [ht]; exact hP, (hAe ▸ hS).F ht⟩) (hAe ▸ hS).2.2 d_M_look_107
                · skip
                  have hlt : z < (mx - q - 1) := by have : ¬ (mx - q - 1) ≤ z := fun q9 => c_15 ((nI_leI (by omega) (by omega)).mpr q9); omega
                  have htl : tln q K (mx - q - 1) z = K := if_pos hlt
                  refine lv_aload_n hx hb d_M_look_81 rfl (lv_at hl 3 rfl) ?_
                  refine lv_iload_n hx hb d_M_look_82 rfl (lv_at hl 4 rfl) ?_
                  have hPc := hP.sub (ws' := [(y, .inr (5, [.int th, .int (nI bi), .int (nI ne), .int (nI li), .int (nI sp), .int (nI q), .ref ms, .ref mw, .ref mu, .ref mc, .ref mn, .int en, .int (nI sz), .ref mr, .int (nI wa), .ref mq, .int la, .ref md, .int (nI (z + 1)), .int 0])), (mq, .inl (cB, 1000, .inl wq))]) [0, 1] rfl
                  have hDc := hD.sub (ws' := [(y, .inr (5, [.int th, .int (nI bi), .int (nI ne), .int (nI li), .int (nI sp), .int (nI q), .ref ms, .ref mw, .ref mu, .ref mc, .ref mn, .int en, .int (nI sz), .ref mr, .int (nI wa), .ref mq, .int la, .ref md, .int (nI (z + 1)), .int 0])), (mq, .inl (cB, 1000, .inl wq))]) [0, 1] (by decide) rfl
                  have hKc := hK.sub (tys' := [(cB, .byte)]) [0] rfl
                  refine mci (va_runV (As := [.int (nI K)]) (rest := []) ⟨hx, hb, hml, hown, hg⟩ (c_M_nextLow l D y ms mw mu mc mn mr mq md bi ne li sp q sz wa th en la at0 0 cB wq (z + 1) K hwa (by omega) (by omega)) (cwV 1 hg (gV gw_682 gw_684 gs_27 gw_7 gw_685) rfl rfl rfl (by decide +kernel) ⟨Nat.le_of_ble_eq_true rfl, Nat.le_of_ble_eq_true rfl⟩) ⟨fun a U g mk q => by obtain ⟨q0, qP, qK, qD⟩ := q; exact ⟨q0, qP, va_K.moved (u := U) (U := U.calling g mk a) (Vm.Alike.refl U.vm) qK, qD⟩, va_recv hKc hPc (ci := 5) (q0 := 0) rfl rfl, fun U hU hW => ⟨rfl, by rw [hU]; exact hPc, va_K.moved hW.alike hKc, hDc.weaken (fun _ _ _ _ => trivial)⟩⟩ rfl rfl hl.1 rfl (lv_room (Nat.le_of_ble_eq_true rfl)) d_M_look_83 (⟨Nat.le_of_ble_eq_true rfl, Nat.le_of_ble_eq_true rfl⟩)) hS hP hD [0, 1] rfl rfl rfl (fun H locs hP hD hS => ?_)
                  have hP : va_P D CLS [(y, .inr (5, [.int th, .int (nI bi), .int (nI ne), .int (nI li), .int (nI sp), .int (nI q), .ref ms, .ref mw, .ref mu, .ref mc, .ref mn, .int en, .int (nI sz), .ref mr, .int (nI wa), .ref mq, .int la, .ref md, .int (nI (min (z + 1 + K) wa)), .int (if wa < z + 1 + K then 1 else 0)])), (mq, .inl (cB, 1000, .inl wq))] H := hP
                  have hD : va_D A [(y, .inr (5, [.int th, .int (nI bi), .int (nI ne), .int (nI li), .int (nI sp), .int (nI q), .ref ms, .ref mw, .ref mu, .ref mc, .ref mn, .int en, .int (nI sz), .ref mr, .int (nI wa), .ref mq, .int la, .ref md, .int (nI (min (z + 1 + K) wa)), .int (if wa < z + 1 + K then 1 else 0)])), (mq, .inl (cB, 1000, .inl wq))] := hD
                  rw [if_pos (show wa < z + 1 + K by omega), show min (z + 1 + K) wa = wa by omega] at hP hD
                  have hP : va_P D CLS [(y, .inr (5, [.int th, .int (nI bi), .int (nI ne), .int (nI li), .int (nI sp), .int (nI q), .ref ms, .ref mw, .ref mu, .ref mc, .ref mn, .int en, .int (nI sz), .ref mr, .int (nI wa), .ref mq, .int la, .ref md, .int (nI wa), .int 1])), (mq, .inl (cB, 1000, .inl wq))] H := hP
                  have hD : va_D A [(y, .inr (5, [.int th, .int (nI bi), .int (nI ne), .int (nI li), .int (nI sp), .int (nI q), .ref ms, .ref mw, .ref mu, .ref mc, .ref mn, .int en, .int (nI sz), .ref mr, .int (nI wa), .ref mq, .int la, .ref md, .int (nI wa), .int 1])), (mq, .inl (cB, 1000, .inl wq))] := hD
                  refine lv_goto (tgt := 97) hx hb d_M_look_86 (by decide) ?_
                  refine lv_istore (lv' := [(6, .int (bnum (mbt wq wa) (z + 1) K)), (5, .int (wq z)), (4, .int (nI z)), (3, .int (nI (mx - q - 1))), (0, .ref y), (1, .int (nI K)), (2, .int (nI mx))]) hx hb d_M_look_97 hl (by decide) rfl (fun ls hl => ?_)
                  refine lv_aload_n hx hb d_M_look_99 rfl (lv_at hl 4 rfl) ?_
                  refine va_get (D := D) (ci := 5) (v := .int 1) (C := R_M) (T := T_M) (N := 20) hx hb hg in_M hown hK hP 0 rfl rfl 19 (by decide) (hg _ gw_543) (fun _ h9 => h9) rfl d_M_look_100 ?_
                  refine lv_if_eq (tgt := 108) hx hb d_M_look_103 (by decide) (fun c_17 => ?_) (fun c_17 => ?_)
                  · skip
                    exact absurd c_17 (by decide)
                  · skip
                    refine lv_iconst (v := (-1)) hx hb d_M_look_106 (by decide) ?_
                    exact W.iret (v := (-1)) hx hb hr (fun t ht hW => ⟨rfl, by rw [ht]; exact hP, (hAe ▸ hS).F ht⟩) (hAe ▸ hS).2.2 d_M_look_107
              · skip
                exact absurd c_14 hbit
            · skip
              exact absurd rfl c_13
          · skip
            exact absurd c_12 (by rw [hjs]; exact hbit)
      | succ d ih =>
        intro j hj H locs hP hD hS ls hl
        refine lv_aload_n hx hb d_M_look_28 rfl (lv_at hl 3 rfl) ?_
        refine va_get (D := D) (ci := 5) (v := .int 0) (C := R_M) (T := T_M) (N := 20) hx hb hg in_M hown hK hP 0 rfl rfl 19 (by decide) (hg _ gw_543) (fun _ h9 => h9) rfl d_M_look_29 ?_
        refine lv_if_ne (tgt := 58) hx hb d_M_look_32 (by decide) (fun c_18 => ?_) (fun c_18 => ?_)
        · skip
          exact absurd rfl c_18
        · skip
          refine lv_iload hx hb d_M_look_35 (lv_at hl 0 rfl) ?_
          refine lv_if_ne (tgt := 58) hx hb d_M_look_37 (by decide) (fun c_19 => ?_) (fun c_19 => ?_)
          · skip
            exact absurd (hz3 j (by omega)) c_19
          · skip
            refine lv_iload hx hb d_M_look_40 (lv_at hl 1 rfl) ?_
            refine lv_iload_n hx hb d_M_look_42 rfl (lv_at hl 2 rfl) ?_
            refine lv_icmp_ge (tgt := 58) hx hb d_M_look_43 (by decide) (fun c_20 => ?_) (fun c_20 => ?_)
            · skip
              exact absurd ((nI_leI (by omega) (by omega)).mp c_20) (by omega)
            · skip
              refine lv_iinc (v := nI (j + 1)) (lv' := [(4, .int (nI (j + 1))), (5, .int (wq j)), (3, .int (nI (mx - q - 1))), (0, .ref y), (1, .int (nI K)), (2, .int (nI mx))]) hx hb d_M_look_46 hl (k := 1) rfl (nI_1 j) (by decide) rfl (fun ls hl => ?_)
              refine lv_aload_n hx hb d_M_look_49 rfl (lv_at hl 3 rfl) ?_
              have hPc := hP.sub (ws' := [(y, .inr (5, [.int th, .int (nI bi), .int (nI ne), .int (nI li), .int (nI sp), .int (nI q), .ref ms, .ref mw, .ref mu, .ref mc, .ref mn, .int en, .int (nI sz), .ref mr, .int (nI wa), .ref mq, .int la, .ref md, .int (nI (j + 1)), .int 0])), (mq, .inl (cB, 1000, .inl wq))]) [0, 1] rfl
              have hDc := hD.sub (ws' := [(y, .inr (5, [.int th, .int (nI bi), .int (nI ne), .int (nI li), .int (nI sp), .int (nI q), .ref ms, .ref mw, .ref mu, .ref mc, .ref mn, .int en, .int (nI sz), .ref mr, .int (nI wa), .ref mq, .int la, .ref md, .int (nI (j + 1)), .int 0])), (mq, .inl (cB, 1000, .inl wq))]) [0, 1] (by decide) rfl
              have hKc := hK.sub (tys' := [(cB, .byte)]) [0] rfl
              refine mci (va_runV (As := []) (rest := []) ⟨hx, hb, hml, hown, hg⟩ (c_M_next l D y ms mw mu mc mn mr mq md bi ne li sp q sz wa th en la at0 0 cB wq (j + 1) hwa (by omega)) (cwV 0 hg (gV gw_678 gw_680 gs_26 gw_7 gw_681) rfl rfl rfl (by decide +kernel) ⟨Nat.le_of_ble_eq_true rfl, Nat.le_of_ble_eq_true rfl⟩) ⟨fun a U g mk q => by obtain ⟨q0, qP, qK, qD⟩ := q; exact ⟨q0, qP, va_K.moved (u := U) (U := U.calling g mk a) (Vm.Alike.refl U.vm) qK, qD⟩, va_recv hKc hPc (ci := 5) (q0 := 0) rfl rfl, fun U hU hW => ⟨rfl, by rw [hU]; exact hPc, va_K.moved hW.alike hKc, hDc.weaken (fun _ _ _ _ => trivial)⟩⟩ rfl rfl hl.1 rfl (lv_room (Nat.le_of_ble_eq_true rfl)) d_M_look_50 (⟨Nat.le_of_ble_eq_true rfl, Nat.le_of_ble_eq_true rfl⟩)) hS hP hD [0, 1] rfl rfl rfl (fun H locs hP hD hS => ?_)
              have hP : va_P D CLS [(y, .inr (5, [.int th, .int (nI bi), .int (nI ne), .int (nI li), .int (nI sp), .int (nI q), .ref ms, .ref mw, .ref mu, .ref mc, .ref mn, .int en, .int (nI sz), .ref mr, .int (nI wa), .ref mq, .int la, .ref md, .int (nI (j + 1 + 1)), .int 0])), (mq, .inl (cB, 1000, .inl wq))] H := hP
              have hD : va_D A [(y, .inr (5, [.int th, .int (nI bi), .int (nI ne), .int (nI li), .int (nI sp), .int (nI q), .ref ms, .ref mw, .ref mu, .ref mc, .ref mn, .int en, .int (nI sz), .ref mr, .int (nI wa), .ref mq, .int la, .ref md, .int (nI (j + 1 + 1)), .int 0])), (mq, .inl (cB, 1000, .inl wq))] := hD
              refine lv_istore (lv' := [(5, .int (wq (j + 1))), (4, .int (nI (j + 1))), (3, .int (nI (mx - q - 1))), (0, .ref y), (1, .int (nI K)), (2, .int (nI mx))]) hx hb d_M_look_53 hl (by decide) rfl (fun ls hl => ?_)
              refine lv_goto (tgt := 28) hx hb d_M_look_55 (by decide) ?_
              exact ih (j + 1) (by omega) H locs hP hD hS ls (lv_sub hl [0, 1, 2, 3, 4, 5] rfl)
    have hPc := hP.sub (ws' := [(y, .inr (5, [.int th, .int (nI bi), .int (nI ne), .int (nI li), .int (nI sp), .int (nI q), .ref ms, .ref mw, .ref mu, .ref mc, .ref mn, .int en, .int (nI sz), .ref mr, .int (nI wa), .ref mq, .int la, .ref md, .int (nI 0), .int 0])), (mq, .inl (cB, 1000, .inl wq))]) [0, 1] rfl
    have hDc := hD.sub (ws' := [(y, .inr (5, [.int th, .int (nI bi), .int (nI ne), .int (nI li), .int (nI sp), .int (nI q), .ref ms, .ref mw, .ref mu, .ref mc, .ref mn, .int en, .int (nI sz), .ref mr, .int (nI wa), .ref mq, .int la, .ref md, .int (nI 0), .int 0])), (mq, .inl (cB, 1000, .inl wq))]) [0, 1] (by decide) rfl
    have hKc := hK.sub (tys' := [(cB, .byte)]) [0] rfl
    refine mci (va_runV (As := []) (rest := []) ⟨hx, hb, hml, hown, hg⟩ (c_M_next l D y ms mw mu mc mn mr mq md bi ne li sp q sz wa th en la at0 0 cB wq 0 hwa (by omega)) (cwV 0 hg (gV gw_678 gw_680 gs_26 gw_7 gw_681) rfl rfl rfl (by decide +kernel) ⟨Nat.le_of_ble_eq_true rfl, Nat.le_of_ble_eq_true rfl⟩) ⟨fun a U g mk q => by obtain ⟨q0, qP, qK, qD⟩ := q; exact ⟨q0, qP, va_K.moved (u := U) (U := U.calling g mk a) (Vm.Alike.refl U.vm) qK, qD⟩, va_recv hKc hPc (ci := 5) (q0 := 0) rfl rfl, fun U hU hW => ⟨rfl, by rw [hU]; exact hPc, va_K.moved hW.alike hKc, hDc.weaken (fun _ _ _ _ => trivial)⟩⟩ rfl rfl hl.1 rfl (lv_room (Nat.le_of_ble_eq_true rfl)) d_M_look_23 (⟨Nat.le_of_ble_eq_true rfl, Nat.le_of_ble_eq_true rfl⟩)) hS hP hD [0, 1] rfl rfl rfl (fun H locs hP hD hS => ?_)
    have hP : va_P D CLS [(y, .inr (5, [.int th, .int (nI bi), .int (nI ne), .int (nI li), .int (nI sp), .int (nI q), .ref ms, .ref mw, .ref mu, .ref mc, .ref mn, .int en, .int (nI sz), .ref mr, .int (nI wa), .ref mq, .int la, .ref md, .int (nI (0 + 1)), .int 0])), (mq, .inl (cB, 1000, .inl wq))] H := hP
    have hD : va_D A [(y, .inr (5, [.int th, .int (nI bi), .int (nI ne), .int (nI li), .int (nI sp), .int (nI q), .ref ms, .ref mw, .ref mu, .ref mc, .ref mn, .int en, .int (nI sz), .ref mr, .int (nI wa), .ref mq, .int la, .ref md, .int (nI (0 + 1)), .int 0])), (mq, .inl (cB, 1000, .inl wq))] := hD
    refine lv_istore (lv' := [(5, .int (wq 0)), (4, .int 0), (3, .int (nI (mx - q - 1))), (0, .ref y), (1, .int (nI K)), (2, .int (nI mx))]) hx hb d_M_look_26 hl (by decide) rfl (fun ls hl => ?_)
    exact loop z 0 (by omega) H locs hP hD hS ls hl
set_option maxHeartbeats 4000000 in
set_option maxRecDepth 100000 in
theorem c_M_lookG (l : Launch) (D : va_G) (y ms mw mu mc mn mr mq md bi ne li sp q sz wa : Nat) (th en la at0 lk : Int32) (cB : ClassId) (wq : Nat → Int32) (K mx z : Nat) (hwa : wa ≤ 1000) (hKb : K ≤ 30) (hq : q ≤ 30) (hmx : q + 1 ≤ mx) (hmx2 : mx ≤ 200) (hz1 : z ≤ (mx - q - 1) + 1) (hz2 : z ≤ wa) (hz3 : ∀ j, j < z → wq j = 0) (hz4 : z = (mx - q - 1) + 1 ∨ z = wa ∨ wq z ≠ 0) (hzm : z ≤ (mx - q - 1)) (hw : z + 1 + tln q K (mx - q - 1) z ≤ wa) (hzk : z * 2 ^ K < 2 ^ 31) : Met l y_M_look (WSY y_M_look b_M_look 7 (some .int)) ({ frames := 2, cells := 0, slots := 0, locals := 44 }) (va_Pc [.ref y, .int (nI K), .int (nI mx)] (fun U => va_P D CLS [(y, .inr (5, [.int th, .int (nI bi), .int (nI ne), .int (nI li), .int (nI sp), .int (nI q), .ref ms, .ref mw, .ref mu, .ref mc, .ref mn, .int en, .int (nI sz), .ref mr, .int (nI wa), .ref mq, .int la, .ref md, .int at0, .int lk])), (mq, .inl (cB, 1000, .inl wq))] U.heap ∧ va_K D CLS [(cB, .byte)] U ∧ va_D (fun _ => True) [(y, .inr (5, [.int th, .int (nI bi), .int (nI ne), .int (nI li), .int (nI sp), .int (nI q), .ref ms, .ref mw, .ref mu, .ref mc, .ref mn, .int en, .int (nI sz), .ref mr, .int (nI wa), .ref mq, .int la, .ref md, .int at0, .int lk])), (mq, .inl (cB, 1000, .inl wq))])) (QM (some (.int (rnum (mbt wq wa) q K (mx - q - 1) z))) [(y, .inr (5, [.int th, .int (nI bi), .int (nI ne), .int (nI li), .int (nI sp), .int (nI q), .ref ms, .ref mw, .ref mu, .ref mc, .ref mn, .int en, .int (nI sz), .ref mr, .int (nI wa), .ref mq, .int la, .ref md, .int at0, .int lk])), (mq, .inl (cB, 1000, .inl wq))] [(y, .inr (5, [.int th, .int (nI bi), .int (nI ne), .int (nI li), .int (nI sp), .int (nI q), .ref ms, .ref mw, .ref mu, .ref mc, .ref mn, .int en, .int (nI sz), .ref mr, .int (nI wa), .ref mq, .int la, .ref md, .int (nI (z + 1 + tln q K (mx - q - 1) z)), .int 0])), (mq, .inl (cB, 1000, .inl wq))] D) 0 0 (ad [(y, .inr (5, [.int th, .int (nI bi), .int (nI ne), .int (nI li), .int (nI sp), .int (nI q), .ref ms, .ref mw, .ref mu, .ref mc, .ref mn, .int en, .int (nI sz), .ref mr, .int (nI wa), .ref mq, .int la, .ref md, .int at0, .int lk])), (mq, .inl (cB, 1000, .inl wq))]) := by
  refine Met.ofW (cc := b_M_look) (maxL := 7) (ret := (some .int)) (by decide) rfl ?_
  intro p e s m args below meth c s₁ B hml hv
  obtain ⟨rfl, hP, hK, hD0⟩ := hv
  have hx := B.exec
  have hb := B.bytes
  have hr := B.returns
  have hts := atoms_spec (ws := WSY y_M_look b_M_look 7 (some .int)) B.pre
  have hg : ∀ w ∈ GW, w.before _ s = true := fun w h => hts w (List.mem_cons_of_mem _ h)
  have hown : s.vm.findClass "LineGolombModel" = some m.cls := findClass_of_methodNamed B.named
  have hlocks := B.notSynchronized
  obtain ⟨A, hAe⟩ : ∃ A, A = ad [(y, .inr (5, [.int th, .int (nI bi), .int (nI ne), .int (nI li), .int (nI sp), .int (nI q), .ref ms, .ref mw, .ref mu, .ref mc, .ref mn, .int en, .int (nI sz), .ref mr, .int (nI wa), .ref mq, .int la, .ref md, .int at0, .int lk])), (mq, .inl (cB, 1000, .inl wq))] := ⟨_, rfl⟩
  have hD : va_D A [(y, .inr (5, [.int th, .int (nI bi), .int (nI ne), .int (nI li), .int (nI sp), .int (nI q), .ref ms, .ref mw, .ref mu, .ref mc, .ref mn, .int en, .int (nI sz), .ref mr, .int (nI wa), .ref mq, .int la, .ref md, .int at0, .int lk])), (mq, .inl (cB, 1000, .inl wq))] := by rw [hAe]; exact va_D_ad hD0
  have hS : va_S A s.heap s.heap [] := va_S.rf
  have hl := lv_entry ([.ref y, .int (nI K), .int (nI mx)]) (n := 7) (Nat.le_of_ble_eq_true rfl)
  rw [lg_entry_eq]
  generalize (lg_sl ([.ref y, .int (nI K), .int (nI mx)]) ++ List.replicate (7 - (lg_sl ([.ref y, .int (nI K), .int (nI mx)])).length) Slot.unset).toArray = ls at hl ⊢
  have hl : lv_has ls 7 [(0, .ref y), (1, .int (nI K)), (2, .int (nI mx))] := hl
  refine lv_iload_n hx hb d_M_look_0 rfl (lv_at hl 2 rfl) ?_
  refine lv_aload_n hx hb d_M_look_1 rfl (lv_at hl 0 rfl) ?_
  refine va_get (D := D) (ci := 5) (v := .int (nI q)) (C := R_M) (T := T_M) (N := 20) hx hb hg in_M hown hK hP 0 rfl rfl 5 (by decide) (hg _ gw_529) (fun _ h9 => h9) rfl d_M_look_2 ?_
  refine lv_isub hx hb d_M_look_5 ?_
  refine tpi (y := nI (mx - q)) (pk_sub (by omega)) ?_
  refine lv_iconst (v := 1) hx hb d_M_look_6 (by decide) ?_
  refine lv_isub hx hb d_M_look_7 ?_
  refine tpi (y := nI (mx - q - 1)) (pk_sub (b := 1) (by omega)) ?_
  refine lv_istore_n (lv' := [(3, .int (nI (mx - q - 1))), (0, .ref y), (1, .int (nI K)), (2, .int (nI mx))]) hx hb d_M_look_8 rfl hl (by decide) rfl (fun ls hl => ?_)
  refine lv_aload_n hx hb d_M_look_9 rfl (lv_at hl 1 rfl) ?_
  refine lv_iconst (v := 0) hx hb d_M_look_10 (by decide) ?_
  refine tpi (y := nI 0) (rfl) ?_
  refine va_put (D := D) (ci := 5) (v := .int (nI 0)) (ty := .int) (C := R_M) (T := T_M) (N := 20) hx hb hg in_M ty_M tok_M nm_M hown hK hP hD hS 0 rfl rfl 18 (by decide) (hg _ gw_542) (fun _ h9 => h9) rfl (by decide +kernel) (rfl) (rfl) (Nat.le_of_ble_eq_true rfl) d_M_look_11 (fun H locs hP hD hS => ?_)
  have hP : va_P D CLS [(y, .inr (5, [.int th, .int (nI bi), .int (nI ne), .int (nI li), .int (nI sp), .int (nI q), .ref ms, .ref mw, .ref mu, .ref mc, .ref mn, .int en, .int (nI sz), .ref mr, .int (nI wa), .ref mq, .int la, .ref md, .int (nI 0), .int lk])), (mq, .inl (cB, 1000, .inl wq))] H := hP
  have hD : va_D A [(y, .inr (5, [.int th, .int (nI bi), .int (nI ne), .int (nI li), .int (nI sp), .int (nI q), .ref ms, .ref mw, .ref mu, .ref mc, .ref mn, .int en, .int (nI sz), .ref mr, .int (nI wa), .ref mq, .int la, .ref md, .int (nI 0), .int lk])), (mq, .inl (cB, 1000, .inl wq))] := hD
  refine lv_aload_n hx hb d_M_look_14 rfl (lv_at hl 1 rfl) ?_
  refine lv_iconst (v := 0) hx hb d_M_look_15 (by decide) ?_
  refine va_put (D := D) (ci := 5) (v := .int 0) (ty := .boolean) (C := R_M) (T := T_M) (N := 20) hx hb hg in_M ty_M tok_M nm_M hown hK hP hD hS 0 rfl rfl 19 (by decide) (hg _ gw_543) (fun _ h9 => h9) rfl (by decide +kernel) (rfl) (rfl) (Nat.le_of_ble_eq_true rfl) d_M_look_16 (fun H locs hP hD hS => ?_)
  have hP : va_P D CLS [(y, .inr (5, [.int th, .int (nI bi), .int (nI ne), .int (nI li), .int (nI sp), .int (nI q), .ref ms, .ref mw, .ref mu, .ref mc, .ref mn, .int en, .int (nI sz), .ref mr, .int (nI wa), .ref mq, .int la, .ref md, .int (nI 0), .int 0])), (mq, .inl (cB, 1000, .inl wq))] H := hP
  have hD : va_D A [(y, .inr (5, [.int th, .int (nI bi), .int (nI ne), .int (nI li), .int (nI sp), .int (nI q), .ref ms, .ref mw, .ref mu, .ref mc, .ref mn, .int en, .int (nI sz), .ref mr, .int (nI wa), .ref mq, .int la, .ref md, .int (nI 0), .int 0])), (mq, .inl (cB, 1000, .inl wq))] := hD
  refine lv_iconst (v := 0) hx hb d_M_look_19 (by decide) ?_
  refine lv_istore (lv' := [(4, .int 0), (3, .int (nI (mx - q - 1))), (0, .ref y), (1, .int (nI K)), (2, .int (nI mx))]) hx hb d_M_look_20 hl (by decide) rfl (fun ls hl => ?_)
  refine lv_aload_n hx hb d_M_look_22 rfl (lv_at hl 2 rfl) ?_
  have hbit : ¬ wq z = 0 := by rcases hz4 with q9 | q9 | q9 <;> first | omega | exact q9
  have hzwa : z < wa := by have : 0 ≤ tln q K (mx - q - 1) z := Nat.zero_le _; omega
  have loop : ∀ (d j : Nat), j + d = z → ∀ (H : Heap) (locs : List Loc), va_P D CLS [(y, .inr (5, [.int th, .int (nI bi), .int (nI ne), .int (nI li), .int (nI sp), .int (nI q), .ref ms, .ref mw, .ref mu, .ref mc, .ref mn, .int en, .int (nI sz), .ref mr, .int (nI wa), .ref mq, .int la, .ref md, .int (nI (j + 1)), .int 0])), (mq, .inl (cB, 1000, .inl wq))] H → va_D A [(y, .inr (5, [.int th, .int (nI bi), .int (nI ne), .int (nI li), .int (nI sp), .int (nI q), .ref ms, .ref mw, .ref mu, .ref mc, .ref mn, .int en, .int (nI sz), .ref mr, .int (nI wa), .ref mq, .int la, .ref md, .int (nI (j + 1)), .int 0])), (mq, .inl (cB, 1000, .inl wq))] → va_S A s.heap H locs → ∀ (ls : Array Slot), lv_has ls 7 [(5, .int (wq j)), (4, .int (nI j)), (3, .int (nI (mx - q - 1))), (0, .ref y), (1, .int (nI K)), (2, .int (nI mx))] → W p l e (headSpec (WSY y_M_look b_M_look 7 (some .int)) ({ frames := 2, cells := 0, slots := 0, locals := 44 })).room s m ([.ref y, .int (nI K), .int (nI mx)] : List Value).toArray below meth c H locs 0 0 (MQ below (QM (some (.int (rnum (mbt wq wa) q K (mx - q - 1) z))) [(y, .inr (5, [.int th, .int (nI bi), .int (nI ne), .int (nI li), .int (nI sp), .int (nI q), .ref ms, .ref mw, .ref mu, .ref mc, .ref mn, .int en, .int (nI sz), .ref mr, .int (nI wa), .ref mq, .int la, .ref md, .int at0, .int lk])), (mq, .inl (cB, 1000, .inl wq))] [(y, .inr (5, [.int th, .int (nI bi), .int (nI ne), .int (nI li), .int (nI sp), .int (nI q), .ref ms, .ref mw, .ref mu, .ref mc, .ref mn, .int en, .int (nI sz), .ref mr, .int (nI wa), .ref mq, .int la, .ref md, .int (nI (z + 1 + tln q K (mx - q - 1) z)), .int 0])), (mq, .inl (cB, 1000, .inl wq))] D) ([.ref y, .int (nI K), .int (nI mx)] : List Value).toArray s 0 0 (ad [(y, .inr (5, [.int th, .int (nI bi), .int (nI ne), .int (nI li), .int (nI sp), .int (nI q), .ref ms, .ref mw, .ref mu, .ref mc, .ref mn, .int en, .int (nI sz), .ref mr, .int (nI wa), .ref mq, .int la, .ref md, .int at0, .int lk])), (mq, .inl (cB, 1000, .inl wq))])) (F0 m 28 ls []) := by
    intro d
    induction d with
    | zero =>
      intro j hj H locs hP hD hS ls hl
      have hjs : j = z := by omega
      refine lv_aload_n hx hb d_M_look_28 rfl (lv_at hl 3 rfl) ?_
      refine va_get (D := D) (ci := 5) (v := .int 0) (C := R_M) (T := T_M) (N := 20) hx hb hg in_M hown hK hP 0 rfl rfl 19 (by decide) (hg _ gw_543) (fun _ h9 => h9) rfl d_M_look_29 ?_
      refine lv_if_ne (tgt := 58) hx hb d_M_look_32 (by decide) (fun c_1 => ?_) (fun c_1 => ?_)
      · skip
        exact absurd rfl c_1
      · skip
        refine lv_iload hx hb d_M_look_35 (lv_at hl 0 rfl) ?_
        refine lv_if_ne (tgt := 58) hx hb d_M_look_37 (by decide) (fun c_2 => ?_) (fun c_2 => ?_)
        · skip
          refine lv_aload_n hx hb d_M_look_58 rfl (lv_at hl 3 rfl) ?_
          refine va_get (D := D) (ci := 5) (v := .int 0) (C := R_M) (T := T_M) (N := 20) hx hb hg in_M hown hK hP 0 rfl rfl 19 (by decide) (hg _ gw_543) (fun _ h9 => h9) rfl d_M_look_59 ?_
          refine lv_if_eq (tgt := 67) hx hb d_M_look_62 (by decide) (fun c_3 => ?_) (fun c_3 => ?_)
          · skip
            rw [hjs] at hP hD hl
            have hP : va_P D CLS [(y, .inr (5, [.int th, .int (nI bi), .int (nI ne), .int (nI li), .int (nI sp), .int (nI q), .ref ms, .ref mw, .ref mu, .ref mc, .ref mn, .int en, .int (nI sz), .ref mr, .int (nI wa), .ref mq, .int la, .ref md, .int (nI (z + 1)), .int 0])), (mq, .inl (cB, 1000, .inl wq))] H := hP
            have hD : va_D A [(y, .inr (5, [.int th, .int (nI bi), .int (nI ne), .int (nI li), .int (nI sp), .int (nI q), .ref ms, .ref mw, .ref mu, .ref mc, .ref mn, .int en, .int (nI sz), .ref mr, .int (nI wa), .ref mq, .int la, .ref md, .int (nI (z + 1)), .int 0])), (mq, .inl (cB, 1000, .inl wq))] := hD
            refine lv_iload hx hb d_M_look_67 (lv_at hl 0 rfl) ?_
            refine lv_if_ne (tgt := 75) hx hb d_M_look_69 (by decide) (fun c_4 => ?_) (fun c_4 => ?_)
            · skip
              refine lv_iload hx hb d_M_look_75 (lv_at hl 1 rfl) ?_
              refine lv_iload_n hx hb d_M_look_77 rfl (lv_at hl 2 rfl) ?_
              refine lv_icmp_ge (tgt := 89) hx hb d_M_look_78 (by decide) (fun c_5 => ?_) (fun c_5 => ?_)
              · skip
                have hlt : ¬ z < (mx - q - 1) := by have := (nI_leI (by omega) (by omega)).mp c_5; omega
                have htl : tln q K (mx - q - 1) z = q := if_neg hlt
                refine lv_aload_n hx hb d_M_look_89 rfl (lv_at hl 3 rfl) ?_
                refine lv_aload_n hx hb d_M_look_90 rfl (lv_at hl 3 rfl) ?_
                refine va_get (D := D) (ci := 5) (v := .int (nI q)) (C := R_M) (T := T_M) (N := 20) hx hb hg in_M hown hK hP 0 rfl rfl 5 (by decide) (hg _ gw_529) (fun _ h9 => h9) rfl d_M_look_91 ?_
                have hPc := hP.sub (ws' := [(y, .inr (5, [.int th, .int (nI bi), .int (nI ne), .int (nI li), .int (nI sp), .int (nI q), .ref ms, .ref mw, .ref mu, .ref mc, .ref mn, .int en, .int (nI sz), .ref mr, .int (nI wa), .ref mq, .int la, .ref md, .int (nI (z + 1)), .int 0])), (mq, .inl (cB, 1000, .inl wq))]) [0, 1] rfl
                have hDc := hD.sub (ws' := [(y, .inr (5, [.int th, .int (nI bi), .int (nI ne), .int (nI li), .int (nI sp), .int (nI q), .ref ms, .ref mw, .ref mu, .ref mc, .ref mn, .int en, .int (nI sz), .ref mr, .int (nI wa), .ref mq, .int la, .ref md, .int (nI (z + 1)), .int 0])), (mq, .inl (cB, 1000, .inl wq))]) [0, 1] (by decide) rfl
                have hKc := hK.sub (tys' := [(cB, .byte)]) [0] rfl
                refine mci (va_runV (As := [.int (nI q)]) (rest := []) ⟨hx, hb, hml, hown, hg⟩ (c_M_nextLow l D y ms mw mu mc mn mr mq md bi ne li sp q sz wa th en la at0 0 cB wq (z + 1) q hwa (by omega) (by omega)) (cwV 1 hg (gV gw_682 gw_684 gs_27 gw_7 gw_685) rfl rfl rfl (by decide +kernel) ⟨Nat.le_of_ble_eq_true rfl, Nat.le_of_ble_eq_true rfl⟩) ⟨fun a U g mk q => by obtain ⟨q0, qP, qK, qD⟩ := q; exact ⟨q0, qP, va_K.moved (u := U) (U := U.calling g mk a) (Vm.Alike.refl U.vm) qK, qD⟩, va_recv hKc hPc (ci := 5) (q0 := 0) rfl rfl, fun U hU hW => ⟨rfl, by rw [hU]; exact hPc, va_K.moved hW.alike hKc, hDc.weaken (fun _ _ _ _ => trivial)⟩⟩ rfl rfl hl.1 rfl (lv_room (Nat.le_of_ble_eq_true rfl)) d_M_look_94 (⟨Nat.le_of_ble_eq_true rfl, Nat.le_of_ble_eq_true rfl⟩)) hS hP hD [0, 1] rfl rfl rfl (fun H locs hP hD hS => ?_)
                have hP : va_P D CLS [(y, .inr (5, [.int th, .int (nI bi), .int (nI ne), .int (nI li), .int (nI sp), .int (nI q), .ref ms, .ref mw, .ref mu, .ref mc, .ref mn, .int en, .int (nI sz), .ref mr, .int (nI wa), .ref mq, .int la, .ref md, .int (nI (min (z + 1 + q) wa)), .int (if wa < z + 1 + q then 1 else 0)])), (mq, .inl (cB, 1000, .inl wq))] H := hP
                have hD : va_D A [(y, .inr (5, [.int th, .int (nI bi), .int (nI ne), .int (nI li), .int (nI sp), .int (nI q), .ref ms, .ref mw, .ref mu, .ref mc, .ref mn, .int en, .int (nI sz), .ref mr, .int (nI wa), .ref mq, .int la, .ref md, .int (nI (min (z + 1 + q) wa)), .int (if wa < z + 1 + q then 1 else 0)])), (mq, .inl (cB, 1000, .inl wq))] := hD
                rw [if_neg (show ¬ wa < z + 1 + q by omega), show min (z + 1 + q) wa = z + 1 + q by omega] at hP hD
                have hP : va_P D CLS [(y, .inr (5, [.int th, .int (nI bi), .int (nI ne), .int (nI li), .int (nI sp), .int (nI q), .ref ms, .ref mw, .ref mu, .ref mc, .ref mn, .int en, .int (nI sz), .ref mr, .int (nI wa), .ref mq, .int la, .ref md, .int (nI (z + 1 + q)), .int 0])), (mq, .inl (cB, 1000, .inl wq))] H := hP
                have hD : va_D A [(y, .inr (5, [.int th, .int (nI bi), .int (nI ne), .int (nI li), .int (nI sp), .int (nI q), .ref ms, .ref mw, .ref mu, .ref mc, .ref mn, .int en, .int (nI sz), .ref mr, .int (nI wa), .ref mq, .int la, .ref md, .int (nI (z + 1 + q)), .int 0])), (mq, .inl (cB, 1000, .inl wq))] := hD
                refine lv_istore (lv' := [(6, .int (bnum (mbt wq wa) (z + 1) q)), (5, .int (wq z)), (4, .int (nI z)), (3, .int (nI (mx - q - 1))), (0, .ref y), (1, .int (nI K)), (2, .int (nI mx))]) hx hb d_M_look_97 hl (by decide) rfl (fun ls hl => ?_)
                refine lv_aload_n hx hb d_M_look_99 rfl (lv_at hl 4 rfl) ?_
                refine va_get (D := D) (ci := 5) (v := .int 0) (C := R_M) (T := T_M) (N := 20) hx hb hg in_M hown hK hP 0 rfl rfl 19 (by decide) (hg _ gw_543) (fun _ h9 => h9) rfl d_M_look_100 ?_
                refine lv_if_eq (tgt := 108) hx hb d_M_look_103 (by decide) (fun c_6 => ?_) (fun c_6 => ?_)
                · skip
                  refine lv_iload hx hb d_M_look_108 (lv_at hl 2 rfl) ?_
                  refine lv_iload_n hx hb d_M_look_110 rfl (lv_at hl 3 rfl) ?_
                  refine lv_icmp_ge (tgt := 127) hx hb d_M_look_111 (by decide) (fun c_7 => ?_) (fun c_7 => ?_)
                  · skip
                    refine lv_iload hx hb d_M_look_127 (lv_at hl 0 rfl) ?_
                    refine lv_iconst (v := 1) hx hb d_M_look_129 (by decide) ?_
                    refine lv_iadd hx hb d_M_look_130 ?_
                    refine tpi (y := rnum (mbt wq wa) q K (mx - q - 1) z) ((if_neg hlt).symm) ?_
                    exact W.iret (v := rnum (mbt wq wa) q K (mx - q - 1) z) hx hb hr (fun t ht hW => ⟨rfl, by rw [ht]; exact (by rw [htl]; exact hP), (hAe ▸ hS).F ht⟩) (hAe ▸ hS).2.2 d_M_look_131
                  · skip
                    exact absurd ((nI_leI (by omega) (by omega)).mpr (by omega)) c_7
                · skip
                  exact absurd rfl c_6
              · skip
                have hlt : z < (mx - q - 1) := by have : ¬ (mx - q - 1) ≤ z := fun q9 => c_5 ((nI_leI (by omega) (by omega)).mpr q9); omega
                have htl : tln q K (mx - q - 1) z = K := if_pos hlt
                refine lv_aload_n hx hb d_M_look_81 rfl (lv_at hl 3 rfl) ?_
                refine lv_iload_n hx hb d_M_look_82 rfl (lv_at hl 4 rfl) ?_
                have hPc := hP.sub (ws' := [(y, .inr (5, [.int th, .int (nI bi), .int (nI ne), .int (nI li), .int (nI sp), .int (nI q), .ref ms, .ref mw, .ref mu, .ref mc, .ref mn, .int en, .int (nI sz), .ref mr, .int (nI wa), .ref mq, .int la, .ref md, .int (nI (z + 1)), .int 0])), (mq, .inl (cB, 1000, .inl wq))]) [0, 1] rfl
                have hDc := hD.sub (ws' := [(y, .inr (5, [.int th, .int (nI bi), .int (nI ne), .int (nI li), .int (nI sp), .int (nI q), .ref ms, .ref mw, .ref mu, .ref mc, .ref mn, .int en, .int (nI sz), .ref mr, .int (nI wa), .ref mq, .int la, .ref md, .int (nI (z + 1)), .int 0])), (mq, .inl (cB, 1000, .inl wq))]) [0, 1] (by decide) rfl
                have hKc := hK.sub (tys' := [(cB, .byte)]) [0] rfl
                refine mci (va_runV (As := [.int (nI K)]) (rest := []) ⟨hx, hb, hml, hown, hg⟩ (c_M_nextLow l D y ms mw mu mc mn mr mq md bi ne li sp q sz wa th en la at0 0 cB wq (z + 1) K hwa (by omega) (by omega)) (cwV 1 hg (gV gw_682 gw_684 gs_27 gw_7 gw_685) rfl rfl rfl (by decide +kernel) ⟨Nat.le_of_ble_eq_true rfl, Nat.le_of_ble_eq_true rfl⟩) ⟨fun a U g mk q => by obtain ⟨q0, qP, qK, qD⟩ := q; exact ⟨q0, qP, va_K.moved (u := U) (U := U.calling g mk a) (Vm.Alike.refl U.vm) qK, qD⟩, va_recv hKc hPc (ci := 5) (q0 := 0) rfl rfl, fun U hU hW => ⟨rfl, by rw [hU]; exact hPc, va_K.moved hW.alike hKc, hDc.weaken (fun _ _ _ _ => trivial)⟩⟩ rfl rfl hl.1 rfl (lv_room (Nat.le_of_ble_eq_true rfl)) d_M_look_83 (⟨Nat.le_of_ble_eq_true rfl, Nat.le_of_ble_eq_true rfl⟩)) hS hP hD [0, 1] rfl rfl rfl (fun H locs hP hD hS => ?_)
                have hP : va_P D CLS [(y, .inr (5, [.int th, .int (nI bi), .int (nI ne), .int (nI li), .int (nI sp), .int (nI q), .ref ms, .ref mw, .ref mu, .ref mc, .ref mn, .int en, .int (nI sz), .ref mr, .int (nI wa), .ref mq, .int la, .ref md, .int (nI (min (z + 1 + K) wa)), .int (if wa < z + 1 + K then 1 else 0)])), (mq, .inl (cB, 1000, .inl wq))] H := hP
                have hD : va_D A [(y, .inr (5, [.int th, .int (nI bi), .int (nI ne), .int (nI li), .int (nI sp), .int (nI q), .ref ms, .ref mw, .ref mu, .ref mc, .ref mn, .int en, .int (nI sz), .ref mr, .int (nI wa), .ref mq, .int la, .ref md, .int (nI (min (z + 1 + K) wa)), .int (if wa < z + 1 + K then 1 else 0)])), (mq, .inl (cB, 1000, .inl wq))] := hD
                rw [if_neg (show ¬ wa < z + 1 + K by omega), show min (z + 1 + K) wa = z + 1 + K by omega] at hP hD
                have hP : va_P D CLS [(y, .inr (5, [.int th, .int (nI bi), .int (nI ne), .int (nI li), .int (nI sp), .int (nI q), .ref ms, .ref mw, .ref mu, .ref mc, .ref mn, .int en, .int (nI sz), .ref mr, .int (nI wa), .ref mq, .int la, .ref md, .int (nI (z + 1 + K)), .int 0])), (mq, .inl (cB, 1000, .inl wq))] H := hP
                have hD : va_D A [(y, .inr (5, [.int th, .int (nI bi), .int (nI ne), .int (nI li), .int (nI sp), .int (nI q), .ref ms, .ref mw, .ref mu, .ref mc, .ref mn, .int en, .int (nI sz), .ref mr, .int (nI wa), .ref mq, .int la, .ref md, .int (nI (z + 1 + K)), .int 0])), (mq, .inl (cB, 1000, .inl wq))] := hD
                refine lv_goto (tgt := 97) hx hb d_M_look_86 (by decide) ?_
                refine lv_istore (lv' := [(6, .int (bnum (mbt wq wa) (z + 1) K)), (5, .int (wq z)), (4, .int (nI z)), (3, .int (nI (mx - q - 1))), (0, .ref y), (1, .int (nI K)), (2, .int (nI mx))]) hx hb d_M_look_97 hl (by decide) rfl (fun ls hl => ?_)
                refine lv_aload_n hx hb d_M_look_99 rfl (lv_at hl 4 rfl) ?_
                refine va_get (D := D) (ci := 5) (v := .int 0) (C := R_M) (T := T_M) (N := 20) hx hb hg in_M hown hK hP 0 rfl rfl 19 (by decide) (hg _ gw_543) (fun _ h9 => h9) rfl d_M_look_100 ?_
                refine lv_if_eq (tgt := 108) hx hb d_M_look_103 (by decide) (fun c_8 => ?_) (fun c_8 => ?_)
                · skip
                  refine lv_iload hx hb d_M_look_108 (lv_at hl 2 rfl) ?_
                  refine lv_iload_n hx hb d_M_look_110 rfl (lv_at hl 3 rfl) ?_
                  refine lv_icmp_ge (tgt := 127) hx hb d_M_look_111 (by decide) (fun c_9 => ?_) (fun c_9 => ?_)
                  · skip
                    exact absurd ((nI_leI (by omega) (by omega)).mp c_9) (by omega)
                  · skip
                    refine lv_iload hx hb d_M_look_114 (lv_at hl 2 rfl) ?_
                    refine lv_iload_n hx hb d_M_look_116 rfl (lv_at hl 5 rfl) ?_
                    have hPc := hP.sub (ws' := []) [] rfl
                    have hKc := hK.sub (tys' := []) [] rfl
                    refine pci (va_runS (As := [.int (nI K)]) (rest := [.int (nI z)]) ⟨hx, hb, hml, hown, hg⟩ (c_M_power l D K hKb) (va_cwS 1 hg (gS gw_517 gw_518 gw_7 gw_519) rfl rfl rfl (by decide +kernel) ⟨Nat.le_of_ble_eq_true rfl, Nat.le_of_ble_eq_true rfl⟩) ⟨fun a U g mk q => by obtain ⟨q0, qP, qK⟩ := q; exact ⟨q0, qP, va_K.moved (u := U) (U := U.calling g mk a) (Vm.Alike.refl U.vm) qK⟩, fun U hU hW => ⟨rfl, by rw [hU]; exact hPc, va_K.moved hW.alike hKc⟩⟩ rfl rfl hl.1 rfl (lv_room (Nat.le_of_ble_eq_true rfl)) d_M_look_117 (⟨Nat.le_of_ble_eq_true rfl, Nat.le_of_ble_eq_true rfl⟩)) ?_
                    refine lv_imul hx hb d_M_look_120 ?_
                    refine tpi (y := nI (z * 2 ^ K)) (pk_mul _ _) ?_
                    refine lv_iload hx hb d_M_look_121 (lv_at hl 0 rfl) ?_
                    refine lv_iadd hx hb d_M_look_123 ?_
                    refine lv_goto (tgt := 131) hx hb d_M_look_124 (by decide) ?_
                    refine tpi (y := rnum (mbt wq wa) q K (mx - q - 1) z) ((if_pos hlt).symm) ?_
                    exact W.iret (v := rnum (mbt wq wa) q K (mx - q - 1) z) hx hb hr (fun t ht hW => ⟨rfl, by rw [ht]; exact (by rw [htl]; exact hP), (hAe ▸ hS).F ht⟩) (hAe ▸ hS).2.2 d_M_look_131
                · skip
                  exact absurd rfl c_8
            · skip
              exact absurd c_4 hbit
          · skip
            exact absurd rfl c_3
        · skip
          exact absurd c_2 (by rw [hjs]; exact hbit)
    | succ d ih =>
      intro j hj H locs hP hD hS ls hl
      refine lv_aload_n hx hb d_M_look_28 rfl (lv_at hl 3 rfl) ?_
      refine va_get (D := D) (ci := 5) (v := .int 0) (C := R_M) (T := T_M) (N := 20) hx hb hg in_M hown hK hP 0 rfl rfl 19 (by decide) (hg _ gw_543) (fun _ h9 => h9) rfl d_M_look_29 ?_
      refine lv_if_ne (tgt := 58) hx hb d_M_look_32 (by decide) (fun c_10 => ?_) (fun c_10 => ?_)
      · skip
        exact absurd rfl c_10
      · skip
        refine lv_iload hx hb d_M_look_35 (lv_at hl 0 rfl) ?_
        refine lv_if_ne (tgt := 58) hx hb d_M_look_37 (by decide) (fun c_11 => ?_) (fun c_11 => ?_)
        · skip
          exact absurd (hz3 j (by omega)) c_11
        · skip
          refine lv_iload hx hb d_M_look_40 (lv_at hl 1 rfl) ?_
          refine lv_iload_n hx hb d_M_look_42 rfl (lv_at hl 2 rfl) ?_
          refine lv_icmp_ge (tgt := 58) hx hb d_M_look_43 (by decide) (fun c_12 => ?_) (fun c_12 => ?_)
          · skip
            exact absurd ((nI_leI (by omega) (by omega)).mp c_12) (by omega)
          · skip
            refine lv_iinc (v := nI (j + 1)) (lv' := [(4, .int (nI (j + 1))), (5, .int (wq j)), (3, .int (nI (mx - q - 1))), (0, .ref y), (1, .int (nI K)), (2, .int (nI mx))]) hx hb d_M_look_46 hl (k := 1) rfl (nI_1 j) (by decide) rfl (fun ls hl => ?_)
            refine lv_aload_n hx hb d_M_look_49 rfl (lv_at hl 3 rfl) ?_
            have hPc := hP.sub (ws' := [(y, .inr (5, [.int th, .int (nI bi), .int (nI ne), .int (nI li), .int (nI sp), .int (nI q), .ref ms, .ref mw, .ref mu, .ref mc, .ref mn, .int en, .int (nI sz), .ref mr, .int (nI wa), .ref mq, .int la, .ref md, .int (nI (j + 1)), .int 0])), (mq, .inl (cB, 1000, .inl wq))]) [0, 1] rfl
            have hDc := hD.sub (ws' := [(y, .inr (5, [.int th, .int (nI bi), .int (nI ne), .int (nI li), .int (nI sp), .int (nI q), .ref ms, .ref mw, .ref mu, .ref mc, .ref mn, .int en, .int (nI sz), .ref mr, .int (nI wa), .ref mq, .int la, .ref md, .int (nI (j + 1)), .int 0])), (mq, .inl (cB, 1000, .inl wq))]) [0, 1] (by decide) rfl
            have hKc := hK.sub (tys' := [(cB, .byte)]) [0] rfl
            refine mci (va_runV (As := []) (rest := []) ⟨hx, hb, hml, hown, hg⟩ (c_M_next l D y ms mw mu mc mn mr mq md bi ne li sp q sz wa th en la at0 0 cB wq (j + 1) hwa (by omega)) (cwV 0 hg (gV gw_678 gw_680 gs_26 gw_7 gw_681) rfl rfl rfl (by decide +kernel) ⟨Nat.le_of_ble_eq_true rfl, Nat.le_of_ble_eq_true rfl⟩) ⟨fun a U g mk q => by obtain ⟨q0, qP, qK, qD⟩ := q; exact ⟨q0, qP, va_K.moved (u := U) (U := U.calling g mk a) (Vm.Alike.refl U.vm) qK, qD⟩, va_recv hKc hPc (ci := 5) (q0 := 0) rfl rfl, fun U hU hW => ⟨rfl, by rw [hU]; exact hPc, va_K.moved hW.alike hKc, hDc.weaken (fun _ _ _ _ => trivial)⟩⟩ rfl rfl hl.1 rfl (lv_room (Nat.le_of_ble_eq_true rfl)) d_M_look_50 (⟨Nat.le_of_ble_eq_true rfl, Nat.le_of_ble_eq_true rfl⟩)) hS hP hD [0, 1] rfl rfl rfl (fun H locs hP hD hS => ?_)
            have hP : va_P D CLS [(y, .inr (5, [.int th, .int (nI bi), .int (nI ne), .int (nI li), .int (nI sp), .int (nI q), .ref ms, .ref mw, .ref mu, .ref mc, .ref mn, .int en, .int (nI sz), .ref mr, .int (nI wa), .ref mq, .int la, .ref md, .int (nI (j + 1 + 1)), .int 0])), (mq, .inl (cB, 1000, .inl wq))] H := hP
            have hD : va_D A [(y, .inr (5, [.int th, .int (nI bi), .int (nI ne), .int (nI li), .int (nI sp), .int (nI q), .ref ms, .ref mw, .ref mu, .ref mc, .ref mn, .int en, .int (nI sz), .ref mr, .int (nI wa), .ref mq, .int la, .ref md, .int (nI (j + 1 + 1)), .int 0])), (mq, .inl (cB, 1000, .inl wq))] := hD
            refine lv_istore (lv' := [(5, .int (wq (j + 1))), (4, .int (nI (j + 1))), (3, .int (nI (mx - q - 1))), (0, .ref y), (1, .int (nI K)), (2, .int (nI mx))]) hx hb d_M_look_53 hl (by decide) rfl (fun ls hl => ?_)
            refine lv_goto (tgt := 28) hx hb d_M_look_55 (by decide) ?_
            exact ih (j + 1) (by omega) H locs hP hD hS ls (lv_sub hl [0, 1, 2, 3, 4, 5] rfl)
  have hPc := hP.sub (ws' := [(y, .inr (5, [.int th, .int (nI bi), .int (nI ne), .int (nI li), .int (nI sp), .int (nI q), .ref ms, .ref mw, .ref mu, .ref mc, .ref mn, .int en, .int (nI sz), .ref mr, .int (nI wa), .ref mq, .int la, .ref md, .int (nI 0), .int 0])), (mq, .inl (cB, 1000, .inl wq))]) [0, 1] rfl
  have hDc := hD.sub (ws' := [(y, .inr (5, [.int th, .int (nI bi), .int (nI ne), .int (nI li), .int (nI sp), .int (nI q), .ref ms, .ref mw, .ref mu, .ref mc, .ref mn, .int en, .int (nI sz), .ref mr, .int (nI wa), .ref mq, .int la, .ref md, .int (nI 0), .int 0])), (mq, .inl (cB, 1000, .inl wq))]) [0, 1] (by decide) rfl
  have hKc := hK.sub (tys' := [(cB, .byte)]) [0] rfl
  refine mci (va_runV (As := []) (rest := []) ⟨hx, hb, hml, hown, hg⟩ (c_M_next l D y ms mw mu mc mn mr mq md bi ne li sp q sz wa th en la at0 0 cB wq 0 hwa (by omega)) (cwV 0 hg (gV gw_678 gw_680 gs_26 gw_7 gw_681) rfl rfl rfl (by decide +kernel) ⟨Nat.le_of_ble_eq_true rfl, Nat.le_of_ble_eq_true rfl⟩) ⟨fun a U g mk q => by obtain ⟨q0, qP, qK, qD⟩ := q; exact ⟨q0, qP, va_K.moved (u := U) (U := U.calling g mk a) (Vm.Alike.refl U.vm) qK, qD⟩, va_recv hKc hPc (ci := 5) (q0 := 0) rfl rfl, fun U hU hW => ⟨rfl, by rw [hU]; exact hPc, va_K.moved hW.alike hKc, hDc.weaken (fun _ _ _ _ => trivial)⟩⟩ rfl rfl hl.1 rfl (lv_room (Nat.le_of_ble_eq_true rfl)) d_M_look_23 (⟨Nat.le_of_ble_eq_true rfl, Nat.le_of_ble_eq_true rfl⟩)) hS hP hD [0, 1] rfl rfl rfl (fun H locs hP hD hS => ?_)
  have hP : va_P D CLS [(y, .inr (5, [.int th, .int (nI bi), .int (nI ne), .int (nI li), .int (nI sp), .int (nI q), .ref ms, .ref mw, .ref mu, .ref mc, .ref mn, .int en, .int (nI sz), .ref mr, .int (nI wa), .ref mq, .int la, .ref md, .int (nI (0 + 1)), .int 0])), (mq, .inl (cB, 1000, .inl wq))] H := hP
  have hD : va_D A [(y, .inr (5, [.int th, .int (nI bi), .int (nI ne), .int (nI li), .int (nI sp), .int (nI q), .ref ms, .ref mw, .ref mu, .ref mc, .ref mn, .int en, .int (nI sz), .ref mr, .int (nI wa), .ref mq, .int la, .ref md, .int (nI (0 + 1)), .int 0])), (mq, .inl (cB, 1000, .inl wq))] := hD
  refine lv_istore (lv' := [(5, .int (wq 0)), (4, .int 0), (3, .int (nI (mx - q - 1))), (0, .ref y), (1, .int (nI K)), (2, .int (nI mx))]) hx hb d_M_look_26 hl (by decide) rfl (fun ls hl => ?_)
  exact loop z 0 (by omega) H locs hP hD hS ls hl
