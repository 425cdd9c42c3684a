/-! LineGolombModel: readRun, readInterrupt -/
theorem nm1 {a : Nat} (h : a < 2 ^ 31) : ¬ nI a = -1 := fun z => by
  have h1 := congrArg Int32.toInt z
  rw [nI_toInt h, show (-1 : Int32).toInt = -1 from rfl] at h1; omega
theorem nm2 {a : Nat} (h : a < 2 ^ 31) : ¬ nI a = -2 := fun z => by
  have h1 := congrArg Int32.toInt z
  rw [nI_toInt h, show (-2 : Int32).toInt = -2 from rfl] at h1; omega
set_option maxHeartbeats 4000000 in
set_option maxRecDepth 100000 in
theorem c_M_readRunW (l : Launch) (D : va_G) (y ms mw mu mc mn mr mq md bi ne li sp q sz wa : Nat) (th en la at0 lk : Int32) (cB cI : ClassId) (st lw wq : Nat → Int32) (pl n0 m0 : Nat) (hst : st 1 = nI pl) (hwa : wa ≤ 1000) (hqb : ∀ j, j < wa → wq j = 0 ∨ wq j = 1) (hpl : pl < 32) (hn1 : 1 ≤ n0) (hn : n0 ≤ 65535) (hm1 : ∀ j, j < m0 → 2 ^ wdt (rac pl j) < rrc n0 pl j) (hmb : ∀ j, j < m0 → wq j = 1) (hmh : m0 ≤ wa) (hW0 : m0 = wa) : Met l y_M_readRun (WSY y_M_readRun b_M_readRun 8 (some .int)) ({ frames := 2, cells := 0, slots := 0, locals := 50 }) (va_Pc [.ref y, .int (nI n0)] (fun U => va_P D CLS [(y, .inr (5, [.int th, .int (nI bi), .int (nI ne), .int (nI li), .int (nI sp), .int (nI q), .ref ms, .ref mw, .ref mu, .ref mc, .ref mn, .int en, .int (nI sz), .ref mr, .int (nI wa), .ref mq, .int la, .ref md, .int at0, .int lk])), (ms, .inl (cI, 2, .inl st)), (mw, .inl (cI, 2, .inl lw)), (mq, .inl (cB, 1000, .inl wq))] U.heap ∧ va_K D CLS [(cB, .byte), (cI, .int)] U ∧ va_D (fun _ => True) [(y, .inr (5, [.int th, .int (nI bi), .int (nI ne), .int (nI li), .int (nI sp), .int (nI q), .ref ms, .ref mw, .ref mu, .ref mc, .ref mn, .int en, .int (nI sz), .ref mr, .int (nI wa), .ref mq, .int la, .ref md, .int at0, .int lk])), (ms, .inl (cI, 2, .inl st)), (mw, .inl (cI, 2, .inl lw)), (mq, .inl (cB, 1000, .inl wq))])) (QM (some (.int (-1))) [(y, .inr (5, [.int th, .int (nI bi), .int (nI ne), .int (nI li), .int (nI sp), .int (nI q), .ref ms, .ref mw, .ref mu, .ref mc, .ref mn, .int en, .int (nI sz), .ref mr, .int (nI wa), .ref mq, .int la, .ref md, .int at0, .int lk])), (ms, .inl (cI, 2, .inl st)), (mw, .inl (cI, 2, .inl lw)), (mq, .inl (cB, 1000, .inl wq))] [(y, .inr (5, [.int 0, .int (nI bi), .int (nI ne), .int (nI li), .int (nI sp), .int (nI q), .ref ms, .ref mw, .ref mu, .ref mc, .ref mn, .int en, .int (nI sz), .ref mr, .int (nI wa), .ref mq, .int la, .ref md, .int (nI wa), .int 1])), (ms, .inl (cI, 2, .inl st)), (mw, .inl (cI, 2, .inl lw)), (mq, .inl (cB, 1000, .inl wq))] D) 0 0 (ad [(y, .inr (5, [.int th, .int (nI bi), .int (nI ne), .int (nI li), .int (nI sp), .int (nI q), .ref ms, .ref mw, .ref mu, .ref mc, .ref mn, .int en, .int (nI sz), .ref mr, .int (nI wa), .ref mq, .int la, .ref md, .int at0, .int lk])), (ms, .inl (cI, 2, .inl st)), (mw, .inl (cI, 2, .inl lw)), (mq, .inl (cB, 1000, .inl wq))]) := by
  refine Met.ofW (cc := b_M_readRun) (maxL := 8) (ret := (some .int)) (by decide) rfl ?_
  intro p e s m args below meth c s₁ B hml hv
  obtain ⟨rfl, hP, hK, hD0⟩ := hv
  have hx := B.exec
  have hb := B.bytes
  have hr := B.returns
  have hts := atoms_spec (ws := WSY y_M_readRun b_M_readRun 8 (some .int)) B.pre
  have hg : ∀ w ∈ GW, w.before _ s = true := fun w h => hts w (List.mem_cons_of_mem _ h)
  have hown : s.vm.findClass "LineGolombModel" = some m.cls := findClass_of_methodNamed B.named
  have hlocks := B.notSynchronized
  obtain ⟨A, hAe⟩ : ∃ A, A = ad [(y, .inr (5, [.int th, .int (nI bi), .int (nI ne), .int (nI li), .int (nI sp), .int (nI q), .ref ms, .ref mw, .ref mu, .ref mc, .ref mn, .int en, .int (nI sz), .ref mr, .int (nI wa), .ref mq, .int la, .ref md, .int at0, .int lk])), (ms, .inl (cI, 2, .inl st)), (mw, .inl (cI, 2, .inl lw)), (mq, .inl (cB, 1000, .inl wq))] := ⟨_, rfl⟩
  have hD : va_D A [(y, .inr (5, [.int th, .int (nI bi), .int (nI ne), .int (nI li), .int (nI sp), .int (nI q), .ref ms, .ref mw, .ref mu, .ref mc, .ref mn, .int en, .int (nI sz), .ref mr, .int (nI wa), .ref mq, .int la, .ref md, .int at0, .int lk])), (ms, .inl (cI, 2, .inl st)), (mw, .inl (cI, 2, .inl lw)), (mq, .inl (cB, 1000, .inl wq))] := by rw [hAe]; exact va_D_ad hD0
  have hS : va_S A s.heap s.heap [] := va_S.rf
  have hl := lv_entry ([.ref y, .int (nI n0)]) (n := 8) (Nat.le_of_ble_eq_true rfl)
  rw [lg_entry_eq]
  generalize (lg_sl ([.ref y, .int (nI n0)]) ++ List.replicate (8 - (lg_sl ([.ref y, .int (nI n0)])).length) Slot.unset).toArray = ls at hl ⊢
  have hl : lv_has ls 8 [(0, .ref y), (1, .int (nI n0))] := hl
  have hwd := wdt_le (rac pl m0) (rac_lt hpl m0)
  have hrl := rrc_le n0 pl m0
  refine lv_aload_n hx hb d_M_readRun_0 rfl (lv_at hl 0 rfl) ?_
  refine lv_iload_n hx hb d_M_readRun_1 rfl (lv_at hl 1 rfl) ?_
  refine lv_iconst (v := 1) hx hb d_M_readRun_2 (by decide) ?_
  refine lv_icmp_lt (tgt := 12) hx hb d_M_readRun_3 (by decide) (fun c_1 => ?_) (fun c_1 => ?_)
  · skip
    exact absurd ((nI_ltI (b := 1) (by omega) (by omega)).mp c_1) (by omega)
  · skip
    refine lv_iload_n hx hb d_M_readRun_6 rfl (lv_at hl 1 rfl) ?_
    refine lv_ldc (v := 65535) hx hb hown (hg _ gw_618) d_M_readRun_7 ?_
    refine lv_icmp_le (tgt := 16) hx hb d_M_readRun_9 (by decide) (fun c_2 => ?_) (fun c_2 => ?_)
    · skip
      refine lv_iconst (v := 0) hx hb d_M_readRun_16 (by decide) ?_
      refine va_put (D := D) (ci := 5) (v := .int 0) (ty := .int) (C := R_M) (T := T_M) (N := 20) hx hb hg in_M ty_M tok_M nm_M hown hK hP hD hS 0 rfl rfl 0 (by decide) (hg _ gw_524) (fun _ h9 => h9) rfl (by decide +kernel) (rfl) (rfl) (Nat.le_of_ble_eq_true rfl) d_M_readRun_17 (fun H locs hP hD hS => ?_)
      have hP : va_P D CLS [(y, .inr (5, [.int 0, .int (nI bi), .int (nI ne), .int (nI li), .int (nI sp), .int (nI q), .ref ms, .ref mw, .ref mu, .ref mc, .ref mn, .int en, .int (nI sz), .ref mr, .int (nI wa), .ref mq, .int la, .ref md, .int at0, .int lk])), (ms, .inl (cI, 2, .inl st)), (mw, .inl (cI, 2, .inl lw)), (mq, .inl (cB, 1000, .inl wq))] H := hP
      have hD : va_D A [(y, .inr (5, [.int 0, .int (nI bi), .int (nI ne), .int (nI li), .int (nI sp), .int (nI q), .ref ms, .ref mw, .ref mu, .ref mc, .ref mn, .int en, .int (nI sz), .ref mr, .int (nI wa), .ref mq, .int la, .ref md, .int at0, .int lk])), (ms, .inl (cI, 2, .inl st)), (mw, .inl (cI, 2, .inl lw)), (mq, .inl (cB, 1000, .inl wq))] := hD
      refine lv_aload_n hx hb d_M_readRun_20 rfl (lv_at hl 0 rfl) ?_
      refine va_get (D := D) (ci := 5) (v := .int 0) (C := R_M) (T := T_M) (N := 20) hx hb hg in_M hown hK hP 0 rfl rfl 0 (by decide) (hg _ gw_524) (fun _ h9 => h9) rfl d_M_readRun_21 ?_
      refine lv_if_le (tgt := 29) hx hb d_M_readRun_24 (by decide) (fun c_3 => ?_) (fun c_3 => ?_)
      · skip
        refine lv_aload_n hx hb d_M_readRun_29 rfl (lv_at hl 0 rfl) ?_
        refine lv_iconst (v := 0) hx hb d_M_readRun_30 (by decide) ?_
        refine tpi (y := nI 0) (rfl) ?_
        refine va_put (D := D) (ci := 5) (v := .int (nI 0)) (ty := .int) (C := R_M) (T := T_M) (N := 20) hx hb hg in_M ty_M tok_M nm_M hown hK hP hD hS 0 rfl rfl 18 (by decide) (hg _ gw_542) (fun _ h9 => h9) rfl (by decide +kernel) (rfl) (rfl) (Nat.le_of_ble_eq_true rfl) d_M_readRun_31 (fun H locs hP hD hS => ?_)
        have hP : va_P D CLS [(y, .inr (5, [.int 0, .int (nI bi), .int (nI ne), .int (nI li), .int (nI sp), .int (nI q), .ref ms, .ref mw, .ref mu, .ref mc, .ref mn, .int en, .int (nI sz), .ref mr, .int (nI wa), .ref mq, .int la, .ref md, .int (nI 0), .int lk])), (ms, .inl (cI, 2, .inl st)), (mw, .inl (cI, 2, .inl lw)), (mq, .inl (cB, 1000, .inl wq))] H := hP
        have hD : va_D A [(y, .inr (5, [.int 0, .int (nI bi), .int (nI ne), .int (nI li), .int (nI sp), .int (nI q), .ref ms, .ref mw, .ref mu, .ref mc, .ref mn, .int en, .int (nI sz), .ref mr, .int (nI wa), .ref mq, .int la, .ref md, .int (nI 0), .int lk])), (ms, .inl (cI, 2, .inl st)), (mw, .inl (cI, 2, .inl lw)), (mq, .inl (cB, 1000, .inl wq))] := hD
        refine lv_aload_n hx hb d_M_readRun_34 rfl (lv_at hl 0 rfl) ?_
        refine lv_iconst (v := 0) hx hb d_M_readRun_35 (by decide) ?_
        refine va_put (D := D) (ci := 5) (v := .int 0) (ty := .boolean) (C := R_M) (T := T_M) (N := 20) hx hb hg in_M ty_M tok_M nm_M hown hK hP hD hS 0 rfl rfl 19 (by decide) (hg _ gw_543) (fun _ h9 => h9) rfl (by decide +kernel) (rfl) (rfl) (Nat.le_of_ble_eq_true rfl) d_M_readRun_36 (fun H locs hP hD hS => ?_)
        have hP : va_P D CLS [(y, .inr (5, [.int 0, .int (nI bi), .int (nI ne), .int (nI li), .int (nI sp), .int (nI q), .ref ms, .ref mw, .ref mu, .ref mc, .ref mn, .int en, .int (nI sz), .ref mr, .int (nI wa), .ref mq, .int la, .ref md, .int (nI 0), .int 0])), (ms, .inl (cI, 2, .inl st)), (mw, .inl (cI, 2, .inl lw)), (mq, .inl (cB, 1000, .inl wq))] H := hP
        have hD : va_D A [(y, .inr (5, [.int 0, .int (nI bi), .int (nI ne), .int (nI li), .int (nI sp), .int (nI q), .ref ms, .ref mw, .ref mu, .ref mc, .ref mn, .int en, .int (nI sz), .ref mr, .int (nI wa), .ref mq, .int la, .ref md, .int (nI 0), .int 0])), (ms, .inl (cI, 2, .inl st)), (mw, .inl (cI, 2, .inl lw)), (mq, .inl (cB, 1000, .inl wq))] := hD
        refine lv_iload_n hx hb d_M_readRun_39 rfl (lv_at hl 1 rfl) ?_
        refine lv_istore_n (lv' := [(2, .int (nI n0)), (0, .ref y), (1, .int (nI n0))]) hx hb d_M_readRun_40 rfl hl (by decide) rfl (fun ls hl => ?_)
        refine lv_aload_n hx hb d_M_readRun_41 rfl (lv_at hl 1 rfl) ?_
        refine va_get (D := D) (ci := 5) (v := .ref ms) (C := R_M) (T := T_M) (N := 20) hx hb hg in_M hown hK hP 0 rfl rfl 6 (by decide) (hg _ gw_530) (fun _ h9 => h9) rfl d_M_readRun_42 ?_
        refine lv_iconst (v := 1) hx hb d_M_readRun_45 (by decide) ?_
        refine va_iald hx hb hK hP 1 1 rfl rfl (vp_in_nI (n := 1) (by decide) (by decide)) d_M_readRun_46 ?_
        refine tpi (y := nI pl) (hst) ?_
        refine lv_istore_n (lv' := [(3, .int (nI pl)), (2, .int (nI n0)), (0, .ref y), (1, .int (nI n0))]) hx hb d_M_readRun_47 rfl hl (by decide) rfl (fun ls hl => ?_)
        refine lv_iconst (v := 1) hx hb d_M_readRun_48 (by decide) ?_
        refine lv_istore (lv' := [(4, .int 1), (3, .int (nI pl)), (2, .int (nI n0)), (0, .ref y), (1, .int (nI n0))]) hx hb d_M_readRun_49 hl (by decide) rfl (fun ls hl => ?_)
        refine lv_iconst (v := 0) hx hb d_M_readRun_51 (by decide) ?_
        refine lv_istore (lv' := [(5, .int 0), (4, .int 1), (3, .int (nI pl)), (2, .int (nI n0)), (0, .ref y), (1, .int (nI n0))]) hx hb d_M_readRun_52 hl (by decide) rfl (fun ls hl => ?_)
        refine lv_iload_n hx hb d_M_readRun_54 rfl (lv_at hl 2 rfl) ?_
        have hPc := hP.sub (ws' := []) [] rfl
        have hKc := hK.sub (tys' := []) [] rfl
        refine pci (va_runS (As := [.int (nI pl)]) (rest := []) ⟨hx, hb, hml, hown, hg⟩ (c_M_widthOf l D pl hpl) (va_cwS 1 hg (gS gw_619 gw_620 gw_7 gw_621) rfl rfl rfl (by decide +kernel) ⟨Nat.le_of_ble_eq_true rfl, Nat.le_of_ble_eq_true rfl⟩) ⟨fun a U g mk q => by obtain ⟨q0, qP, qK⟩ := q; exact ⟨q0, qP, va_K.moved (u := U) (U := U.calling g mk a) (Vm.Alike.refl U.vm) qK⟩, fun U hU hW => ⟨rfl, by rw [hU]; exact hPc, va_K.moved hW.alike hKc⟩⟩ rfl rfl hl.1 rfl (lv_room (Nat.le_of_ble_eq_true rfl)) d_M_readRun_55 (⟨Nat.le_of_ble_eq_true rfl, Nat.le_of_ble_eq_true rfl⟩)) ?_
        refine lv_istore (lv' := [(6, .int (nI (wdt pl))), (5, .int 0), (4, .int 1), (3, .int (nI pl)), (2, .int (nI n0)), (0, .ref y), (1, .int (nI n0))]) hx hb d_M_readRun_58 hl (by decide) rfl (fun ls hl => ?_)
        have loop : ∀ (d j : Nat), j + d = m0 → ∀ (H : Heap) (locs : List Loc), va_P D CLS [(y, .inr (5, [.int 0, .int (nI bi), .int (nI ne), .int (nI li), .int (nI sp), .int (nI q), .ref ms, .ref mw, .ref mu, .ref mc, .ref mn, .int en, .int (nI sz), .ref mr, .int (nI wa), .ref mq, .int la, .ref md, .int (nI j), .int 0])), (ms, .inl (cI, 2, .inl st)), (mw, .inl (cI, 2, .inl lw)), (mq, .inl (cB, 1000, .inl wq))] H → va_D A [(y, .inr (5, [.int 0, .int (nI bi), .int (nI ne), .int (nI li), .int (nI sp), .int (nI q), .ref ms, .ref mw, .ref mu, .ref mc, .ref mn, .int en, .int (nI sz), .ref mr, .int (nI wa), .ref mq, .int la, .ref md, .int (nI j), .int 0])), (ms, .inl (cI, 2, .inl st)), (mw, .inl (cI, 2, .inl lw)), (mq, .inl (cB, 1000, .inl wq))] → va_S A s.heap H locs → ∀ (ls : Array Slot), lv_has ls 8 [(6, .int (nI (wdt (rac pl j)))), (5, .int 0), (4, .int 1), (3, .int (nI (rac pl j))), (2, .int (nI (rrc n0 pl j))), (0, .ref y), (1, .int (nI n0))] → W p l e (headSpec (WSY y_M_readRun b_M_readRun 8 (some .int)) ({ frames := 2, cells := 0, slots := 0, locals := 50 })).room s m ([.ref y, .int (nI n0)] : List Value).toArray below meth c H locs 0 0 (MQ below (QM (some (.int (-1))) [(y, .inr (5, [.int th, .int (nI bi), .int (nI ne), .int (nI li), .int (nI sp), .int (nI q), .ref ms, .ref mw, .ref mu, .ref mc, .ref mn, .int en, .int (nI sz), .ref mr, .int (nI wa), .ref mq, .int la, .ref md, .int at0, .int lk])), (ms, .inl (cI, 2, .inl st)), (mw, .inl (cI, 2, .inl lw)), (mq, .inl (cB, 1000, .inl wq))] [(y, .inr (5, [.int 0, .int (nI bi), .int (nI ne), .int (nI li), .int (nI sp), .int (nI q), .ref ms, .ref mw, .ref mu, .ref mc, .ref mn, .int en, .int (nI sz), .ref mr, .int (nI wa), .ref mq, .int la, .ref md, .int (nI wa), .int 1])), (ms, .inl (cI, 2, .inl st)), (mw, .inl (cI, 2, .inl lw)), (mq, .inl (cB, 1000, .inl wq))] D) ([.ref y, .int (nI n0)] : List Value).toArray s 0 0 (ad [(y, .inr (5, [.int th, .int (nI bi), .int (nI ne), .int (nI li), .int (nI sp), .int (nI q), .ref ms, .ref mw, .ref mu, .ref mc, .ref mn, .int en, .int (nI sz), .ref mr, .int (nI wa), .ref mq, .int la, .ref md, .int at0, .int lk])), (ms, .inl (cI, 2, .inl st)), (mw, .inl (cI, 2, .inl lw)), (mq, .inl (cB, 1000, .inl wq))])) (F0 m 60 ls []) := by
          intro d
          induction d with
          | zero =>
            intro j hj H locs hP hD hS ls hl
            obtain rfl : m0 = j := by omega
            have hwj := wdt_le (rac pl m0) (rac_lt hpl m0)
            have hpj := pw15 hwj
            have hrj := rrc_le n0 pl m0
            have hlj := rac_lt hpl m0
            refine lv_iload hx hb d_M_readRun_60 (lv_at hl 2 rfl) ?_
            refine lv_if_eq (tgt := 200) hx hb d_M_readRun_62 (by decide) (fun c_4 => ?_) (fun c_4 => ?_)
            · skip
              exact absurd c_4 (by decide)
            · skip
              refine lv_aload_n hx hb d_M_readRun_65 rfl (lv_at hl 5 rfl) ?_
              refine va_get (D := D) (ci := 5) (v := .int 0) (C := R_M) (T := T_M) (N := 20) hx hb hg in_M hown hK hP 0 rfl rfl 19 (by decide) (hg _ gw_543) (fun _ h9 => h9) rfl d_M_readRun_66 ?_
              refine lv_if_ne (tgt := 200) hx hb d_M_readRun_69 (by decide) (fun c_5 => ?_) (fun c_5 => ?_)
              · skip
                exact absurd rfl c_5
              · skip
                refine lv_iload_n hx hb d_M_readRun_72 rfl (lv_at hl 3 rfl) ?_
                have hPc := hP.sub (ws' := []) [] rfl
                have hKc := hK.sub (tys' := []) [] rfl
                refine pci (va_runS (As := [.int (nI (rac pl m0))]) (rest := []) ⟨hx, hb, hml, hown, hg⟩ (c_M_widthOf l D (rac pl m0) (rac_lt hpl m0)) (va_cwS 1 hg (gS gw_619 gw_620 gw_7 gw_621) rfl rfl rfl (by decide +kernel) ⟨Nat.le_of_ble_eq_true rfl, Nat.le_of_ble_eq_true rfl⟩) ⟨fun a U g mk q => by obtain ⟨q0, qP, qK⟩ := q; exact ⟨q0, qP, va_K.moved (u := U) (U := U.calling g mk a) (Vm.Alike.refl U.vm) qK⟩, fun U hU hW => ⟨rfl, by rw [hU]; exact hPc, va_K.moved hW.alike hKc⟩⟩ rfl rfl hl.1 rfl (lv_room (Nat.le_of_ble_eq_true rfl)) d_M_readRun_73 (⟨Nat.le_of_ble_eq_true rfl, Nat.le_of_ble_eq_true rfl⟩)) ?_
                refine lv_istore (lv' := [(6, .int (nI (wdt (rac pl m0)))), (5, .int 0), (4, .int 1), (3, .int (nI (rac pl m0))), (2, .int (nI (rrc n0 pl m0))), (0, .ref y), (1, .int (nI n0))]) hx hb d_M_readRun_76 hl (by decide) rfl (fun ls hl => ?_)
                refine lv_aload_n hx hb d_M_readRun_78 rfl (lv_at hl 5 rfl) ?_
                have hPc := hP.sub (ws' := [(y, .inr (5, [.int 0, .int (nI bi), .int (nI ne), .int (nI li), .int (nI sp), .int (nI q), .ref ms, .ref mw, .ref mu, .ref mc, .ref mn, .int en, .int (nI sz), .ref mr, .int (nI wa), .ref mq, .int la, .ref md, .int (nI m0), .int 0])), (mq, .inl (cB, 1000, .inl wq))]) [0, 3] rfl
                have hDc := hD.sub (ws' := [(y, .inr (5, [.int 0, .int (nI bi), .int (nI ne), .int (nI li), .int (nI sp), .int (nI q), .ref ms, .ref mw, .ref mu, .ref mc, .ref mn, .int en, .int (nI sz), .ref mr, .int (nI wa), .ref mq, .int la, .ref md, .int (nI m0), .int 0])), (mq, .inl (cB, 1000, .inl wq))]) [0, 3] (by decide) rfl
                have hKc := hK.sub (tys' := [(cB, .byte)]) [0] rfl
                refine mci (va_runV (As := []) (rest := []) ⟨hx, hb, hml, hown, hg⟩ (c_M_nextL l D y ms mw mu mc mn mr mq md bi ne li sp q sz wa 0 en la at0 0 cB wq m0 hwa hW0) (cwV 0 hg (gV gw_678 gw_680 gs_26 gw_7 gw_681) rfl rfl rfl (by decide +kernel) ⟨Nat.le_of_ble_eq_true rfl, Nat.le_of_ble_eq_true rfl⟩) ⟨fun a U g mk q => by obtain ⟨q0, qP, qK, qD⟩ := q; exact ⟨q0, qP, va_K.moved (u := U) (U := U.calling g mk a) (Vm.Alike.refl U.vm) qK, qD⟩, va_recv hKc hPc (ci := 5) (q0 := 0) rfl rfl, fun U hU hW => ⟨rfl, by rw [hU]; exact hPc, va_K.moved hW.alike hKc, hDc.weaken (fun _ _ _ _ => trivial)⟩⟩ rfl rfl hl.1 rfl (lv_room (Nat.le_of_ble_eq_true rfl)) d_M_readRun_79 (⟨Nat.le_of_ble_eq_true rfl, Nat.le_of_ble_eq_true rfl⟩)) hS hP hD [0, 3] rfl rfl rfl (fun H locs hP hD hS => ?_)
                have hP : va_P D CLS [(y, .inr (5, [.int 0, .int (nI bi), .int (nI ne), .int (nI li), .int (nI sp), .int (nI q), .ref ms, .ref mw, .ref mu, .ref mc, .ref mn, .int en, .int (nI sz), .ref mr, .int (nI wa), .ref mq, .int la, .ref md, .int (nI m0), .int 1])), (ms, .inl (cI, 2, .inl st)), (mw, .inl (cI, 2, .inl lw)), (mq, .inl (cB, 1000, .inl wq))] H := hP
                have hD : va_D A [(y, .inr (5, [.int 0, .int (nI bi), .int (nI ne), .int (nI li), .int (nI sp), .int (nI q), .ref ms, .ref mw, .ref mu, .ref mc, .ref mn, .int en, .int (nI sz), .ref mr, .int (nI wa), .ref mq, .int la, .ref md, .int (nI m0), .int 1])), (ms, .inl (cI, 2, .inl st)), (mw, .inl (cI, 2, .inl lw)), (mq, .inl (cB, 1000, .inl wq))] := hD
                refine lv_iconst (v := 1) hx hb d_M_readRun_82 (by decide) ?_
                refine lv_icmp_ne (tgt := 142) hx hb d_M_readRun_83 (by decide) (fun c_6 => ?_) (fun c_6 => ?_)
                · skip
                  refine lv_aload_n hx hb d_M_readRun_142 rfl (lv_at hl 5 rfl) ?_
                  refine lv_iload hx hb d_M_readRun_143 (lv_at hl 0 rfl) ?_
                  have hPc := hP.sub (ws' := [(y, .inr (5, [.int 0, .int (nI bi), .int (nI ne), .int (nI li), .int (nI sp), .int (nI q), .ref ms, .ref mw, .ref mu, .ref mc, .ref mn, .int en, .int (nI sz), .ref mr, .int (nI wa), .ref mq, .int la, .ref md, .int (nI m0), .int 1])), (mq, .inl (cB, 1000, .inl wq))]) [0, 3] rfl
                  have hDc := hD.sub (ws' := [(y, .inr (5, [.int 0, .int (nI bi), .int (nI ne), .int (nI li), .int (nI sp), .int (nI q), .ref ms, .ref mw, .ref mu, .ref mc, .ref mn, .int en, .int (nI sz), .ref mr, .int (nI wa), .ref mq, .int la, .ref md, .int (nI m0), .int 1])), (mq, .inl (cB, 1000, .inl wq))]) [0, 3] (by decide) rfl
                  have hKc := hK.sub (tys' := [(cB, .byte)]) [0] rfl
                  refine mci (va_runV (As := [.int (nI (wdt (rac pl m0)))]) (rest := []) ⟨hx, hb, hml, hown, hg⟩ (c_M_nextLow l D y ms mw mu mc mn mr mq md bi ne li sp q sz wa 0 en la at0 1 cB wq m0 (wdt (rac pl m0)) hwa hmh (by omega)) (cwV 1 hg (gV gw_682 gw_684 gs_27 gw_7 gw_685) rfl rfl rfl (by decide +kernel) ⟨Nat.le_of_ble_eq_true rfl, Nat.le_of_ble_eq_true rfl⟩) ⟨fun a U g mk q => by obtain ⟨q0, qP, qK, qD⟩ := q; exact ⟨q0, qP, va_K.moved (u := U) (U := U.calling g mk a) (Vm.Alike.refl U.vm) qK, qD⟩, va_recv hKc hPc (ci := 5) (q0 := 0) rfl rfl, fun U hU hW => ⟨rfl, by rw [hU]; exact hPc, va_K.moved hW.alike hKc, hDc.weaken (fun _ _ _ _ => trivial)⟩⟩ rfl rfl hl.1 rfl (lv_room (Nat.le_of_ble_eq_true rfl)) d_M_readRun_145 (⟨Nat.le_of_ble_eq_true rfl, Nat.le_of_ble_eq_true rfl⟩)) hS hP hD [0, 3] rfl rfl rfl (fun H locs hP hD hS => ?_)
                  have hP : va_P D CLS [(y, .inr (5, [.int 0, .int (nI bi), .int (nI ne), .int (nI li), .int (nI sp), .int (nI q), .ref ms, .ref mw, .ref mu, .ref mc, .ref mn, .int en, .int (nI sz), .ref mr, .int (nI wa), .ref mq, .int la, .ref md, .int (nI (min (m0 + (wdt (rac pl m0))) wa)), .int (if wa < m0 + (wdt (rac pl m0)) then 1 else 1)])), (ms, .inl (cI, 2, .inl st)), (mw, .inl (cI, 2, .inl lw)), (mq, .inl (cB, 1000, .inl wq))] H := hP
                  have hD : va_D A [(y, .inr (5, [.int 0, .int (nI bi), .int (nI ne), .int (nI li), .int (nI sp), .int (nI q), .ref ms, .ref mw, .ref mu, .ref mc, .ref mn, .int en, .int (nI sz), .ref mr, .int (nI wa), .ref mq, .int la, .ref md, .int (nI (min (m0 + (wdt (rac pl m0))) wa)), .int (if wa < m0 + (wdt (rac pl m0)) then 1 else 1)])), (ms, .inl (cI, 2, .inl st)), (mw, .inl (cI, 2, .inl lw)), (mq, .inl (cB, 1000, .inl wq))] := hD
                  rw [show (if wa < m0 + (wdt (rac pl m0)) then (1 : Int32) else 1) = 1 from ite_self _, show min (m0 + (wdt (rac pl m0))) wa = wa by omega] at hP hD
                  have hP : va_P D CLS [(y, .inr (5, [.int 0, .int (nI bi), .int (nI ne), .int (nI li), .int (nI sp), .int (nI q), .ref ms, .ref mw, .ref mu, .ref mc, .ref mn, .int en, .int (nI sz), .ref mr, .int (nI wa), .ref mq, .int la, .ref md, .int (nI wa), .int 1])), (ms, .inl (cI, 2, .inl st)), (mw, .inl (cI, 2, .inl lw)), (mq, .inl (cB, 1000, .inl wq))] H := hP
                  have hD : va_D A [(y, .inr (5, [.int 0, .int (nI bi), .int (nI ne), .int (nI li), .int (nI sp), .int (nI q), .ref ms, .ref mw, .ref mu, .ref mc, .ref mn, .int en, .int (nI sz), .ref mr, .int (nI wa), .ref mq, .int la, .ref md, .int (nI wa), .int 1])), (ms, .inl (cI, 2, .inl st)), (mw, .inl (cI, 2, .inl lw)), (mq, .inl (cB, 1000, .inl wq))] := hD
                  refine lv_istore (lv' := [(7, .int (bnum (mbt wq wa) m0 (wdt (rac pl m0)))), (6, .int (nI (wdt (rac pl m0)))), (5, .int 0), (4, .int 1), (3, .int (nI (rac pl m0))), (2, .int (nI (rrc n0 pl m0))), (0, .ref y), (1, .int (nI n0))]) hx hb d_M_readRun_148 hl (by decide) rfl (fun ls hl => ?_)
                  refine lv_aload_n hx hb d_M_readRun_150 rfl (lv_at hl 6 rfl) ?_
                  refine va_get (D := D) (ci := 5) (v := .int 1) (C := R_M) (T := T_M) (N := 20) hx hb hg in_M hown hK hP 0 rfl rfl 19 (by decide) (hg _ gw_543) (fun _ h9 => h9) rfl d_M_readRun_151 ?_
                  refine lv_if_ne (tgt := 174) hx hb d_M_readRun_154 (by decide) (fun c_7 => ?_) (fun c_7 => ?_)
                  · skip
                    refine lv_iload_n hx hb d_M_readRun_174 rfl (lv_at hl 5 rfl) ?_
                    refine lv_iload hx hb d_M_readRun_175 (lv_at hl 0 rfl) ?_
                    refine lv_isub hx hb d_M_readRun_177 ?_
                    refine lv_istore_n (lv' := [(2, .int ((nI (rrc n0 pl m0)) - (bnum (mbt wq wa) m0 (wdt (rac pl m0))))), (7, .int (bnum (mbt wq wa) m0 (wdt (rac pl m0)))), (6, .int (nI (wdt (rac pl m0)))), (5, .int 0), (4, .int 1), (3, .int (nI (rac pl m0))), (0, .ref y), (1, .int (nI n0))]) hx hb d_M_readRun_178 rfl hl (by decide) rfl (fun ls hl => ?_)
                    refine lv_iload_n hx hb d_M_readRun_179 rfl (lv_at hl 5 rfl) ?_
                    refine lv_if_le (tgt := 189) hx hb d_M_readRun_180 (by decide) (fun c_8 => ?_) (fun c_8 => ?_)
                    · skip
                      have hr0 : rac pl m0 = 0 := Nat.eq_zero_of_not_pos (fun q9 => nI_nle q9 (by omega) c_8)
                      refine lv_iload_n hx hb d_M_readRun_189 rfl (lv_at hl 5 rfl) ?_
                      refine tpi (y := nI (rac pl m0 - 1)) (by rw [hr0]) ?_
                      refine lv_istore_n (lv' := [(3, .int (nI (rac pl m0 - 1))), (2, .int ((nI (rrc n0 pl m0)) - (bnum (mbt wq wa) m0 (wdt (rac pl m0))))), (7, .int (bnum (mbt wq wa) m0 (wdt (rac pl m0)))), (6, .int (nI (wdt (rac pl m0)))), (5, .int 0), (4, .int 1), (0, .ref y), (1, .int (nI n0))]) hx hb d_M_readRun_190 rfl hl (by decide) rfl (fun ls hl => ?_)
                      refine lv_iconst (v := 0) hx hb d_M_readRun_191 (by decide) ?_
                      refine lv_istore (lv' := [(4, .int 0), (3, .int (nI (rac pl m0 - 1))), (2, .int ((nI (rrc n0 pl m0)) - (bnum (mbt wq wa) m0 (wdt (rac pl m0))))), (7, .int (bnum (mbt wq wa) m0 (wdt (rac pl m0)))), (6, .int (nI (wdt (rac pl m0)))), (5, .int 0), (0, .ref y), (1, .int (nI n0))]) hx hb d_M_readRun_192 hl (by decide) rfl (fun ls hl => ?_)
                      refine lv_iconst (v := 1) hx hb d_M_readRun_194 (by decide) ?_
                      refine lv_istore (lv' := [(5, .int 1), (4, .int 0), (3, .int (nI (rac pl m0 - 1))), (2, .int ((nI (rrc n0 pl m0)) - (bnum (mbt wq wa) m0 (wdt (rac pl m0))))), (7, .int (bnum (mbt wq wa) m0 (wdt (rac pl m0)))), (6, .int (nI (wdt (rac pl m0)))), (0, .ref y), (1, .int (nI n0))]) hx hb d_M_readRun_195 hl (by decide) rfl (fun ls hl => ?_)
                      refine lv_goto (tgt := 60) hx hb d_M_readRun_197 (by decide) ?_
                      refine lv_iload hx hb d_M_readRun_60 (lv_at hl 1 rfl) ?_
                      refine lv_if_eq (tgt := 200) hx hb d_M_readRun_62 (by decide) (fun c_9 => ?_) (fun c_9 => ?_)
                      · skip
                        refine lv_aload_n hx hb d_M_readRun_200 rfl (lv_at hl 6 rfl) ?_
                        refine va_get (D := D) (ci := 5) (v := .int 1) (C := R_M) (T := T_M) (N := 20) hx hb hg in_M hown hK hP 0 rfl rfl 19 (by decide) (hg _ gw_543) (fun _ h9 => h9) rfl d_M_readRun_201 ?_
                        refine lv_if_eq (tgt := 209) hx hb d_M_readRun_204 (by decide) (fun c_10 => ?_) (fun c_10 => ?_)
                        · skip
                          exact absurd c_10 (by decide)
                        · skip
                          refine lv_iconst (v := (-1)) hx hb d_M_readRun_207 (by decide) ?_
                          exact W.iret (v := (-1)) hx hb hr (fun t ht hW => ⟨rfl, by rw [ht]; exact hP, (hAe ▸ hS).F ht⟩) (hAe ▸ hS).2.2 d_M_readRun_208
                      · skip
                        exact absurd rfl c_9
                    · skip
                      have hr0 : 0 < rac pl m0 := Nat.pos_of_ne_zero (fun q9 => c_8 (by rw [q9]; decide))
                      refine lv_iload_n hx hb d_M_readRun_183 rfl (lv_at hl 5 rfl) ?_
                      refine lv_iconst (v := 1) hx hb d_M_readRun_184 (by decide) ?_
                      refine lv_isub hx hb d_M_readRun_185 ?_
                      refine tpi (y := nI (rac pl m0 - 1)) (pk_sub (b := 1) (by omega)) ?_
                      refine lv_goto (tgt := 190) hx hb d_M_readRun_186 (by decide) ?_
                      refine lv_istore_n (lv' := [(3, .int (nI (rac pl m0 - 1))), (2, .int ((nI (rrc n0 pl m0)) - (bnum (mbt wq wa) m0 (wdt (rac pl m0))))), (7, .int (bnum (mbt wq wa) m0 (wdt (rac pl m0)))), (6, .int (nI (wdt (rac pl m0)))), (5, .int 0), (4, .int 1), (0, .ref y), (1, .int (nI n0))]) hx hb d_M_readRun_190 rfl hl (by decide) rfl (fun ls hl => ?_)
                      refine lv_iconst (v := 0) hx hb d_M_readRun_191 (by decide) ?_
                      refine lv_istore (lv' := [(4, .int 0), (3, .int (nI (rac pl m0 - 1))), (2, .int ((nI (rrc n0 pl m0)) - (bnum (mbt wq wa) m0 (wdt (rac pl m0))))), (7, .int (bnum (mbt wq wa) m0 (wdt (rac pl m0)))), (6, .int (nI (wdt (rac pl m0)))), (5, .int 0), (0, .ref y), (1, .int (nI n0))]) hx hb d_M_readRun_192 hl (by decide) rfl (fun ls hl => ?_)
                      refine lv_iconst (v := 1) hx hb d_M_readRun_194 (by decide) ?_
                      refine lv_istore (lv' := [(5, .int 1), (4, .int 0), (3, .int (nI (rac pl m0 - 1))), (2, .int ((nI (rrc n0 pl m0)) - (bnum (mbt wq wa) m0 (wdt (rac pl m0))))), (7, .int (bnum (mbt wq wa) m0 (wdt (rac pl m0)))), (6, .int (nI (wdt (rac pl m0)))), (0, .ref y), (1, .int (nI n0))]) hx hb d_M_readRun_195 hl (by decide) rfl (fun ls hl => ?_)
                      refine lv_goto (tgt := 60) hx hb d_M_readRun_197 (by decide) ?_
                      refine lv_iload hx hb d_M_readRun_60 (lv_at hl 1 rfl) ?_
                      refine lv_if_eq (tgt := 200) hx hb d_M_readRun_62 (by decide) (fun c_11 => ?_) (fun c_11 => ?_)
                      · skip
                        refine lv_aload_n hx hb d_M_readRun_200 rfl (lv_at hl 6 rfl) ?_
                        refine va_get (D := D) (ci := 5) (v := .int 1) (C := R_M) (T := T_M) (N := 20) hx hb hg in_M hown hK hP 0 rfl rfl 19 (by decide) (hg _ gw_543) (fun _ h9 => h9) rfl d_M_readRun_201 ?_
                        refine lv_if_eq (tgt := 209) hx hb d_M_readRun_204 (by decide) (fun c_12 => ?_) (fun c_12 => ?_)
                        · skip
                          exact absurd c_12 (by decide)
                        · skip
                          refine lv_iconst (v := (-1)) hx hb d_M_readRun_207 (by decide) ?_
                          exact W.iret (v := (-1)) hx hb hr (fun t ht hW => ⟨rfl, by rw [ht]; exact hP, (hAe ▸ hS).F ht⟩) (hAe ▸ hS).2.2 d_M_readRun_208
                      · skip
                        exact absurd rfl c_11
                  · skip
                    exact absurd c_7 (by decide)
                · skip
                  exact absurd c_6 (by decide)
          | succ d ih =>
            intro j hj H locs hP hD hS ls hl
            have hwj := wdt_le (rac pl j) (rac_lt hpl j)
            have hpj := pw15 hwj
            have hrj := rrc_le n0 pl j
            have hlj := rac_lt hpl j
            refine lv_iload hx hb d_M_readRun_60 (lv_at hl 2 rfl) ?_
            refine lv_if_eq (tgt := 200) hx hb d_M_readRun_62 (by decide) (fun c_13 => ?_) (fun c_13 => ?_)
            · skip
              exact absurd c_13 (by decide)
            · skip
              refine lv_aload_n hx hb d_M_readRun_65 rfl (lv_at hl 5 rfl) ?_
              refine va_get (D := D) (ci := 5) (v := .int 0) (C := R_M) (T := T_M) (N := 20) hx hb hg in_M hown hK hP 0 rfl rfl 19 (by decide) (hg _ gw_543) (fun _ h9 => h9) rfl d_M_readRun_66 ?_
              refine lv_if_ne (tgt := 200) hx hb d_M_readRun_69 (by decide) (fun c_14 => ?_) (fun c_14 => ?_)
              · skip
                exact absurd rfl c_14
              · skip
                refine lv_iload_n hx hb d_M_readRun_72 rfl (lv_at hl 3 rfl) ?_
                have hPc := hP.sub (ws' := []) [] rfl
                have hKc := hK.sub (tys' := []) [] rfl
                refine pci (va_runS (As := [.int (nI (rac pl j))]) (rest := []) ⟨hx, hb, hml, hown, hg⟩ (c_M_widthOf l D (rac pl j) (rac_lt hpl j)) (va_cwS 1 hg (gS gw_619 gw_620 gw_7 gw_621) rfl rfl rfl (by decide +kernel) ⟨Nat.le_of_ble_eq_true rfl, Nat.le_of_ble_eq_true rfl⟩) ⟨fun a U g mk q => by obtain ⟨q0, qP, qK⟩ := q; exact ⟨q0, qP, va_K.moved (u := U) (U := U.calling g mk a) (Vm.Alike.refl U.vm) qK⟩, fun U hU hW => ⟨rfl, by rw [hU]; exact hPc, va_K.moved hW.alike hKc⟩⟩ rfl rfl hl.1 rfl (lv_room (Nat.le_of_ble_eq_true rfl)) d_M_readRun_73 (⟨Nat.le_of_ble_eq_true rfl, Nat.le_of_ble_eq_true rfl⟩)) ?_
                refine lv_istore (lv' := [(6, .int (nI (wdt (rac pl j)))), (5, .int 0), (4, .int 1), (3, .int (nI (rac pl j))), (2, .int (nI (rrc n0 pl j))), (0, .ref y), (1, .int (nI n0))]) hx hb d_M_readRun_76 hl (by decide) rfl (fun ls hl => ?_)
                refine lv_aload_n hx hb d_M_readRun_78 rfl (lv_at hl 5 rfl) ?_
                have hPc := hP.sub (ws' := [(y, .inr (5, [.int 0, .int (nI bi), .int (nI ne), .int (nI li), .int (nI sp), .int (nI q), .ref ms, .ref mw, .ref mu, .ref mc, .ref mn, .int en, .int (nI sz), .ref mr, .int (nI wa), .ref mq, .int la, .ref md, .int (nI j), .int 0])), (mq, .inl (cB, 1000, .inl wq))]) [0, 3] rfl
                have hDc := hD.sub (ws' := [(y, .inr (5, [.int 0, .int (nI bi), .int (nI ne), .int (nI li), .int (nI sp), .int (nI q), .ref ms, .ref mw, .ref mu, .ref mc, .ref mn, .int en, .int (nI sz), .ref mr, .int (nI wa), .ref mq, .int la, .ref md, .int (nI j), .int 0])), (mq, .inl (cB, 1000, .inl wq))]) [0, 3] (by decide) rfl
                have hKc := hK.sub (tys' := [(cB, .byte)]) [0] rfl
                refine mci (va_runV (As := []) (rest := []) ⟨hx, hb, hml, hown, hg⟩ (c_M_next l D y ms mw mu mc mn mr mq md bi ne li sp q sz wa 0 en la at0 0 cB wq j hwa (by omega)) (cwV 0 hg (gV gw_678 gw_680 gs_26 gw_7 gw_681) rfl rfl rfl (by decide +kernel) ⟨Nat.le_of_ble_eq_true rfl, Nat.le_of_ble_eq_true rfl⟩) ⟨fun a U g mk q => by obtain ⟨q0, qP, qK, qD⟩ := q; exact ⟨q0, qP, va_K.moved (u := U) (U := U.calling g mk a) (Vm.Alike.refl U.vm) qK, qD⟩, va_recv hKc hPc (ci := 5) (q0 := 0) rfl rfl, fun U hU hW => ⟨rfl, by rw [hU]; exact hPc, va_K.moved hW.alike hKc, hDc.weaken (fun _ _ _ _ => trivial)⟩⟩ rfl rfl hl.1 rfl (lv_room (Nat.le_of_ble_eq_true rfl)) d_M_readRun_79 (⟨Nat.le_of_ble_eq_true rfl, Nat.le_of_ble_eq_true rfl⟩)) hS hP hD [0, 3] rfl rfl rfl (fun H locs hP hD hS => ?_)
                have hP : va_P D CLS [(y, .inr (5, [.int 0, .int (nI bi), .int (nI ne), .int (nI li), .int (nI sp), .int (nI q), .ref ms, .ref mw, .ref mu, .ref mc, .ref mn, .int en, .int (nI sz), .ref mr, .int (nI wa), .ref mq, .int la, .ref md, .int (nI (j + 1)), .int 0])), (ms, .inl (cI, 2, .inl st)), (mw, .inl (cI, 2, .inl lw)), (mq, .inl (cB, 1000, .inl wq))] H := hP
                have hD : va_D A [(y, .inr (5, [.int 0, .int (nI bi), .int (nI ne), .int (nI li), .int (nI sp), .int (nI q), .ref ms, .ref mw, .ref mu, .ref mc, .ref mn, .int en, .int (nI sz), .ref mr, .int (nI wa), .ref mq, .int la, .ref md, .int (nI (j + 1)), .int 0])), (ms, .inl (cI, 2, .inl st)), (mw, .inl (cI, 2, .inl lw)), (mq, .inl (cB, 1000, .inl wq))] := hD
                refine tpi (y := 1) (hmb j (by omega)) ?_
                refine lv_iconst (v := 1) hx hb d_M_readRun_82 (by decide) ?_
                refine lv_icmp_ne (tgt := 142) hx hb d_M_readRun_83 (by decide) (fun c_15 => ?_) (fun c_15 => ?_)
                · skip
                  exact absurd rfl c_15
                · skip
                  refine lv_iload hx hb d_M_readRun_86 (lv_at hl 0 rfl) ?_
                  have hPc := hP.sub (ws' := []) [] rfl
                  have hKc := hK.sub (tys' := []) [] rfl
                  refine pci (va_runS (As := [.int (nI (wdt (rac pl j)))]) (rest := []) ⟨hx, hb, hml, hown, hg⟩ (c_M_power l D (wdt (rac pl j)) (by omega)) (va_cwS 1 hg (gS gw_517 gw_518 gw_7 gw_519) rfl rfl rfl (by decide +kernel) ⟨Nat.le_of_ble_eq_true rfl, Nat.le_of_ble_eq_true rfl⟩) ⟨fun a U g mk q => by obtain ⟨q0, qP, qK⟩ := q; exact ⟨q0, qP, va_K.moved (u := U) (U := U.calling g mk a) (Vm.Alike.refl U.vm) qK⟩, fun U hU hW => ⟨rfl, by rw [hU]; exact hPc, va_K.moved hW.alike hKc⟩⟩ rfl rfl hl.1 rfl (lv_room (Nat.le_of_ble_eq_true rfl)) d_M_readRun_88 (⟨Nat.le_of_ble_eq_true rfl, Nat.le_of_ble_eq_true rfl⟩)) ?_
                  refine lv_iload_n hx hb d_M_readRun_91 rfl (lv_at hl 4 rfl) ?_
                  refine lv_icmp_gt (tgt := 126) hx hb d_M_readRun_92 (by decide) (fun c_16 => ?_) (fun c_16 => ?_)
                  · skip
                    exact absurd ((nI_ltI (by omega) (by omega)).mp c_16) (by have := hm1 j (by omega); omega)
                  · skip
                    have hmj := hm1 j (by omega)
                    refine lv_iload_n hx hb d_M_readRun_95 rfl (lv_at hl 4 rfl) ?_
                    refine lv_iload hx hb d_M_readRun_96 (lv_at hl 0 rfl) ?_
                    have hPc := hP.sub (ws' := []) [] rfl
                    have hKc := hK.sub (tys' := []) [] rfl
                    refine pci (va_runS (As := [.int (nI (wdt (rac pl j)))]) (rest := [.int (nI (rrc n0 pl j))]) ⟨hx, hb, hml, hown, hg⟩ (c_M_power l D (wdt (rac pl j)) (by omega)) (va_cwS 1 hg (gS gw_517 gw_518 gw_7 gw_519) rfl rfl rfl (by decide +kernel) ⟨Nat.le_of_ble_eq_true rfl, Nat.le_of_ble_eq_true rfl⟩) ⟨fun a U g mk q => by obtain ⟨q0, qP, qK⟩ := q; exact ⟨q0, qP, va_K.moved (u := U) (U := U.calling g mk a) (Vm.Alike.refl U.vm) qK⟩, fun U hU hW => ⟨rfl, by rw [hU]; exact hPc, va_K.moved hW.alike hKc⟩⟩ rfl rfl hl.1 rfl (lv_room (Nat.le_of_ble_eq_true rfl)) d_M_readRun_98 (⟨Nat.le_of_ble_eq_true rfl, Nat.le_of_ble_eq_true rfl⟩)) ?_
                    refine lv_isub hx hb d_M_readRun_101 ?_
                    refine tpi (y := nI (rrc n0 pl (j + 1))) (pk_sub (by omega)) ?_
                    refine lv_istore_n (lv' := [(2, .int (nI (rrc n0 pl (j + 1)))), (6, .int (nI (wdt (rac pl j)))), (5, .int 0), (4, .int 1), (3, .int (nI (rac pl j))), (0, .ref y), (1, .int (nI n0))]) hx hb d_M_readRun_102 rfl hl (by decide) rfl (fun ls hl => ?_)
                    refine lv_iload_n hx hb d_M_readRun_103 rfl (lv_at hl 4 rfl) ?_
                    refine lv_bipush (v := 31) hx hb d_M_readRun_104 (by decide) ?_
                    refine lv_icmp_ge (tgt := 115) hx hb d_M_readRun_106 (by decide) (fun c_17 => ?_) (fun c_17 => ?_)
                    · skip
                      have h31 := (nI_leI (a := 31) (by omega) (by omega)).mp c_17
                      refine lv_iload_n hx hb d_M_readRun_115 rfl (lv_at hl 4 rfl) ?_
                      refine tpi (y := nI (rac pl (j + 1))) (congrArg nI (show rac pl j = upp (rac pl j) from (if_neg (by omega)).symm)) ?_
                      refine lv_istore_n (lv' := [(3, .int (nI (rac pl (j + 1)))), (2, .int (nI (rrc n0 pl (j + 1)))), (6, .int (nI (wdt (rac pl j)))), (5, .int 0), (4, .int 1), (0, .ref y), (1, .int (nI n0))]) hx hb d_M_readRun_116 rfl hl (by decide) rfl (fun ls hl => ?_)
                      refine lv_iload_n hx hb d_M_readRun_117 rfl (lv_at hl 0 rfl) ?_
                      have hPc := hP.sub (ws' := []) [] rfl
                      have hKc := hK.sub (tys' := []) [] rfl
                      refine pci (va_runS (As := [.int (nI (rac pl (j + 1)))]) (rest := []) ⟨hx, hb, hml, hown, hg⟩ (c_M_widthOf l D (rac pl (j + 1)) (rac_lt hpl (j + 1))) (va_cwS 1 hg (gS gw_619 gw_620 gw_7 gw_621) rfl rfl rfl (by decide +kernel) ⟨Nat.le_of_ble_eq_true rfl, Nat.le_of_ble_eq_true rfl⟩) ⟨fun a U g mk q => by obtain ⟨q0, qP, qK⟩ := q; exact ⟨q0, qP, va_K.moved (u := U) (U := U.calling g mk a) (Vm.Alike.refl U.vm) qK⟩, fun U hU hW => ⟨rfl, by rw [hU]; exact hPc, va_K.moved hW.alike hKc⟩⟩ rfl rfl hl.1 rfl (lv_room (Nat.le_of_ble_eq_true rfl)) d_M_readRun_118 (⟨Nat.le_of_ble_eq_true rfl, Nat.le_of_ble_eq_true rfl⟩)) ?_
                      refine lv_istore (lv' := [(6, .int (nI (wdt (rac pl (j + 1))))), (3, .int (nI (rac pl (j + 1)))), (2, .int (nI (rrc n0 pl (j + 1)))), (5, .int 0), (4, .int 1), (0, .ref y), (1, .int (nI n0))]) hx hb d_M_readRun_121 hl (by decide) rfl (fun ls hl => ?_)
                      refine lv_goto (tgt := 128) hx hb d_M_readRun_123 (by decide) ?_
                      refine lv_iload_n hx hb d_M_readRun_128 rfl (lv_at hl 2 rfl) ?_
                      refine lv_if_le (tgt := 136) hx hb d_M_readRun_129 (by decide) (fun c_18 => ?_) (fun c_18 => ?_)
                      · skip
                        exact absurd c_18 (nI_nle (by show 0 < rrc n0 pl j - 2 ^ wdt (rac pl j); omega) (by have := rrc_le n0 pl (j + 1); omega))
                      · skip
                        refine lv_iconst (v := 1) hx hb d_M_readRun_132 (by decide) ?_
                        refine lv_goto (tgt := 137) hx hb d_M_readRun_133 (by decide) ?_
                        refine lv_istore (lv' := [(4, .int 1), (6, .int (nI (wdt (rac pl (j + 1))))), (3, .int (nI (rac pl (j + 1)))), (2, .int (nI (rrc n0 pl (j + 1)))), (5, .int 0), (0, .ref y), (1, .int (nI n0))]) hx hb d_M_readRun_137 hl (by decide) rfl (fun ls hl => ?_)
                        refine lv_goto (tgt := 60) hx hb d_M_readRun_139 (by decide) ?_
                        exact ih (j + 1) (by omega) H locs hP hD hS ls (lv_sub hl [1, 4, 0, 2, 3, 5, 6] rfl)
                    · skip
                      have h31 : ¬ 31 ≤ rac pl j := fun q9 => c_17 ((nI_leI (a := 31) (by omega) (by omega)).mpr q9)
                      refine lv_iload_n hx hb d_M_readRun_109 rfl (lv_at hl 4 rfl) ?_
                      refine lv_iconst (v := 1) hx hb d_M_readRun_110 (by decide) ?_
                      refine lv_iadd hx hb d_M_readRun_111 ?_
                      refine tpi (y := nI (rac pl (j + 1))) ((nI_1 _).trans (congrArg nI (show rac pl j + 1 = upp (rac pl j) from (if_pos (by omega)).symm))) ?_
                      refine lv_goto (tgt := 116) hx hb d_M_readRun_112 (by decide) ?_
                      refine lv_istore_n (lv' := [(3, .int (nI (rac pl (j + 1)))), (2, .int (nI (rrc n0 pl (j + 1)))), (6, .int (nI (wdt (rac pl j)))), (5, .int 0), (4, .int 1), (0, .ref y), (1, .int (nI n0))]) hx hb d_M_readRun_116 rfl hl (by decide) rfl (fun ls hl => ?_)
                      refine lv_iload_n hx hb d_M_readRun_117 rfl (lv_at hl 0 rfl) ?_
                      have hPc := hP.sub (ws' := []) [] rfl
                      have hKc := hK.sub (tys' := []) [] rfl
                      refine pci (va_runS (As := [.int (nI (rac pl (j + 1)))]) (rest := []) ⟨hx, hb, hml, hown, hg⟩ (c_M_widthOf l D (rac pl (j + 1)) (rac_lt hpl (j + 1))) (va_cwS 1 hg (gS gw_619 gw_620 gw_7 gw_621) rfl rfl rfl (by decide +kernel) ⟨Nat.le_of_ble_eq_true rfl, Nat.le_of_ble_eq_true rfl⟩) ⟨fun a U g mk q => by obtain ⟨q0, qP, qK⟩ := q; exact ⟨q0, qP, va_K.moved (u := U) (U := U.calling g mk a) (Vm.Alike.refl U.vm) qK⟩, fun U hU hW => ⟨rfl, by rw [hU]; exact hPc, va_K.moved hW.alike hKc⟩⟩ rfl rfl hl.1 rfl (lv_room (Nat.le_of_ble_eq_true rfl)) d_M_readRun_118 (⟨Nat.le_of_ble_eq_true rfl, Nat.le_of_ble_eq_true rfl⟩)) ?_
                      refine lv_istore (lv' := [(6, .int (nI (wdt (rac pl (j + 1))))), (3, .int (nI (rac pl (j + 1)))), (2, .int (nI (rrc n0 pl (j + 1)))), (5, .int 0), (4, .int 1), (0, .ref y), (1, .int (nI n0))]) hx hb d_M_readRun_121 hl (by decide) rfl (fun ls hl => ?_)
                      refine lv_goto (tgt := 128) hx hb d_M_readRun_123 (by decide) ?_
                      refine lv_iload_n hx hb d_M_readRun_128 rfl (lv_at hl 2 rfl) ?_
                      refine lv_if_le (tgt := 136) hx hb d_M_readRun_129 (by decide) (fun c_19 => ?_) (fun c_19 => ?_)
                      · skip
                        exact absurd c_19 (nI_nle (by show 0 < rrc n0 pl j - 2 ^ wdt (rac pl j); omega) (by have := rrc_le n0 pl (j + 1); omega))
                      · skip
                        refine lv_iconst (v := 1) hx hb d_M_readRun_132 (by decide) ?_
                        refine lv_goto (tgt := 137) hx hb d_M_readRun_133 (by decide) ?_
                        refine lv_istore (lv' := [(4, .int 1), (6, .int (nI (wdt (rac pl (j + 1))))), (3, .int (nI (rac pl (j + 1)))), (2, .int (nI (rrc n0 pl (j + 1)))), (5, .int 0), (0, .ref y), (1, .int (nI n0))]) hx hb d_M_readRun_137 hl (by decide) rfl (fun ls hl => ?_)
                        refine lv_goto (tgt := 60) hx hb d_M_readRun_139 (by decide) ?_
                        exact ih (j + 1) (by omega) H locs hP hD hS ls (lv_sub hl [1, 4, 0, 2, 3, 5, 6] rfl)
        exact loop m0 0 (by omega) H locs hP hD hS ls (lv_sub hl [0, 1, 2, 3, 4, 5, 6] rfl)
      · skip
        exact absurd (by decide) c_3
    · skip
      exact absurd (nI_le hn (by omega)) c_2
set_option maxHeartbeats 4000000 in
set_option maxRecDepth 100000 in
theorem c_M_readRunZW (l : Launch) (D : va_G) (y ms mw mu mc mn mr mq md bi ne li sp q sz wa : Nat) (th en la at0 lk : Int32) (cB cI : ClassId) (st lw wq : Nat → Int32) (pl n0 m0 : Nat) (hst : st 1 = nI pl) (hwa : wa ≤ 1000) (hqb : ∀ j, j < wa → wq j = 0 ∨ wq j = 1) (hpl : pl < 32) (hn1 : 1 ≤ n0) (hn : n0 ≤ 65535) (hm1 : ∀ j, j < m0 → 2 ^ wdt (rac pl j) < rrc n0 pl j) (hmb : ∀ j, j < m0 → wq j = 1) (hmh : m0 ≤ wa) (hmh2 : m0 < wa) (hz : wq m0 = 0) (hw : wa < m0 + 1 + wdt (rac pl m0)) : Met l y_M_readRun (WSY y_M_readRun b_M_readRun 8 (some .int)) ({ frames := 2, cells := 0, slots := 0, locals := 50 }) (va_Pc [.ref y, .int (nI n0)] (fun U => va_P D CLS [(y, .inr (5, [.int th, .int (nI bi), .int (nI ne), .int (nI li), .int (nI sp), .int (nI q), .ref ms, .ref mw, .ref mu, .ref mc, .ref mn, .int en, .int (nI sz), .ref mr, .int (nI wa), .ref mq, .int la, .ref md, .int at0, .int lk])), (ms, .inl (cI, 2, .inl st)), (mw, .inl (cI, 2, .inl lw)), (mq, .inl (cB, 1000, .inl wq))] U.heap ∧ va_K D CLS [(cB, .byte), (cI, .int)] U ∧ va_D (fun _ => True) [(y, .inr (5, [.int th, .int (nI bi), .int (nI ne), .int (nI li), .int (nI sp), .int (nI q), .ref ms, .ref mw, .ref mu, .ref mc, .ref mn, .int en, .int (nI sz), .ref mr, .int (nI wa), .ref mq, .int la, .ref md, .int at0, .int lk])), (ms, .inl (cI, 2, .inl st)), (mw, .inl (cI, 2, .inl lw)), (mq, .inl (cB, 1000, .inl wq))])) (QM (some (.int (-1))) [(y, .inr (5, [.int th, .int (nI bi), .int (nI ne), .int (nI li), .int (nI sp), .int (nI q), .ref ms, .ref mw, .ref mu, .ref mc, .ref mn, .int en, .int (nI sz), .ref mr, .int (nI wa), .ref mq, .int la, .ref md, .int at0, .int lk])), (ms, .inl (cI, 2, .inl st)), (mw, .inl (cI, 2, .inl lw)), (mq, .inl (cB, 1000, .inl wq))] [(y, .inr (5, [.int 0, .int (nI bi), .int (nI ne), .int (nI li), .int (nI sp), .int (nI q), .ref ms, .ref mw, .ref mu, .ref mc, .ref mn, .int en, .int (nI sz), .ref mr, .int (nI wa), .ref mq, .int la, .ref md, .int (nI wa), .int 1])), (ms, .inl (cI, 2, .inl st)), (mw, .inl (cI, 2, .inl lw)), (mq, .inl (cB, 1000, .inl wq))] D) 0 0 (ad [(y, .inr (5, [.int th, .int (nI bi), .int (nI ne), .int (nI li), .int (nI sp), .int (nI q), .ref ms, .ref mw, .ref mu, .ref mc, .ref mn, .int en, .int (nI sz), .ref mr, .int (nI wa), .ref mq, .int la, .ref md, .int at0, .int lk])), (ms, .inl (cI, 2, .inl st)), (mw, .inl (cI, 2, .inl lw)), (mq, .inl (cB, 1000, .inl wq))]) := by
  refine Met.ofW (cc := b_M_readRun) (maxL := 8) (ret := (some .int)) (by decide) rfl ?_
  intro p e s m args below meth c s₁ B hml hv
  obtain ⟨rfl, hP, hK, hD0⟩ := hv
  have hx := B.exec
  have hb := B.bytes
  have hr := B.returns
  have hts := atoms_spec (ws := WSY y_M_readRun b_M_readRun 8 (some .int)) B.pre
  have hg : ∀ w ∈ GW, w.before _ s = true := fun w h => hts w (List.mem_cons_of_mem _ h)
  have hown : s.vm.findClass "LineGolombModel" = some m.cls := findClass_of_methodNamed B.named
  have hlocks := B.notSynchronized
  obtain ⟨A, hAe⟩ : ∃ A, A = ad [(y, .inr (5, [.int th, .int (nI bi), .int (nI ne), .int (nI li), .int (nI sp), .int (nI q), .ref ms, .ref mw, .ref mu, .ref mc, .ref mn, .int en, .int (nI sz), .ref mr, .int (nI wa), .ref mq, .int la, .ref md, .int at0, .int lk])), (ms, .inl (cI, 2, .inl st)), (mw, .inl (cI, 2, .inl lw)), (mq, .inl (cB, 1000, .inl wq))] := ⟨_, rfl⟩
  have hD : va_D A [(y, .inr (5, [.int th, .int (nI bi), .int (nI ne), .int (nI li), .int (nI sp), .int (nI q), .ref ms, .ref mw, .ref mu, .ref mc, .ref mn, .int en, .int (nI sz), .ref mr, .int (nI wa), .ref mq, .int la, .ref md, .int at0, .int lk])), (ms, .inl (cI, 2, .inl st)), (mw, .inl (cI, 2, .inl lw)), (mq, .inl (cB, 1000, .inl wq))] := by rw [hAe]; exact va_D_ad hD0
  have hS : va_S A s.heap s.heap [] := va_S.rf
  have hl := lv_entry ([.ref y, .int (nI n0)]) (n := 8) (Nat.le_of_ble_eq_true rfl)
  rw [lg_entry_eq]
  generalize (lg_sl ([.ref y, .int (nI n0)]) ++ List.replicate (8 - (lg_sl ([.ref y, .int (nI n0)])).length) Slot.unset).toArray = ls at hl ⊢
  have hl : lv_has ls 8 [(0, .ref y), (1, .int (nI n0))] := hl
  have hwd := wdt_le (rac pl m0) (rac_lt hpl m0)
  have hrl := rrc_le n0 pl m0
  refine lv_aload_n hx hb d_M_readRun_0 rfl (lv_at hl 0 rfl) ?_
  refine lv_iload_n hx hb d_M_readRun_1 rfl (lv_at hl 1 rfl) ?_
  refine lv_iconst (v := 1) hx hb d_M_readRun_2 (by decide) ?_
  refine lv_icmp_lt (tgt := 12) hx hb d_M_readRun_3 (by decide) (fun c_1 => ?_) (fun c_1 => ?_)
  · skip
    exact absurd ((nI_ltI (b := 1) (by omega) (by omega)).mp c_1) (by omega)
  · skip
    refine lv_iload_n hx hb d_M_readRun_6 rfl (lv_at hl 1 rfl) ?_
    refine lv_ldc (v := 65535) hx hb hown (hg _ gw_618) d_M_readRun_7 ?_
    refine lv_icmp_le (tgt := 16) hx hb d_M_readRun_9 (by decide) (fun c_2 => ?_) (fun c_2 => ?_)
    · skip
      refine lv_iconst (v := 0) hx hb d_M_readRun_16 (by decide) ?_
      refine va_put (D := D) (ci := 5) (v := .int 0) (ty := .int) (C := R_M) (T := T_M) (N := 20) hx hb hg in_M ty_M tok_M nm_M hown hK hP hD hS 0 rfl rfl 0 (by decide) (hg _ gw_524) (fun _ h9 => h9) rfl (by decide +kernel) (rfl) (rfl) (Nat.le_of_ble_eq_true rfl) d_M_readRun_17 (fun H locs hP hD hS => ?_)
      have hP : va_P D CLS [(y, .inr (5, [.int 0, .int (nI bi), .int (nI ne), .int (nI li), .int (nI sp), .int (nI q), .ref ms, .ref mw, .ref mu, .ref mc, .ref mn, .int en, .int (nI sz), .ref mr, .int (nI wa), .ref mq, .int la, .ref md, .int at0, .int lk])), (ms, .inl (cI, 2, .inl st)), (mw, .inl (cI, 2, .inl lw)), (mq, .inl (cB, 1000, .inl wq))] H := hP
      have hD : va_D A [(y, .inr (5, [.int 0, .int (nI bi), .int (nI ne), .int (nI li), .int (nI sp), .int (nI q), .ref ms, .ref mw, .ref mu, .ref mc, .ref mn, .int en, .int (nI sz), .ref mr, .int (nI wa), .ref mq, .int la, .ref md, .int at0, .int lk])), (ms, .inl (cI, 2, .inl st)), (mw, .inl (cI, 2, .inl lw)), (mq, .inl (cB, 1000, .inl wq))] := hD
      refine lv_aload_n hx hb d_M_readRun_20 rfl (lv_at hl 0 rfl) ?_
      refine va_get (D := D) (ci := 5) (v := .int 0) (C := R_M) (T := T_M) (N := 20) hx hb hg in_M hown hK hP 0 rfl rfl 0 (by decide) (hg _ gw_524) (fun _ h9 => h9) rfl d_M_readRun_21 ?_
      refine lv_if_le (tgt := 29) hx hb d_M_readRun_24 (by decide) (fun c_3 => ?_) (fun c_3 => ?_)
      · skip
        refine lv_aload_n hx hb d_M_readRun_29 rfl (lv_at hl 0 rfl) ?_
        refine lv_iconst (v := 0) hx hb d_M_readRun_30 (by decide) ?_
        refine tpi (y := nI 0) (rfl) ?_
        refine va_put (D := D) (ci := 5) (v := .int (nI 0)) (ty := .int) (C := R_M) (T := T_M) (N := 20) hx hb hg in_M ty_M tok_M nm_M hown hK hP hD hS 0 rfl rfl 18 (by decide) (hg _ gw_542) (fun _ h9 => h9) rfl (by decide +kernel) (rfl) (rfl) (Nat.le_of_ble_eq_true rfl) d_M_readRun_31 (fun H locs hP hD hS => ?_)
        have hP : va_P D CLS [(y, .inr (5, [.int 0, .int (nI bi), .int (nI ne), .int (nI li), .int (nI sp), .int (nI q), .ref ms, .ref mw, .ref mu, .ref mc, .ref mn, .int en, .int (nI sz), .ref mr, .int (nI wa), .ref mq, .int la, .ref md, .int (nI 0), .int lk])), (ms, .inl (cI, 2, .inl st)), (mw, .inl (cI, 2, .inl lw)), (mq, .inl (cB, 1000, .inl wq))] H := hP
        have hD : va_D A [(y, .inr (5, [.int 0, .int (nI bi), .int (nI ne), .int (nI li), .int (nI sp), .int (nI q), .ref ms, .ref mw, .ref mu, .ref mc, .ref mn, .int en, .int (nI sz), .ref mr, .int (nI wa), .ref mq, .int la, .ref md, .int (nI 0), .int lk])), (ms, .inl (cI, 2, .inl st)), (mw, .inl (cI, 2, .inl lw)), (mq, .inl (cB, 1000, .inl wq))] := hD
        refine lv_aload_n hx hb d_M_readRun_34 rfl (lv_at hl 0 rfl) ?_
        refine lv_iconst (v := 0) hx hb d_M_readRun_35 (by decide) ?_
        refine va_put (D := D) (ci := 5) (v := .int 0) (ty := .boolean) (C := R_M) (T := T_M) (N := 20) hx hb hg in_M ty_M tok_M nm_M hown hK hP hD hS 0 rfl rfl 19 (by decide) (hg _ gw_543) (fun _ h9 => h9) rfl (by decide +kernel) (rfl) (rfl) (Nat.le_of_ble_eq_true rfl) d_M_readRun_36 (fun H locs hP hD hS => ?_)
        have hP : va_P D CLS [(y, .inr (5, [.int 0, .int (nI bi), .int (nI ne), .int (nI li), .int (nI sp), .int (nI q), .ref ms, .ref mw, .ref mu, .ref mc, .ref mn, .int en, .int (nI sz), .ref mr, .int (nI wa), .ref mq, .int la, .ref md, .int (nI 0), .int 0])), (ms, .inl (cI, 2, .inl st)), (mw, .inl (cI, 2, .inl lw)), (mq, .inl (cB, 1000, .inl wq))] H := hP
        have hD : va_D A [(y, .inr (5, [.int 0, .int (nI bi), .int (nI ne), .int (nI li), .int (nI sp), .int (nI q), .ref ms, .ref mw, .ref mu, .ref mc, .ref mn, .int en, .int (nI sz), .ref mr, .int (nI wa), .ref mq, .int la, .ref md, .int (nI 0), .int 0])), (ms, .inl (cI, 2, .inl st)), (mw, .inl (cI, 2, .inl lw)), (mq, .inl (cB, 1000, .inl wq))] := hD
        refine lv_iload_n hx hb d_M_readRun_39 rfl (lv_at hl 1 rfl) ?_
        refine lv_istore_n (lv' := [(2, .int (nI n0)), (0, .ref y), (1, .int (nI n0))]) hx hb d_M_readRun_40 rfl hl (by decide) rfl (fun ls hl => ?_)
        refine lv_aload_n hx hb d_M_readRun_41 rfl (lv_at hl 1 rfl) ?_
        refine va_get (D := D) (ci := 5) (v := .ref ms) (C := R_M) (T := T_M) (N := 20) hx hb hg in_M hown hK hP 0 rfl rfl 6 (by decide) (hg _ gw_530) (fun _ h9 => h9) rfl d_M_readRun_42 ?_
        refine lv_iconst (v := 1) hx hb d_M_readRun_45 (by decide) ?_
        refine va_iald hx hb hK hP 1 1 rfl rfl (vp_in_nI (n := 1) (by decide) (by decide)) d_M_readRun_46 ?_
        refine tpi (y := nI pl) (hst) ?_
        refine lv_istore_n (lv' := [(3, .int (nI pl)), (2, .int (nI n0)), (0, .ref y), (1, .int (nI n0))]) hx hb d_M_readRun_47 rfl hl (by decide) rfl (fun ls hl => ?_)
        refine lv_iconst (v := 1) hx hb d_M_readRun_48 (by decide) ?_
        refine lv_istore (lv' := [(4, .int 1), (3, .int (nI pl)), (2, .int (nI n0)), (0, .ref y), (1, .int (nI n0))]) hx hb d_M_readRun_49 hl (by decide) rfl (fun ls hl => ?_)
        refine lv_iconst (v := 0) hx hb d_M_readRun_51 (by decide) ?_
        refine lv_istore (lv' := [(5, .int 0), (4, .int 1), (3, .int (nI pl)), (2, .int (nI n0)), (0, .ref y), (1, .int (nI n0))]) hx hb d_M_readRun_52 hl (by decide) rfl (fun ls hl => ?_)
        refine lv_iload_n hx hb d_M_readRun_54 rfl (lv_at hl 2 rfl) ?_
        have hPc := hP.sub (ws' := []) [] rfl
        have hKc := hK.sub (tys' := []) [] rfl
        refine pci (va_runS (As := [.int (nI pl)]) (rest := []) ⟨hx, hb, hml, hown, hg⟩ (c_M_widthOf l D pl hpl) (va_cwS 1 hg (gS gw_619 gw_620 gw_7 gw_621) rfl rfl rfl (by decide +kernel) ⟨Nat.le_of_ble_eq_true rfl, Nat.le_of_ble_eq_true rfl⟩) ⟨fun a U g mk q => by obtain ⟨q0, qP, qK⟩ := q; exact ⟨q0, qP, va_K.moved (u := U) (U := U.calling g mk a) (Vm.Alike.refl U.vm) qK⟩, fun U hU hW => ⟨rfl, by rw [hU]; exact hPc, va_K.moved hW.alike hKc⟩⟩ rfl rfl hl.1 rfl (lv_room (Nat.le_of_ble_eq_true rfl)) d_M_readRun_55 (⟨Nat.le_of_ble_eq_true rfl, Nat.le_of_ble_eq_true rfl⟩)) ?_
        refine lv_istore (lv' := [(6, .int (nI (wdt pl))), (5, .int 0), (4, .int 1), (3, .int (nI pl)), (2, .int (nI n0)), (0, .ref y), (1, .int (nI n0))]) hx hb d_M_readRun_58 hl (by decide) rfl (fun ls hl => ?_)
        have loop : ∀ (d j : Nat), j + d = m0 → ∀ (H : Heap) (locs : List Loc), va_P D CLS [(y, .inr (5, [.int 0, .int (nI bi), .int (nI ne), .int (nI li), .int (nI sp), .int (nI q), .ref ms, .ref mw, .ref mu, .ref mc, .ref mn, .int en, .int (nI sz), .ref mr, .int (nI wa), .ref mq, .int la, .ref md, .int (nI j), .int 0])), (ms, .inl (cI, 2, .inl st)), (mw, .inl (cI, 2, .inl lw)), (mq, .inl (cB, 1000, .inl wq))] H → va_D A [(y, .inr (5, [.int 0, .int (nI bi), .int (nI ne), .int (nI li), .int (nI sp), .int (nI q), .ref ms, .ref mw, .ref mu, .ref mc, .ref mn, .int en, .int (nI sz), .ref mr, .int (nI wa), .ref mq, .int la, .ref md, .int (nI j), .int 0])), (ms, .inl (cI, 2, .inl st)), (mw, .inl (cI, 2, .inl lw)), (mq, .inl (cB, 1000, .inl wq))] → va_S A s.heap H locs → ∀ (ls : Array Slot), lv_has ls 8 [(6, .int (nI (wdt (rac pl j)))), (5, .int 0), (4, .int 1), (3, .int (nI (rac pl j))), (2, .int (nI (rrc n0 pl j))), (0, .ref y), (1, .int (nI n0))] → W p l e (headSpec (WSY y_M_readRun b_M_readRun 8 (some .int)) ({ frames := 2, cells := 0, slots := 0, locals := 50 })).room s m ([.ref y, .int (nI n0)] : List Value).toArray below meth c H locs 0 0 (MQ below (QM (some (.int (-1))) [(y, .inr (5, [.int th, .int (nI bi), .int (nI ne), .int (nI li), .int (nI sp), .int (nI q), .ref ms, .ref mw, .ref mu, .ref mc, .ref mn, .int en, .int (nI sz), .ref mr, .int (nI wa), .ref mq, .int la, .ref md, .int at0, .int lk])), (ms, .inl (cI, 2, .inl st)), (mw, .inl (cI, 2, .inl lw)), (mq, .inl (cB, 1000, .inl wq))] [(y, .inr (5, [.int 0, .int (nI bi), .int (nI ne), .int (nI li), .int (nI sp), .int (nI q), .ref ms, .ref mw, .ref mu, .ref mc, .ref mn, .int en, .int (nI sz), .ref mr, .int (nI wa), .ref mq, .int la, .ref md, .int (nI wa), .int 1])), (ms, .inl (cI, 2, .inl st)), (mw, .inl (cI, 2, .inl lw)), (mq, .inl (cB, 1000, .inl wq))] D) ([.ref y, .int (nI n0)] : List Value).toArray s 0 0 (ad [(y, .inr (5, [.int th, .int (nI bi), .int (nI ne), .int (nI li), .int (nI sp), .int (nI q), .ref ms, .ref mw, .ref mu, .ref mc, .ref mn, .int en, .int (nI sz), .ref mr, .int (nI wa), .ref mq, .int la, .ref md, .int at0, .int lk])), (ms, .inl (cI, 2, .inl st)), (mw, .inl (cI, 2, .inl lw)), (mq, .inl (cB, 1000, .inl wq))])) (F0 m 60 ls []) := by
          intro d
          induction d with
          | zero =>
            intro j hj H locs hP hD hS ls hl
            obtain rfl : m0 = j := by omega
            have hwj := wdt_le (rac pl m0) (rac_lt hpl m0)
            have hpj := pw15 hwj
            have hrj := rrc_le n0 pl m0
            have hlj := rac_lt hpl m0
            refine lv_iload hx hb d_M_readRun_60 (lv_at hl 2 rfl) ?_
            refine lv_if_eq (tgt := 200) hx hb d_M_readRun_62 (by decide) (fun c_4 => ?_) (fun c_4 => ?_)
            · skip
              exact absurd c_4 (by decide)
            · skip
              refine lv_aload_n hx hb d_M_readRun_65 rfl (lv_at hl 5 rfl) ?_
              refine va_get (D := D) (ci := 5) (v := .int 0) (C := R_M) (T := T_M) (N := 20) hx hb hg in_M hown hK hP 0 rfl rfl 19 (by decide) (hg _ gw_543) (fun _ h9 => h9) rfl d_M_readRun_66 ?_
              refine lv_if_ne (tgt := 200) hx hb d_M_readRun_69 (by decide) (fun c_5 => ?_) (fun c_5 => ?_)
              · skip
                exact absurd rfl c_5
              · skip
                refine lv_iload_n hx hb d_M_readRun_72 rfl (lv_at hl 3 rfl) ?_
                have hPc := hP.sub (ws' := []) [] rfl
                have hKc := hK.sub (tys' := []) [] rfl
                refine pci (va_runS (As := [.int (nI (rac pl m0))]) (rest := []) ⟨hx, hb, hml, hown, hg⟩ (c_M_widthOf l D (rac pl m0) (rac_lt hpl m0)) (va_cwS 1 hg (gS gw_619 gw_620 gw_7 gw_621) rfl rfl rfl (by decide +kernel) ⟨Nat.le_of_ble_eq_true rfl, Nat.le_of_ble_eq_true rfl⟩) ⟨fun a U g mk q => by obtain ⟨q0, qP, qK⟩ := q; exact ⟨q0, qP, va_K.moved (u := U) (U := U.calling g mk a) (Vm.Alike.refl U.vm) qK⟩, fun U hU hW => ⟨rfl, by rw [hU]; exact hPc, va_K.moved hW.alike hKc⟩⟩ rfl rfl hl.1 rfl (lv_room (Nat.le_of_ble_eq_true rfl)) d_M_readRun_73 (⟨Nat.le_of_ble_eq_true rfl, Nat.le_of_ble_eq_true rfl⟩)) ?_
                refine lv_istore (lv' := [(6, .int (nI (wdt (rac pl m0)))), (5, .int 0), (4, .int 1), (3, .int (nI (rac pl m0))), (2, .int (nI (rrc n0 pl m0))), (0, .ref y), (1, .int (nI n0))]) hx hb d_M_readRun_76 hl (by decide) rfl (fun ls hl => ?_)
                refine lv_aload_n hx hb d_M_readRun_78 rfl (lv_at hl 5 rfl) ?_
                have hPc := hP.sub (ws' := [(y, .inr (5, [.int 0, .int (nI bi), .int (nI ne), .int (nI li), .int (nI sp), .int (nI q), .ref ms, .ref mw, .ref mu, .ref mc, .ref mn, .int en, .int (nI sz), .ref mr, .int (nI wa), .ref mq, .int la, .ref md, .int (nI m0), .int 0])), (mq, .inl (cB, 1000, .inl wq))]) [0, 3] rfl
                have hDc := hD.sub (ws' := [(y, .inr (5, [.int 0, .int (nI bi), .int (nI ne), .int (nI li), .int (nI sp), .int (nI q), .ref ms, .ref mw, .ref mu, .ref mc, .ref mn, .int en, .int (nI sz), .ref mr, .int (nI wa), .ref mq, .int la, .ref md, .int (nI m0), .int 0])), (mq, .inl (cB, 1000, .inl wq))]) [0, 3] (by decide) rfl
                have hKc := hK.sub (tys' := [(cB, .byte)]) [0] rfl
                refine mci (va_runV (As := []) (rest := []) ⟨hx, hb, hml, hown, hg⟩ (c_M_next l D y ms mw mu mc mn mr mq md bi ne li sp q sz wa 0 en la at0 0 cB wq m0 hwa (by omega)) (cwV 0 hg (gV gw_678 gw_680 gs_26 gw_7 gw_681) rfl rfl rfl (by decide +kernel) ⟨Nat.le_of_ble_eq_true rfl, Nat.le_of_ble_eq_true rfl⟩) ⟨fun a U g mk q => by obtain ⟨q0, qP, qK, qD⟩ := q; exact ⟨q0, qP, va_K.moved (u := U) (U := U.calling g mk a) (Vm.Alike.refl U.vm) qK, qD⟩, va_recv hKc hPc (ci := 5) (q0 := 0) rfl rfl, fun U hU hW => ⟨rfl, by rw [hU]; exact hPc, va_K.moved hW.alike hKc, hDc.weaken (fun _ _ _ _ => trivial)⟩⟩ rfl rfl hl.1 rfl (lv_room (Nat.le_of_ble_eq_true rfl)) d_M_readRun_79 (⟨Nat.le_of_ble_eq_true rfl, Nat.le_of_ble_eq_true rfl⟩)) hS hP hD [0, 3] rfl rfl rfl (fun H locs hP hD hS => ?_)
                have hP : va_P D CLS [(y, .inr (5, [.int 0, .int (nI bi), .int (nI ne), .int (nI li), .int (nI sp), .int (nI q), .ref ms, .ref mw, .ref mu, .ref mc, .ref mn, .int en, .int (nI sz), .ref mr, .int (nI wa), .ref mq, .int la, .ref md, .int (nI (m0 + 1)), .int 0])), (ms, .inl (cI, 2, .inl st)), (mw, .inl (cI, 2, .inl lw)), (mq, .inl (cB, 1000, .inl wq))] H := hP
                have hD : va_D A [(y, .inr (5, [.int 0, .int (nI bi), .int (nI ne), .int (nI li), .int (nI sp), .int (nI q), .ref ms, .ref mw, .ref mu, .ref mc, .ref mn, .int en, .int (nI sz), .ref mr, .int (nI wa), .ref mq, .int la, .ref md, .int (nI (m0 + 1)), .int 0])), (ms, .inl (cI, 2, .inl st)), (mw, .inl (cI, 2, .inl lw)), (mq, .inl (cB, 1000, .inl wq))] := hD
                refine tpi (y := 0) (hz) ?_
                refine lv_iconst (v := 1) hx hb d_M_readRun_82 (by decide) ?_
                refine lv_icmp_ne (tgt := 142) hx hb d_M_readRun_83 (by decide) (fun c_6 => ?_) (fun c_6 => ?_)
                · skip
                  refine lv_aload_n hx hb d_M_readRun_142 rfl (lv_at hl 5 rfl) ?_
                  refine lv_iload hx hb d_M_readRun_143 (lv_at hl 0 rfl) ?_
                  have hPc := hP.sub (ws' := [(y, .inr (5, [.int 0, .int (nI bi), .int (nI ne), .int (nI li), .int (nI sp), .int (nI q), .ref ms, .ref mw, .ref mu, .ref mc, .ref mn, .int en, .int (nI sz), .ref mr, .int (nI wa), .ref mq, .int la, .ref md, .int (nI (m0 + 1)), .int 0])), (mq, .inl (cB, 1000, .inl wq))]) [0, 3] rfl
                  have hDc := hD.sub (ws' := [(y, .inr (5, [.int 0, .int (nI bi), .int (nI ne), .int (nI li), .int (nI sp), .int (nI q), .ref ms, .ref mw, .ref mu, .ref mc, .ref mn, .int en, .int (nI sz), .ref mr, .int (nI wa), .ref mq, .int la, .ref md, .int (nI (m0 + 1)), .int 0])), (mq, .inl (cB, 1000, .inl wq))]) [0, 3] (by decide) rfl
                  have hKc := hK.sub (tys' := [(cB, .byte)]) [0] rfl
                  refine mci (va_runV (As := [.int (nI (wdt (rac pl m0)))]) (rest := []) ⟨hx, hb, hml, hown, hg⟩ (c_M_nextLow l D y ms mw mu mc mn mr mq md bi ne li sp q sz wa 0 en la at0 0 cB wq (m0 + 1) (wdt (rac pl m0)) hwa (by omega) (by omega)) (cwV 1 hg (gV gw_682 gw_684 gs_27 gw_7 gw_685) rfl rfl rfl (by decide +kernel) ⟨Nat.le_of_ble_eq_true rfl, Nat.le_of_ble_eq_true rfl⟩) ⟨fun a U g mk q => by obtain ⟨q0, qP, qK, qD⟩ := q; exact ⟨q0, qP, va_K.moved (u := U) (U := U.calling g mk a) (Vm.Alike.refl U.vm) qK, qD⟩, va_recv hKc hPc (ci := 5) (q0 := 0) rfl rfl, fun U hU hW => ⟨rfl, by rw [hU]; exact hPc, va_K.moved hW.alike hKc, hDc.weaken (fun _ _ _ _ => trivial)⟩⟩ rfl rfl hl.1 rfl (lv_room (Nat.le_of_ble_eq_true rfl)) d_M_readRun_145 (⟨Nat.le_of_ble_eq_true rfl, Nat.le_of_ble_eq_true rfl⟩)) hS hP hD [0, 3] rfl rfl rfl (fun H locs hP hD hS => ?_)
                  have hP : va_P D CLS [(y, .inr (5, [.int 0, .int (nI bi), .int (nI ne), .int (nI li), .int (nI sp), .int (nI q), .ref ms, .ref mw, .ref mu, .ref mc, .ref mn, .int en, .int (nI sz), .ref mr, .int (nI wa), .ref mq, .int la, .ref md, .int (nI (min (m0 + 1 + (wdt (rac pl m0))) wa)), .int (if wa < m0 + 1 + (wdt (rac pl m0)) then 1 else 0)])), (ms, .inl (cI, 2, .inl st)), (mw, .inl (cI, 2, .inl lw)), (mq, .inl (cB, 1000, .inl wq))] H := hP
                  have hD : va_D A [(y, .inr (5, [.int 0, .int (nI bi), .int (nI ne), .int (nI li), .int (nI sp), .int (nI q), .ref ms, .ref mw, .ref mu, .ref mc, .ref mn, .int en, .int (nI sz), .ref mr, .int (nI wa), .ref mq, .int la, .ref md, .int (nI (min (m0 + 1 + (wdt (rac pl m0))) wa)), .int (if wa < m0 + 1 + (wdt (rac pl m0)) then 1 else 0)])), (ms, .inl (cI, 2, .inl st)), (mw, .inl (cI, 2, .inl lw)), (mq, .inl (cB, 1000, .inl wq))] := hD
                  rw [if_pos (show wa < m0 + 1 + (wdt (rac pl m0)) by omega), show min (m0 + 1 + (wdt (rac pl m0))) wa = wa by omega] at hP hD
                  have hP : va_P D CLS [(y, .inr (5, [.int 0, .int (nI bi), .int (nI ne), .int (nI li), .int (nI sp), .int (nI q), .ref ms, .ref mw, .ref mu, .ref mc, .ref mn, .int en, .int (nI sz), .ref mr, .int (nI wa), .ref mq, .int la, .ref md, .int (nI wa), .int 1])), (ms, .inl (cI, 2, .inl st)), (mw, .inl (cI, 2, .inl lw)), (mq, .inl (cB, 1000, .inl wq))] H := hP
                  have hD : va_D A [(y, .inr (5, [.int 0, .int (nI bi), .int (nI ne), .int (nI li), .int (nI sp), .int (nI q), .ref ms, .ref mw, .ref mu, .ref mc, .ref mn, .int en, .int (nI sz), .ref mr, .int (nI wa), .ref mq, .int la, .ref md, .int (nI wa), .int 1])), (ms, .inl (cI, 2, .inl st)), (mw, .inl (cI, 2, .inl lw)), (mq, .inl (cB, 1000, .inl wq))] := hD
                  refine lv_istore (lv' := [(7, .int (bnum (mbt wq wa) (m0 + 1) (wdt (rac pl m0)))), (6, .int (nI (wdt (rac pl m0)))), (5, .int 0), (4, .int 1), (3, .int (nI (rac pl m0))), (2, .int (nI (rrc n0 pl m0))), (0, .ref y), (1, .int (nI n0))]) hx hb d_M_readRun_148 hl (by decide) rfl (fun ls hl => ?_)
                  refine lv_aload_n hx hb d_M_readRun_150 rfl (lv_at hl 6 rfl) ?_
                  refine va_get (D := D) (ci := 5) (v := .int 1) (C := R_M) (T := T_M) (N := 20) hx hb hg in_M hown hK hP 0 rfl rfl 19 (by decide) (hg _ gw_543) (fun _ h9 => h9) rfl d_M_readRun_151 ?_
                  refine lv_if_ne (tgt := 174) hx hb d_M_readRun_154 (by decide) (fun c_7 => ?_) (fun c_7 => ?_)
                  · skip
                    refine lv_iload_n hx hb d_M_readRun_174 rfl (lv_at hl 5 rfl) ?_
                    refine lv_iload hx hb d_M_readRun_175 (lv_at hl 0 rfl) ?_
                    refine lv_isub hx hb d_M_readRun_177 ?_
                    refine lv_istore_n (lv' := [(2, .int ((nI (rrc n0 pl m0)) - (bnum (mbt wq wa) (m0 + 1) (wdt (rac pl m0))))), (7, .int (bnum (mbt wq wa) (m0 + 1) (wdt (rac pl m0)))), (6, .int (nI (wdt (rac pl m0)))), (5, .int 0), (4, .int 1), (3, .int (nI (rac pl m0))), (0, .ref y), (1, .int (nI n0))]) hx hb d_M_readRun_178 rfl hl (by decide) rfl (fun ls hl => ?_)
                    refine lv_iload_n hx hb d_M_readRun_179 rfl (lv_at hl 5 rfl) ?_
                    refine lv_if_le (tgt := 189) hx hb d_M_readRun_180 (by decide) (fun c_8 => ?_) (fun c_8 => ?_)
                    · skip
                      have hr0 : rac pl m0 = 0 := Nat.eq_zero_of_not_pos (fun q9 => nI_nle q9 (by omega) c_8)
                      refine lv_iload_n hx hb d_M_readRun_189 rfl (lv_at hl 5 rfl) ?_
                      refine tpi (y := nI (rac pl m0 - 1)) (by rw [hr0]) ?_
                      refine lv_istore_n (lv' := [(3, .int (nI (rac pl m0 - 1))), (2, .int ((nI (rrc n0 pl m0)) - (bnum (mbt wq wa) (m0 + 1) (wdt (rac pl m0))))), (7, .int (bnum (mbt wq wa) (m0 + 1) (wdt (rac pl m0)))), (6, .int (nI (wdt (rac pl m0)))), (5, .int 0), (4, .int 1), (0, .ref y), (1, .int (nI n0))]) hx hb d_M_readRun_190 rfl hl (by decide) rfl (fun ls hl => ?_)
                      refine lv_iconst (v := 0) hx hb d_M_readRun_191 (by decide) ?_
                      refine lv_istore (lv' := [(4, .int 0), (3, .int (nI (rac pl m0 - 1))), (2, .int ((nI (rrc n0 pl m0)) - (bnum (mbt wq wa) (m0 + 1) (wdt (rac pl m0))))), (7, .int (bnum (mbt wq wa) (m0 + 1) (wdt (rac pl m0)))), (6, .int (nI (wdt (rac pl m0)))), (5, .int 0), (0, .ref y), (1, .int (nI n0))]) hx hb d_M_readRun_192 hl (by decide) rfl (fun ls hl => ?_)
                      refine lv_iconst (v := 1) hx hb d_M_readRun_194 (by decide) ?_
                      refine lv_istore (lv' := [(5, .int 1), (4, .int 0), (3, .int (nI (rac pl m0 - 1))), (2, .int ((nI (rrc n0 pl m0)) - (bnum (mbt wq wa) (m0 + 1) (wdt (rac pl m0))))), (7, .int (bnum (mbt wq wa) (m0 + 1) (wdt (rac pl m0)))), (6, .int (nI (wdt (rac pl m0)))), (0, .ref y), (1, .int (nI n0))]) hx hb d_M_readRun_195 hl (by decide) rfl (fun ls hl => ?_)
                      refine lv_goto (tgt := 60) hx hb d_M_readRun_197 (by decide) ?_
                      refine lv_iload hx hb d_M_readRun_60 (lv_at hl 1 rfl) ?_
                      refine lv_if_eq (tgt := 200) hx hb d_M_readRun_62 (by decide) (fun c_9 => ?_) (fun c_9 => ?_)
                      · skip
                        refine lv_aload_n hx hb d_M_readRun_200 rfl (lv_at hl 6 rfl) ?_
                        refine va_get (D := D) (ci := 5) (v := .int 1) (C := R_M) (T := T_M) (N := 20) hx hb hg in_M hown hK hP 0 rfl rfl 19 (by decide) (hg _ gw_543) (fun _ h9 => h9) rfl d_M_readRun_201 ?_
                        refine lv_if_eq (tgt := 209) hx hb d_M_readRun_204 (by decide) (fun c_10 => ?_) (fun c_10 => ?_)
                        · skip
                          exact absurd c_10 (by decide)
                        · skip
                          refine lv_iconst (v := (-1)) hx hb d_M_readRun_207 (by decide) ?_
                          exact W.iret (v := (-1)) hx hb hr (fun t ht hW => ⟨rfl, by rw [ht]; exact hP, (hAe ▸ hS).F ht⟩) (hAe ▸ hS).2.2 d_M_readRun_208
                      · skip
                        exact absurd rfl c_9
                    · skip
                      have hr0 : 0 < rac pl m0 := Nat.pos_of_ne_zero (fun q9 => c_8 (by rw [q9]; decide))
                      refine lv_iload_n hx hb d_M_readRun_183 rfl (lv_at hl 5 rfl) ?_
                      refine lv_iconst (v := 1) hx hb d_M_readRun_184 (by decide) ?_
                      refine lv_isub hx hb d_M_readRun_185 ?_
                      refine tpi (y := nI (rac pl m0 - 1)) (pk_sub (b := 1) (by omega)) ?_
                      refine lv_goto (tgt := 190) hx hb d_M_readRun_186 (by decide) ?_
                      refine lv_istore_n (lv' := [(3, .int (nI (rac pl m0 - 1))), (2, .int ((nI (rrc n0 pl m0)) - (bnum (mbt wq wa) (m0 + 1) (wdt (rac pl m0))))), (7, .int (bnum (mbt wq wa) (m0 + 1) (wdt (rac pl m0)))), (6, .int (nI (wdt (rac pl m0)))), (5, .int 0), (4, .int 1), (0, .ref y), (1, .int (nI n0))]) hx hb d_M_readRun_190 rfl hl (by decide) rfl (fun ls hl => ?_)
                      refine lv_iconst (v := 0) hx hb d_M_readRun_191 (by decide) ?_
                      refine lv_istore (lv' := [(4, .int 0), (3, .int (nI (rac pl m0 - 1))), (2, .int ((nI (rrc n0 pl m0)) - (bnum (mbt wq wa) (m0 + 1) (wdt (rac pl m0))))), (7, .int (bnum (mbt wq wa) (m0 + 1) (wdt (rac pl m0)))), (6, .int (nI (wdt (rac pl m0)))), (5, .int 0), (0, .ref y), (1, .int (nI n0))]) hx hb d_M_readRun_192 hl (by decide) rfl (fun ls hl => ?_)
                      refine lv_iconst (v := 1) hx hb d_M_readRun_194 (by decide) ?_
                      refine lv_istore (lv' := [(5, .int 1), (4, .int 0), (3, .int (nI (rac pl m0 - 1))), (2, .int ((nI (rrc n0 pl m0)) - (bnum (mbt wq wa) (m0 + 1) (wdt (rac pl m0))))), (7, .int (bnum (mbt wq wa) (m0 + 1) (wdt (rac pl m0)))), (6, .int (nI (wdt (rac pl m0)))), (0, .ref y), (1, .int (nI n0))]) hx hb d_M_readRun_195 hl (by decide) rfl (fun ls hl => ?_)
                      refine lv_goto (tgt := 60) hx hb d_M_readRun_197 (by decide) ?_
                      refine lv_iload hx hb d_M_readRun_60 (lv_at hl 1 rfl) ?_
                      refine lv_if_eq (tgt := 200) hx hb d_M_readRun_62 (by decide) (fun c_11 => ?_) (fun c_11 => ?_)
                      · skip
                        refine lv_aload_n hx hb d_M_readRun_200 rfl (lv_at hl 6 rfl) ?_
                        refine va_get (D := D) (ci := 5) (v := .int 1) (C := R_M) (T := T_M) (N := 20) hx hb hg in_M hown hK hP 0 rfl rfl 19 (by decide) (hg _ gw_543) (fun _ h9 => h9) rfl d_M_readRun_201 ?_
                        refine lv_if_eq (tgt := 209) hx hb d_M_readRun_204 (by decide) (fun c_12 => ?_) (fun c_12 => ?_)
                        · skip
                          exact absurd c_12 (by decide)
                        · skip
                          refine lv_iconst (v := (-1)) hx hb d_M_readRun_207 (by decide) ?_
                          exact W.iret (v := (-1)) hx hb hr (fun t ht hW => ⟨rfl, by rw [ht]; exact hP, (hAe ▸ hS).F ht⟩) (hAe ▸ hS).2.2 d_M_readRun_208
                      · skip
                        exact absurd rfl c_11
                  · skip
                    exact absurd c_7 (by decide)
                · skip
                  exact absurd c_6 (by decide)
          | succ d ih =>
            intro j hj H locs hP hD hS ls hl
            have hwj := wdt_le (rac pl j) (rac_lt hpl j)
            have hpj := pw15 hwj
            have hrj := rrc_le n0 pl j
            have hlj := rac_lt hpl j
            refine lv_iload hx hb d_M_readRun_60 (lv_at hl 2 rfl) ?_
            refine lv_if_eq (tgt := 200) hx hb d_M_readRun_62 (by decide) (fun c_13 => ?_) (fun c_13 => ?_)
            · skip
              exact absurd c_13 (by decide)
            · skip
              refine lv_aload_n hx hb d_M_readRun_65 rfl (lv_at hl 5 rfl) ?_
              refine va_get (D := D) (ci := 5) (v := .int 0) (C := R_M) (T := T_M) (N := 20) hx hb hg in_M hown hK hP 0 rfl rfl 19 (by decide) (hg _ gw_543) (fun _ h9 => h9) rfl d_M_readRun_66 ?_
              refine lv_if_ne (tgt := 200) hx hb d_M_readRun_69 (by decide) (fun c_14 => ?_) (fun c_14 => ?_)
              · skip
                exact absurd rfl c_14
              · skip
                refine lv_iload_n hx hb d_M_readRun_72 rfl (lv_at hl 3 rfl) ?_
                have hPc := hP.sub (ws' := []) [] rfl
                have hKc := hK.sub (tys' := []) [] rfl
                refine pci (va_runS (As := [.int (nI (rac pl j))]) (rest := []) ⟨hx, hb, hml, hown, hg⟩ (c_M_widthOf l D (rac pl j) (rac_lt hpl j)) (va_cwS 1 hg (gS gw_619 gw_620 gw_7 gw_621) rfl rfl rfl (by decide +kernel) ⟨Nat.le_of_ble_eq_true rfl, Nat.le_of_ble_eq_true rfl⟩) ⟨fun a U g mk q => by obtain ⟨q0, qP, qK⟩ := q; exact ⟨q0, qP, va_K.moved (u := U) (U := U.calling g mk a) (Vm.Alike.refl U.vm) qK⟩, fun U hU hW => ⟨rfl, by rw [hU]; exact hPc, va_K.moved hW.alike hKc⟩⟩ rfl rfl hl.1 rfl (lv_room (Nat.le_of_ble_eq_true rfl)) d_M_readRun_73 (⟨Nat.le_of_ble_eq_true rfl, Nat.le_of_ble_eq_true rfl⟩)) ?_
                refine lv_istore (lv' := [(6, .int (nI (wdt (rac pl j)))), (5, .int 0), (4, .int 1), (3, .int (nI (rac pl j))), (2, .int (nI (rrc n0 pl j))), (0, .ref y), (1, .int (nI n0))]) hx hb d_M_readRun_76 hl (by decide) rfl (fun ls hl => ?_)
                refine lv_aload_n hx hb d_M_readRun_78 rfl (lv_at hl 5 rfl) ?_
                have hPc := hP.sub (ws' := [(y, .inr (5, [.int 0, .int (nI bi), .int (nI ne), .int (nI li), .int (nI sp), .int (nI q), .ref ms, .ref mw, .ref mu, .ref mc, .ref mn, .int en, .int (nI sz), .ref mr, .int (nI wa), .ref mq, .int la, .ref md, .int (nI j), .int 0])), (mq, .inl (cB, 1000, .inl wq))]) [0, 3] rfl
                have hDc := hD.sub (ws' := [(y, .inr (5, [.int 0, .int (nI bi), .int (nI ne), .int (nI li), .int (nI sp), .int (nI q), .ref ms, .ref mw, .ref mu, .ref mc, .ref mn, .int en, .int (nI sz), .ref mr, .int (nI wa), .ref mq, .int la, .ref md, .int (nI j), .int 0])), (mq, .inl (cB, 1000, .inl wq))]) [0, 3] (by decide) rfl
                have hKc := hK.sub (tys' := [(cB, .byte)]) [0] rfl
                refine mci (va_runV (As := []) (rest := []) ⟨hx, hb, hml, hown, hg⟩ (c_M_next l D y ms mw mu mc mn mr mq md bi ne li sp q sz wa 0 en la at0 0 cB wq j hwa (by omega)) (cwV 0 hg (gV gw_678 gw_680 gs_26 gw_7 gw_681) rfl rfl rfl (by decide +kernel) ⟨Nat.le_of_ble_eq_true rfl, Nat.le_of_ble_eq_true rfl⟩) ⟨fun a U g mk q => by obtain ⟨q0, qP, qK, qD⟩ := q; exact ⟨q0, qP, va_K.moved (u := U) (U := U.calling g mk a) (Vm.Alike.refl U.vm) qK, qD⟩, va_recv hKc hPc (ci := 5) (q0 := 0) rfl rfl, fun U hU hW => ⟨rfl, by rw [hU]; exact hPc, va_K.moved hW.alike hKc, hDc.weaken (fun _ _ _ _ => trivial)⟩⟩ rfl rfl hl.1 rfl (lv_room (Nat.le_of_ble_eq_true rfl)) d_M_readRun_79 (⟨Nat.le_of_ble_eq_true rfl, Nat.le_of_ble_eq_true rfl⟩)) hS hP hD [0, 3] rfl rfl rfl (fun H locs hP hD hS => ?_)
                have hP : va_P D CLS [(y, .inr (5, [.int 0, .int (nI bi), .int (nI ne), .int (nI li), .int (nI sp), .int (nI q), .ref ms, .ref mw, .ref mu, .ref mc, .ref mn, .int en, .int (nI sz), .ref mr, .int (nI wa), .ref mq, .int la, .ref md, .int (nI (j + 1)), .int 0])), (ms, .inl (cI, 2, .inl st)), (mw, .inl (cI, 2, .inl lw)), (mq, .inl (cB, 1000, .inl wq))] H := hP
                have hD : va_D A [(y, .inr (5, [.int 0, .int (nI bi), .int (nI ne), .int (nI li), .int (nI sp), .int (nI q), .ref ms, .ref mw, .ref mu, .ref mc, .ref mn, .int en, .int (nI sz), .ref mr, .int (nI wa), .ref mq, .int la, .ref md, .int (nI (j + 1)), .int 0])), (ms, .inl (cI, 2, .inl st)), (mw, .inl (cI, 2, .inl lw)), (mq, .inl (cB, 1000, .inl wq))] := hD
                refine tpi (y := 1) (hmb j (by omega)) ?_
                refine lv_iconst (v := 1) hx hb d_M_readRun_82 (by decide) ?_
                refine lv_icmp_ne (tgt := 142) hx hb d_M_readRun_83 (by decide) (fun c_15 => ?_) (fun c_15 => ?_)
                · skip
                  exact absurd rfl c_15
                · skip
                  refine lv_iload hx hb d_M_readRun_86 (lv_at hl 0 rfl) ?_
                  have hPc := hP.sub (ws' := []) [] rfl
                  have hKc := hK.sub (tys' := []) [] rfl
                  refine pci (va_runS (As := [.int (nI (wdt (rac pl j)))]) (rest := []) ⟨hx, hb, hml, hown, hg⟩ (c_M_power l D (wdt (rac pl j)) (by omega)) (va_cwS 1 hg (gS gw_517 gw_518 gw_7 gw_519) rfl rfl rfl (by decide +kernel) ⟨Nat.le_of_ble_eq_true rfl, Nat.le_of_ble_eq_true rfl⟩) ⟨fun a U g mk q => by obtain ⟨q0, qP, qK⟩ := q; exact ⟨q0, qP, va_K.moved (u := U) (U := U.calling g mk a) (Vm.Alike.refl U.vm) qK⟩, fun U hU hW => ⟨rfl, by rw [hU]; exact hPc, va_K.moved hW.alike hKc⟩⟩ rfl rfl hl.1 rfl (lv_room (Nat.le_of_ble_eq_true rfl)) d_M_readRun_88 (⟨Nat.le_of_ble_eq_true rfl, Nat.le_of_ble_eq_true rfl⟩)) ?_
                  refine lv_iload_n hx hb d_M_readRun_91 rfl (lv_at hl 4 rfl) ?_
                  refine lv_icmp_gt (tgt := 126) hx hb d_M_readRun_92 (by decide) (fun c_16 => ?_) (fun c_16 => ?_)
                  · skip
                    exact absurd ((nI_ltI (by omega) (by omega)).mp c_16) (by have := hm1 j (by omega); omega)
                  · skip
                    have hmj := hm1 j (by omega)
                    refine lv_iload_n hx hb d_M_readRun_95 rfl (lv_at hl 4 rfl) ?_
                    refine lv_iload hx hb d_M_readRun_96 (lv_at hl 0 rfl) ?_
                    have hPc := hP.sub (ws' := []) [] rfl
                    have hKc := hK.sub (tys' := []) [] rfl
                    refine pci (va_runS (As := [.int (nI (wdt (rac pl j)))]) (rest := [.int (nI (rrc n0 pl j))]) ⟨hx, hb, hml, hown, hg⟩ (c_M_power l D (wdt (rac pl j)) (by omega)) (va_cwS 1 hg (gS gw_517 gw_518 gw_7 gw_519) rfl rfl rfl (by decide +kernel) ⟨Nat.le_of_ble_eq_true rfl, Nat.le_of_ble_eq_true rfl⟩) ⟨fun a U g mk q => by obtain ⟨q0, qP, qK⟩ := q; exact ⟨q0, qP, va_K.moved (u := U) (U := U.calling g mk a) (Vm.Alike.refl U.vm) qK⟩, fun U hU hW => ⟨rfl, by rw [hU]; exact hPc, va_K.moved hW.alike hKc⟩⟩ rfl rfl hl.1 rfl (lv_room (Nat.le_of_ble_eq_true rfl)) d_M_readRun_98 (⟨Nat.le_of_ble_eq_true rfl, Nat.le_of_ble_eq_true rfl⟩)) ?_
                    refine lv_isub hx hb d_M_readRun_101 ?_
                    refine tpi (y := nI (rrc n0 pl (j + 1))) (pk_sub (by omega)) ?_
                    refine lv_istore_n (lv' := [(2, .int (nI (rrc n0 pl (j + 1)))), (6, .int (nI (wdt (rac pl j)))), (5, .int 0), (4, .int 1), (3, .int (nI (rac pl j))), (0, .ref y), (1, .int (nI n0))]) hx hb d_M_readRun_102 rfl hl (by decide) rfl (fun ls hl => ?_)
                    refine lv_iload_n hx hb d_M_readRun_103 rfl (lv_at hl 4 rfl) ?_
                    refine lv_bipush (v := 31) hx hb d_M_readRun_104 (by decide) ?_
                    refine lv_icmp_ge (tgt := 115) hx hb d_M_readRun_106 (by decide) (fun c_17 => ?_) (fun c_17 => ?_)
                    · skip
                      have h31 := (nI_leI (a := 31) (by omega) (by omega)).mp c_17
                      refine lv_iload_n hx hb d_M_readRun_115 rfl (lv_at hl 4 rfl) ?_
                      refine tpi (y := nI (rac pl (j + 1))) (congrArg nI (show rac pl j = upp (rac pl j) from (if_neg (by omega)).symm)) ?_
                      refine lv_istore_n (lv' := [(3, .int (nI (rac pl (j + 1)))), (2, .int (nI (rrc n0 pl (j + 1)))), (6, .int (nI (wdt (rac pl j)))), (5, .int 0), (4, .int 1), (0, .ref y), (1, .int (nI n0))]) hx hb d_M_readRun_116 rfl hl (by decide) rfl (fun ls hl => ?_)
                      refine lv_iload_n hx hb d_M_readRun_117 rfl (lv_at hl 0 rfl) ?_
                      have hPc := hP.sub (ws' := []) [] rfl
                      have hKc := hK.sub (tys' := []) [] rfl
                      refine pci (va_runS (As := [.int (nI (rac pl (j + 1)))]) (rest := []) ⟨hx, hb, hml, hown, hg⟩ (c_M_widthOf l D (rac pl (j + 1)) (rac_lt hpl (j + 1))) (va_cwS 1 hg (gS gw_619 gw_620 gw_7 gw_621) rfl rfl rfl (by decide +kernel) ⟨Nat.le_of_ble_eq_true rfl, Nat.le_of_ble_eq_true rfl⟩) ⟨fun a U g mk q => by obtain ⟨q0, qP, qK⟩ := q; exact ⟨q0, qP, va_K.moved (u := U) (U := U.calling g mk a) (Vm.Alike.refl U.vm) qK⟩, fun U hU hW => ⟨rfl, by rw [hU]; exact hPc, va_K.moved hW.alike hKc⟩⟩ rfl rfl hl.1 rfl (lv_room (Nat.le_of_ble_eq_true rfl)) d_M_readRun_118 (⟨Nat.le_of_ble_eq_true rfl, Nat.le_of_ble_eq_true rfl⟩)) ?_
                      refine lv_istore (lv' := [(6, .int (nI (wdt (rac pl (j + 1))))), (3, .int (nI (rac pl (j + 1)))), (2, .int (nI (rrc n0 pl (j + 1)))), (5, .int 0), (4, .int 1), (0, .ref y), (1, .int (nI n0))]) hx hb d_M_readRun_121 hl (by decide) rfl (fun ls hl => ?_)
                      refine lv_goto (tgt := 128) hx hb d_M_readRun_123 (by decide) ?_
                      refine lv_iload_n hx hb d_M_readRun_128 rfl (lv_at hl 2 rfl) ?_
                      refine lv_if_le (tgt := 136) hx hb d_M_readRun_129 (by decide) (fun c_18 => ?_) (fun c_18 => ?_)
                      · skip
                        exact absurd c_18 (nI_nle (by show 0 < rrc n0 pl j - 2 ^ wdt (rac pl j); omega) (by have := rrc_le n0 pl (j + 1); omega))
                      · skip
                        refine lv_iconst (v := 1) hx hb d_M_readRun_132 (by decide) ?_
                        refine lv_goto (tgt := 137) hx hb d_M_readRun_133 (by decide) ?_
                        refine lv_istore (lv' := [(4, .int 1), (6, .int (nI (wdt (rac pl (j + 1))))), (3, .int (nI (rac pl (j + 1)))), (2, .int (nI (rrc n0 pl (j + 1)))), (5, .int 0), (0, .ref y), (1, .int (nI n0))]) hx hb d_M_readRun_137 hl (by decide) rfl (fun ls hl => ?_)
                        refine lv_goto (tgt := 60) hx hb d_M_readRun_139 (by decide) ?_
                        exact ih (j + 1) (by omega) H locs hP hD hS ls (lv_sub hl [1, 4, 0, 2, 3, 5, 6] rfl)
                    · skip
                      have h31 : ¬ 31 ≤ rac pl j := fun q9 => c_17 ((nI_leI (a := 31) (by omega) (by omega)).mpr q9)
                      refine lv_iload_n hx hb d_M_readRun_109 rfl (lv_at hl 4 rfl) ?_
                      refine lv_iconst (v := 1) hx hb d_M_readRun_110 (by decide) ?_
                      refine lv_iadd hx hb d_M_readRun_111 ?_
                      refine tpi (y := nI (rac pl (j + 1))) ((nI_1 _).trans (congrArg nI (show rac pl j + 1 = upp (rac pl j) from (if_pos (by omega)).symm))) ?_
                      refine lv_goto (tgt := 116) hx hb d_M_readRun_112 (by decide) ?_
                      refine lv_istore_n (lv' := [(3, .int (nI (rac pl (j + 1)))), (2, .int (nI (rrc n0 pl (j + 1)))), (6, .int (nI (wdt (rac pl j)))), (5, .int 0), (4, .int 1), (0, .ref y), (1, .int (nI n0))]) hx hb d_M_readRun_116 rfl hl (by decide) rfl (fun ls hl => ?_)
                      refine lv_iload_n hx hb d_M_readRun_117 rfl (lv_at hl 0 rfl) ?_
                      have hPc := hP.sub (ws' := []) [] rfl
                      have hKc := hK.sub (tys' := []) [] rfl
                      refine pci (va_runS (As := [.int (nI (rac pl (j + 1)))]) (rest := []) ⟨hx, hb, hml, hown, hg⟩ (c_M_widthOf l D (rac pl (j + 1)) (rac_lt hpl (j + 1))) (va_cwS 1 hg (gS gw_619 gw_620 gw_7 gw_621) rfl rfl rfl (by decide +kernel) ⟨Nat.le_of_ble_eq_true rfl, Nat.le_of_ble_eq_true rfl⟩) ⟨fun a U g mk q => by obtain ⟨q0, qP, qK⟩ := q; exact ⟨q0, qP, va_K.moved (u := U) (U := U.calling g mk a) (Vm.Alike.refl U.vm) qK⟩, fun U hU hW => ⟨rfl, by rw [hU]; exact hPc, va_K.moved hW.alike hKc⟩⟩ rfl rfl hl.1 rfl (lv_room (Nat.le_of_ble_eq_true rfl)) d_M_readRun_118 (⟨Nat.le_of_ble_eq_true rfl, Nat.le_of_ble_eq_true rfl⟩)) ?_
                      refine lv_istore (lv' := [(6, .int (nI (wdt (rac pl (j + 1))))), (3, .int (nI (rac pl (j + 1)))), (2, .int (nI (rrc n0 pl (j + 1)))), (5, .int 0), (4, .int 1), (0, .ref y), (1, .int (nI n0))]) hx hb d_M_readRun_121 hl (by decide) rfl (fun ls hl => ?_)
                      refine lv_goto (tgt := 128) hx hb d_M_readRun_123 (by decide) ?_
                      refine lv_iload_n hx hb d_M_readRun_128 rfl (lv_at hl 2 rfl) ?_
                      refine lv_if_le (tgt := 136) hx hb d_M_readRun_129 (by decide) (fun c_19 => ?_) (fun c_19 => ?_)
                      · skip
                        exact absurd c_19 (nI_nle (by show 0 < rrc n0 pl j - 2 ^ wdt (rac pl j); omega) (by have := rrc_le n0 pl (j + 1); omega))
                      · skip
                        refine lv_iconst (v := 1) hx hb d_M_readRun_132 (by decide) ?_
                        refine lv_goto (tgt := 137) hx hb d_M_readRun_133 (by decide) ?_
                        refine lv_istore (lv' := [(4, .int 1), (6, .int (nI (wdt (rac pl (j + 1))))), (3, .int (nI (rac pl (j + 1)))), (2, .int (nI (rrc n0 pl (j + 1)))), (5, .int 0), (0, .ref y), (1, .int (nI n0))]) hx hb d_M_readRun_137 hl (by decide) rfl (fun ls hl => ?_)
                        refine lv_goto (tgt := 60) hx hb d_M_readRun_139 (by decide) ?_
                        exact ih (j + 1) (by omega) H locs hP hD hS ls (lv_sub hl [1, 4, 0, 2, 3, 5, 6] rfl)
        exact loop m0 0 (by omega) H locs hP hD hS ls (lv_sub hl [0, 1, 2, 3, 4, 5, 6] rfl)
      · skip
        exact absurd (by decide) c_3
    · skip
      exact absurd (nI_le hn (by omega)) c_2
set_option maxHeartbeats 4000000 in
set_option maxRecDepth 100000 in
theorem c_M_readRunZN (l : Launch) (D : va_G) (y ms mw mu mc mn mr mq md bi ne li sp q sz wa : Nat) (th en la at0 lk : Int32) (cB cI : ClassId) (st lw wq : Nat → Int32) (pl n0 m0 : Nat) (hst : st 1 = nI pl) (hwa : wa ≤ 1000) (hqb : ∀ j, j < wa → wq j = 0 ∨ wq j = 1) (hpl : pl < 32) (hn1 : 1 ≤ n0) (hn : n0 ≤ 65535) (hm1 : ∀ j, j < m0 → 2 ^ wdt (rac pl j) < rrc n0 pl j) (hmb : ∀ j, j < m0 → wq j = 1) (hmh : m0 ≤ wa) (hmh2 : m0 < wa) (hz : wq m0 = 0) (hw : m0 + 1 + wdt (rac pl m0) ≤ wa) (hmr : ¬ bnum (mbt wq wa) (m0 + 1) (wdt (rac pl m0)) < nI (rrc n0 pl m0)) : Met l y_M_readRun (WSY y_M_readRun b_M_readRun 8 (some .int)) ({ frames := 2, cells := 0, slots := 0, locals := 50 }) (va_Pc [.ref y, .int (nI n0)] (fun U => va_P D CLS [(y, .inr (5, [.int th, .int (nI bi), .int (nI ne), .int (nI li), .int (nI sp), .int (nI q), .ref ms, .ref mw, .ref mu, .ref mc, .ref mn, .int en, .int (nI sz), .ref mr, .int (nI wa), .ref mq, .int la, .ref md, .int at0, .int lk])), (ms, .inl (cI, 2, .inl st)), (mw, .inl (cI, 2, .inl lw)), (mq, .inl (cB, 1000, .inl wq))] U.heap ∧ va_K D CLS [(cB, .byte), (cI, .int)] U ∧ va_D (fun _ => True) [(y, .inr (5, [.int th, .int (nI bi), .int (nI ne), .int (nI li), .int (nI sp), .int (nI q), .ref ms, .ref mw, .ref mu, .ref mc, .ref mn, .int en, .int (nI sz), .ref mr, .int (nI wa), .ref mq, .int la, .ref md, .int at0, .int lk])), (ms, .inl (cI, 2, .inl st)), (mw, .inl (cI, 2, .inl lw)), (mq, .inl (cB, 1000, .inl wq))])) (QM (some (.int (-2))) [(y, .inr (5, [.int th, .int (nI bi), .int (nI ne), .int (nI li), .int (nI sp), .int (nI q), .ref ms, .ref mw, .ref mu, .ref mc, .ref mn, .int en, .int (nI sz), .ref mr, .int (nI wa), .ref mq, .int la, .ref md, .int at0, .int lk])), (ms, .inl (cI, 2, .inl st)), (mw, .inl (cI, 2, .inl lw)), (mq, .inl (cB, 1000, .inl wq))] [(y, .inr (5, [.int 0, .int (nI bi), .int (nI ne), .int (nI li), .int (nI sp), .int (nI q), .ref ms, .ref mw, .ref mu, .ref mc, .ref mn, .int en, .int (nI sz), .ref mr, .int (nI (wa - (m0 + 1 + wdt (rac pl m0)))), .ref mq, .int la, .ref md, .int (nI (m0 + 1 + wdt (rac pl m0))), .int 0])), (ms, .inl (cI, 2, .inl st)), (mw, .inl (cI, 2, .inl lw)), (mq, .inl (cB, 1000, .inl (gof wq (m0 + 1 + wdt (rac pl m0)) (wa - (m0 + 1 + wdt (rac pl m0))))))] D) 0 0 (ad [(y, .inr (5, [.int th, .int (nI bi), .int (nI ne), .int (nI li), .int (nI sp), .int (nI q), .ref ms, .ref mw, .ref mu, .ref mc, .ref mn, .int en, .int (nI sz), .ref mr, .int (nI wa), .ref mq, .int la, .ref md, .int at0, .int lk])), (ms, .inl (cI, 2, .inl st)), (mw, .inl (cI, 2, .inl lw)), (mq, .inl (cB, 1000, .inl wq))]) := by
  refine Met.ofW (cc := b_M_readRun) (maxL := 8) (ret := (some .int)) (by decide) rfl ?_
  intro p e s m args below meth c s₁ B hml hv
  obtain ⟨rfl, hP, hK, hD0⟩ := hv
  have hx := B.exec
  have hb := B.bytes
  have hr := B.returns
  have hts := atoms_spec (ws := WSY y_M_readRun b_M_readRun 8 (some .int)) B.pre
  have hg : ∀ w ∈ GW, w.before _ s = true := fun w h => hts w (List.mem_cons_of_mem _ h)
  have hown : s.vm.findClass "LineGolombModel" = some m.cls := findClass_of_methodNamed B.named
  have hlocks := B.notSynchronized
  obtain ⟨A, hAe⟩ : ∃ A, A = ad [(y, .inr (5, [.int th, .int (nI bi), .int (nI ne), .int (nI li), .int (nI sp), .int (nI q), .ref ms, .ref mw, .ref mu, .ref mc, .ref mn, .int en, .int (nI sz), .ref mr, .int (nI wa), .ref mq, .int la, .ref md, .int at0, .int lk])), (ms, .inl (cI, 2, .inl st)), (mw, .inl (cI, 2, .inl lw)), (mq, .inl (cB, 1000, .inl wq))] := ⟨_, rfl⟩
  have hD : va_D A [(y, .inr (5, [.int th, .int (nI bi), .int (nI ne), .int (nI li), .int (nI sp), .int (nI q), .ref ms, .ref mw, .ref mu, .ref mc, .ref mn, .int en, .int (nI sz), .ref mr, .int (nI wa), .ref mq, .int la, .ref md, .int at0, .int lk])), (ms, .inl (cI, 2, .inl st)), (mw, .inl (cI, 2, .inl lw)), (mq, .inl (cB, 1000, .inl wq))] := by rw [hAe]; exact va_D_ad hD0
  have hS : va_S A s.heap s.heap [] := va_S.rf
  have hl := lv_entry ([.ref y, .int (nI n0)]) (n := 8) (Nat.le_of_ble_eq_true rfl)
  rw [lg_entry_eq]
  generalize (lg_sl ([.ref y, .int (nI n0)]) ++ List.replicate (8 - (lg_sl ([.ref y, .int (nI n0)])).length) Slot.unset).toArray = ls at hl ⊢
  have hl : lv_has ls 8 [(0, .ref y), (1, .int (nI n0))] := hl
  have hwd := wdt_le (rac pl m0) (rac_lt hpl m0)
  have hrl := rrc_le n0 pl m0
  refine lv_aload_n hx hb d_M_readRun_0 rfl (lv_at hl 0 rfl) ?_
  refine lv_iload_n hx hb d_M_readRun_1 rfl (lv_at hl 1 rfl) ?_
  refine lv_iconst (v := 1) hx hb d_M_readRun_2 (by decide) ?_
  refine lv_icmp_lt (tgt := 12) hx hb d_M_readRun_3 (by decide) (fun c_1 => ?_) (fun c_1 => ?_)
  · skip
    exact absurd ((nI_ltI (b := 1) (by omega) (by omega)).mp c_1) (by omega)
  · skip
    refine lv_iload_n hx hb d_M_readRun_6 rfl (lv_at hl 1 rfl) ?_
    refine lv_ldc (v := 65535) hx hb hown (hg _ gw_618) d_M_readRun_7 ?_
    refine lv_icmp_le (tgt := 16) hx hb d_M_readRun_9 (by decide) (fun c_2 => ?_) (fun c_2 => ?_)
    · skip
      refine lv_iconst (v := 0) hx hb d_M_readRun_16 (by decide) ?_
      refine va_put (D := D) (ci := 5) (v := .int 0) (ty := .int) (C := R_M) (T := T_M) (N := 20) hx hb hg in_M ty_M tok_M nm_M hown hK hP hD hS 0 rfl rfl 0 (by decide) (hg _ gw_524) (fun _ h9 => h9) rfl (by decide +kernel) (rfl) (rfl) (Nat.le_of_ble_eq_true rfl) d_M_readRun_17 (fun H locs hP hD hS => ?_)
      have hP : va_P D CLS [(y, .inr (5, [.int 0, .int (nI bi), .int (nI ne), .int (nI li), .int (nI sp), .int (nI q), .ref ms, .ref mw, .ref mu, .ref mc, .ref mn, .int en, .int (nI sz), .ref mr, .int (nI wa), .ref mq, .int la, .ref md, .int at0, .int lk])), (ms, .inl (cI, 2, .inl st)), (mw, .inl (cI, 2, .inl lw)), (mq, .inl (cB, 1000, .inl wq))] H := hP
      have hD : va_D A [(y, .inr (5, [.int 0, .int (nI bi), .int (nI ne), .int (nI li), .int (nI sp), .int (nI q), .ref ms, .ref mw, .ref mu, .ref mc, .ref mn, .int en, .int (nI sz), .ref mr, .int (nI wa), .ref mq, .int la, .ref md, .int at0, .int lk])), (ms, .inl (cI, 2, .inl st)), (mw, .inl (cI, 2, .inl lw)), (mq, .inl (cB, 1000, .inl wq))] := hD
      refine lv_aload_n hx hb d_M_readRun_20 rfl (lv_at hl 0 rfl) ?_
      refine va_get (D := D) (ci := 5) (v := .int 0) (C := R_M) (T := T_M) (N := 20) hx hb hg in_M hown hK hP 0 rfl rfl 0 (by decide) (hg _ gw_524) (fun _ h9 => h9) rfl d_M_readRun_21 ?_
      refine lv_if_le (tgt := 29) hx hb d_M_readRun_24 (by decide) (fun c_3 => ?_) (fun c_3 => ?_)
      · skip
        refine lv_aload_n hx hb d_M_readRun_29 rfl (lv_at hl 0 rfl) ?_
        refine lv_iconst (v := 0) hx hb d_M_readRun_30 (by decide) ?_
        refine tpi (y := nI 0) (rfl) ?_
        refine va_put (D := D) (ci := 5) (v := .int (nI 0)) (ty := .int) (C := R_M) (T := T_M) (N := 20) hx hb hg in_M ty_M tok_M nm_M hown hK hP hD hS 0 rfl rfl 18 (by decide) (hg _ gw_542) (fun _ h9 => h9) rfl (by decide +kernel) (rfl) (rfl) (Nat.le_of_ble_eq_true rfl) d_M_readRun_31 (fun H locs hP hD hS => ?_)
        have hP : va_P D CLS [(y, .inr (5, [.int 0, .int (nI bi), .int (nI ne), .int (nI li), .int (nI sp), .int (nI q), .ref ms, .ref mw, .ref mu, .ref mc, .ref mn, .int en, .int (nI sz), .ref mr, .int (nI wa), .ref mq, .int la, .ref md, .int (nI 0), .int lk])), (ms, .inl (cI, 2, .inl st)), (mw, .inl (cI, 2, .inl lw)), (mq, .inl (cB, 1000, .inl wq))] H := hP
        have hD : va_D A [(y, .inr (5, [.int 0, .int (nI bi), .int (nI ne), .int (nI li), .int (nI sp), .int (nI q), .ref ms, .ref mw, .ref mu, .ref mc, .ref mn, .int en, .int (nI sz), .ref mr, .int (nI wa), .ref mq, .int la, .ref md, .int (nI 0), .int lk])), (ms, .inl (cI, 2, .inl st)), (mw, .inl (cI, 2, .inl lw)), (mq, .inl (cB, 1000, .inl wq))] := hD
        refine lv_aload_n hx hb d_M_readRun_34 rfl (lv_at hl 0 rfl) ?_
        refine lv_iconst (v := 0) hx hb d_M_readRun_35 (by decide) ?_
        refine va_put (D := D) (ci := 5) (v := .int 0) (ty := .boolean) (C := R_M) (T := T_M) (N := 20) hx hb hg in_M ty_M tok_M nm_M hown hK hP hD hS 0 rfl rfl 19 (by decide) (hg _ gw_543) (fun _ h9 => h9) rfl (by decide +kernel) (rfl) (rfl) (Nat.le_of_ble_eq_true rfl) d_M_readRun_36 (fun H locs hP hD hS => ?_)
        have hP : va_P D CLS [(y, .inr (5, [.int 0, .int (nI bi), .int (nI ne), .int (nI li), .int (nI sp), .int (nI q), .ref ms, .ref mw, .ref mu, .ref mc, .ref mn, .int en, .int (nI sz), .ref mr, .int (nI wa), .ref mq, .int la, .ref md, .int (nI 0), .int 0])), (ms, .inl (cI, 2, .inl st)), (mw, .inl (cI, 2, .inl lw)), (mq, .inl (cB, 1000, .inl wq))] H := hP
        have hD : va_D A [(y, .inr (5, [.int 0, .int (nI bi), .int (nI ne), .int (nI li), .int (nI sp), .int (nI q), .ref ms, .ref mw, .ref mu, .ref mc, .ref mn, .int en, .int (nI sz), .ref mr, .int (nI wa), .ref mq, .int la, .ref md, .int (nI 0), .int 0])), (ms, .inl (cI, 2, .inl st)), (mw, .inl (cI, 2, .inl lw)), (mq, .inl (cB, 1000, .inl wq))] := hD
        refine lv_iload_n hx hb d_M_readRun_39 rfl (lv_at hl 1 rfl) ?_
        refine lv_istore_n (lv' := [(2, .int (nI n0)), (0, .ref y), (1, .int (nI n0))]) hx hb d_M_readRun_40 rfl hl (by decide) rfl (fun ls hl => ?_)
        refine lv_aload_n hx hb d_M_readRun_41 rfl (lv_at hl 1 rfl) ?_
        refine va_get (D := D) (ci := 5) (v := .ref ms) (C := R_M) (T := T_M) (N := 20) hx hb hg in_M hown hK hP 0 rfl rfl 6 (by decide) (hg _ gw_530) (fun _ h9 => h9) rfl d_M_readRun_42 ?_
        refine lv_iconst (v := 1) hx hb d_M_readRun_45 (by decide) ?_
        refine va_iald hx hb hK hP 1 1 rfl rfl (vp_in_nI (n := 1) (by decide) (by decide)) d_M_readRun_46 ?_
        refine tpi (y := nI pl) (hst) ?_
        refine lv_istore_n (lv' := [(3, .int (nI pl)), (2, .int (nI n0)), (0, .ref y), (1, .int (nI n0))]) hx hb d_M_readRun_47 rfl hl (by decide) rfl (fun ls hl => ?_)
        refine lv_iconst (v := 1) hx hb d_M_readRun_48 (by decide) ?_
        refine lv_istore (lv' := [(4, .int 1), (3, .int (nI pl)), (2, .int (nI n0)), (0, .ref y), (1, .int (nI n0))]) hx hb d_M_readRun_49 hl (by decide) rfl (fun ls hl => ?_)
        refine lv_iconst (v := 0) hx hb d_M_readRun_51 (by decide) ?_
        refine lv_istore (lv' := [(5, .int 0), (4, .int 1), (3, .int (nI pl)), (2, .int (nI n0)), (0, .ref y), (1, .int (nI n0))]) hx hb d_M_readRun_52 hl (by decide) rfl (fun ls hl => ?_)
        refine lv_iload_n hx hb d_M_readRun_54 rfl (lv_at hl 2 rfl) ?_
        have hPc := hP.sub (ws' := []) [] rfl
        have hKc := hK.sub (tys' := []) [] rfl
        refine pci (va_runS (As := [.int (nI pl)]) (rest := []) ⟨hx, hb, hml, hown, hg⟩ (c_M_widthOf l D pl hpl) (va_cwS 1 hg (gS gw_619 gw_620 gw_7 gw_621) rfl rfl rfl (by decide +kernel) ⟨Nat.le_of_ble_eq_true rfl, Nat.le_of_ble_eq_true rfl⟩) ⟨fun a U g mk q => by obtain ⟨q0, qP, qK⟩ := q; exact ⟨q0, qP, va_K.moved (u := U) (U := U.calling g mk a) (Vm.Alike.refl U.vm) qK⟩, fun U hU hW => ⟨rfl, by rw [hU]; exact hPc, va_K.moved hW.alike hKc⟩⟩ rfl rfl hl.1 rfl (lv_room (Nat.le_of_ble_eq_true rfl)) d_M_readRun_55 (⟨Nat.le_of_ble_eq_true rfl, Nat.le_of_ble_eq_true rfl⟩)) ?_
        refine lv_istore (lv' := [(6, .int (nI (wdt pl))), (5, .int 0), (4, .int 1), (3, .int (nI pl)), (2, .int (nI n0)), (0, .ref y), (1, .int (nI n0))]) hx hb d_M_readRun_58 hl (by decide) rfl (fun ls hl => ?_)
        have loop : ∀ (d j : Nat), j + d = m0 → ∀ (H : Heap) (locs : List Loc), va_P D CLS [(y, .inr (5, [.int 0, .int (nI bi), .int (nI ne), .int (nI li), .int (nI sp), .int (nI q), .ref ms, .ref mw, .ref mu, .ref mc, .ref mn, .int en, .int (nI sz), .ref mr, .int (nI wa), .ref mq, .int la, .ref md, .int (nI j), .int 0])), (ms, .inl (cI, 2, .inl st)), (mw, .inl (cI, 2, .inl lw)), (mq, .inl (cB, 1000, .inl wq))] H → va_D A [(y, .inr (5, [.int 0, .int (nI bi), .int (nI ne), .int (nI li), .int (nI sp), .int (nI q), .ref ms, .ref mw, .ref mu, .ref mc, .ref mn, .int en, .int (nI sz), .ref mr, .int (nI wa), .ref mq, .int la, .ref md, .int (nI j), .int 0])), (ms, .inl (cI, 2, .inl st)), (mw, .inl (cI, 2, .inl lw)), (mq, .inl (cB, 1000, .inl wq))] → va_S A s.heap H locs → ∀ (ls : Array Slot), lv_has ls 8 [(6, .int (nI (wdt (rac pl j)))), (5, .int 0), (4, .int 1), (3, .int (nI (rac pl j))), (2, .int (nI (rrc n0 pl j))), (0, .ref y), (1, .int (nI n0))] → W p l e (headSpec (WSY y_M_readRun b_M_readRun 8 (some .int)) ({ frames := 2, cells := 0, slots := 0, locals := 50 })).room s m ([.ref y, .int (nI n0)] : List Value).toArray below meth c H locs 0 0 (MQ below (QM (some (.int (-2))) [(y, .inr (5, [.int th, .int (nI bi), .int (nI ne), .int (nI li), .int (nI sp), .int (nI q), .ref ms, .ref mw, .ref mu, .ref mc, .ref mn, .int en, .int (nI sz), .ref mr, .int (nI wa), .ref mq, .int la, .ref md, .int at0, .int lk])), (ms, .inl (cI, 2, .inl st)), (mw, .inl (cI, 2, .inl lw)), (mq, .inl (cB, 1000, .inl wq))] [(y, .inr (5, [.int 0, .int (nI bi), .int (nI ne), .int (nI li), .int (nI sp), .int (nI q), .ref ms, .ref mw, .ref mu, .ref mc, .ref mn, .int en, .int (nI sz), .ref mr, .int (nI (wa - (m0 + 1 + wdt (rac pl m0)))), .ref mq, .int la, .ref md, .int (nI (m0 + 1 + wdt (rac pl m0))), .int 0])), (ms, .inl (cI, 2, .inl st)), (mw, .inl (cI, 2, .inl lw)), (mq, .inl (cB, 1000, .inl (gof wq (m0 + 1 + wdt (rac pl m0)) (wa - (m0 + 1 + wdt (rac pl m0))))))] D) ([.ref y, .int (nI n0)] : List Value).toArray s 0 0 (ad [(y, .inr (5, [.int th, .int (nI bi), .int (nI ne), .int (nI li), .int (nI sp), .int (nI q), .ref ms, .ref mw, .ref mu, .ref mc, .ref mn, .int en, .int (nI sz), .ref mr, .int (nI wa), .ref mq, .int la, .ref md, .int at0, .int lk])), (ms, .inl (cI, 2, .inl st)), (mw, .inl (cI, 2, .inl lw)), (mq, .inl (cB, 1000, .inl wq))])) (F0 m 60 ls []) := by
          intro d
          induction d with
          | zero =>
            intro j hj H locs hP hD hS ls hl
            obtain rfl : m0 = j := by omega
            have hwj := wdt_le (rac pl m0) (rac_lt hpl m0)
            have hpj := pw15 hwj
            have hrj := rrc_le n0 pl m0
            have hlj := rac_lt hpl m0
            refine lv_iload hx hb d_M_readRun_60 (lv_at hl 2 rfl) ?_
            refine lv_if_eq (tgt := 200) hx hb d_M_readRun_62 (by decide) (fun c_4 => ?_) (fun c_4 => ?_)
            · skip
              exact absurd c_4 (by decide)
            · skip
              refine lv_aload_n hx hb d_M_readRun_65 rfl (lv_at hl 5 rfl) ?_
              refine va_get (D := D) (ci := 5) (v := .int 0) (C := R_M) (T := T_M) (N := 20) hx hb hg in_M hown hK hP 0 rfl rfl 19 (by decide) (hg _ gw_543) (fun _ h9 => h9) rfl d_M_readRun_66 ?_
              refine lv_if_ne (tgt := 200) hx hb d_M_readRun_69 (by decide) (fun c_5 => ?_) (fun c_5 => ?_)
              · skip
                exact absurd rfl c_5
              · skip
                refine lv_iload_n hx hb d_M_readRun_72 rfl (lv_at hl 3 rfl) ?_
                have hPc := hP.sub (ws' := []) [] rfl
                have hKc := hK.sub (tys' := []) [] rfl
                refine pci (va_runS (As := [.int (nI (rac pl m0))]) (rest := []) ⟨hx, hb, hml, hown, hg⟩ (c_M_widthOf l D (rac pl m0) (rac_lt hpl m0)) (va_cwS 1 hg (gS gw_619 gw_620 gw_7 gw_621) rfl rfl rfl (by decide +kernel) ⟨Nat.le_of_ble_eq_true rfl, Nat.le_of_ble_eq_true rfl⟩) ⟨fun a U g mk q => by obtain ⟨q0, qP, qK⟩ := q; exact ⟨q0, qP, va_K.moved (u := U) (U := U.calling g mk a) (Vm.Alike.refl U.vm) qK⟩, fun U hU hW => ⟨rfl, by rw [hU]; exact hPc, va_K.moved hW.alike hKc⟩⟩ rfl rfl hl.1 rfl (lv_room (Nat.le_of_ble_eq_true rfl)) d_M_readRun_73 (⟨Nat.le_of_ble_eq_true rfl, Nat.le_of_ble_eq_true rfl⟩)) ?_
                refine lv_istore (lv' := [(6, .int (nI (wdt (rac pl m0)))), (5, .int 0), (4, .int 1), (3, .int (nI (rac pl m0))), (2, .int (nI (rrc n0 pl m0))), (0, .ref y), (1, .int (nI n0))]) hx hb d_M_readRun_76 hl (by decide) rfl (fun ls hl => ?_)
                refine lv_aload_n hx hb d_M_readRun_78 rfl (lv_at hl 5 rfl) ?_
                have hPc := hP.sub (ws' := [(y, .inr (5, [.int 0, .int (nI bi), .int (nI ne), .int (nI li), .int (nI sp), .int (nI q), .ref ms, .ref mw, .ref mu, .ref mc, .ref mn, .int en, .int (nI sz), .ref mr, .int (nI wa), .ref mq, .int la, .ref md, .int (nI m0), .int 0])), (mq, .inl (cB, 1000, .inl wq))]) [0, 3] rfl
                have hDc := hD.sub (ws' := [(y, .inr (5, [.int 0, .int (nI bi), .int (nI ne), .int (nI li), .int (nI sp), .int (nI q), .ref ms, .ref mw, .ref mu, .ref mc, .ref mn, .int en, .int (nI sz), .ref mr, .int (nI wa), .ref mq, .int la, .ref md, .int (nI m0), .int 0])), (mq, .inl (cB, 1000, .inl wq))]) [0, 3] (by decide) rfl
                have hKc := hK.sub (tys' := [(cB, .byte)]) [0] rfl
                refine mci (va_runV (As := []) (rest := []) ⟨hx, hb, hml, hown, hg⟩ (c_M_next l D y ms mw mu mc mn mr mq md bi ne li sp q sz wa 0 en la at0 0 cB wq m0 hwa (by omega)) (cwV 0 hg (gV gw_678 gw_680 gs_26 gw_7 gw_681) rfl rfl rfl (by decide +kernel) ⟨Nat.le_of_ble_eq_true rfl, Nat.le_of_ble_eq_true rfl⟩) ⟨fun a U g mk q => by obtain ⟨q0, qP, qK, qD⟩ := q; exact ⟨q0, qP, va_K.moved (u := U) (U := U.calling g mk a) (Vm.Alike.refl U.vm) qK, qD⟩, va_recv hKc hPc (ci := 5) (q0 := 0) rfl rfl, fun U hU hW => ⟨rfl, by rw [hU]; exact hPc, va_K.moved hW.alike hKc, hDc.weaken (fun _ _ _ _ => trivial)⟩⟩ rfl rfl hl.1 rfl (lv_room (Nat.le_of_ble_eq_true rfl)) d_M_readRun_79 (⟨Nat.le_of_ble_eq_true rfl, Nat.le_of_ble_eq_true rfl⟩)) hS hP hD [0, 3] rfl rfl rfl (fun H locs hP hD hS => ?_)
                have hP : va_P D CLS [(y, .inr (5, [.int 0, .int (nI bi), .int (nI ne), .int (nI li), .int (nI sp), .int (nI q), .ref ms, .ref mw, .ref mu, .ref mc, .ref mn, .int en, .int (nI sz), .ref mr, .int (nI wa), .ref mq, .int la, .ref md, .int (nI (m0 + 1)), .int 0])), (ms, .inl (cI, 2, .inl st)), (mw, .inl (cI, 2, .inl lw)), (mq, .inl (cB, 1000, .inl wq))] H := hP
                have hD : va_D A [(y, .inr (5, [.int 0, .int (nI bi), .int (nI ne), .int (nI li), .int (nI sp), .int (nI q), .ref ms, .ref mw, .ref mu, .ref mc, .ref mn, .int en, .int (nI sz), .ref mr, .int (nI wa), .ref mq, .int la, .ref md, .int (nI (m0 + 1)), .int 0])), (ms, .inl (cI, 2, .inl st)), (mw, .inl (cI, 2, .inl lw)), (mq, .inl (cB, 1000, .inl wq))] := hD
                refine tpi (y := 0) (hz) ?_
                refine lv_iconst (v := 1) hx hb d_M_readRun_82 (by decide) ?_
                refine lv_icmp_ne (tgt := 142) hx hb d_M_readRun_83 (by decide) (fun c_6 => ?_) (fun c_6 => ?_)
                · skip
                  refine lv_aload_n hx hb d_M_readRun_142 rfl (lv_at hl 5 rfl) ?_
                  refine lv_iload hx hb d_M_readRun_143 (lv_at hl 0 rfl) ?_
                  have hPc := hP.sub (ws' := [(y, .inr (5, [.int 0, .int (nI bi), .int (nI ne), .int (nI li), .int (nI sp), .int (nI q), .ref ms, .ref mw, .ref mu, .ref mc, .ref mn, .int en, .int (nI sz), .ref mr, .int (nI wa), .ref mq, .int la, .ref md, .int (nI (m0 + 1)), .int 0])), (mq, .inl (cB, 1000, .inl wq))]) [0, 3] rfl
                  have hDc := hD.sub (ws' := [(y, .inr (5, [.int 0, .int (nI bi), .int (nI ne), .int (nI li), .int (nI sp), .int (nI q), .ref ms, .ref mw, .ref mu, .ref mc, .ref mn, .int en, .int (nI sz), .ref mr, .int (nI wa), .ref mq, .int la, .ref md, .int (nI (m0 + 1)), .int 0])), (mq, .inl (cB, 1000, .inl wq))]) [0, 3] (by decide) rfl
                  have hKc := hK.sub (tys' := [(cB, .byte)]) [0] rfl
                  refine mci (va_runV (As := [.int (nI (wdt (rac pl m0)))]) (rest := []) ⟨hx, hb, hml, hown, hg⟩ (c_M_nextLow l D y ms mw mu mc mn mr mq md bi ne li sp q sz wa 0 en la at0 0 cB wq (m0 + 1) (wdt (rac pl m0)) hwa (by omega) (by omega)) (cwV 1 hg (gV gw_682 gw_684 gs_27 gw_7 gw_685) rfl rfl rfl (by decide +kernel) ⟨Nat.le_of_ble_eq_true rfl, Nat.le_of_ble_eq_true rfl⟩) ⟨fun a U g mk q => by obtain ⟨q0, qP, qK, qD⟩ := q; exact ⟨q0, qP, va_K.moved (u := U) (U := U.calling g mk a) (Vm.Alike.refl U.vm) qK, qD⟩, va_recv hKc hPc (ci := 5) (q0 := 0) rfl rfl, fun U hU hW => ⟨rfl, by rw [hU]; exact hPc, va_K.moved hW.alike hKc, hDc.weaken (fun _ _ _ _ => trivial)⟩⟩ rfl rfl hl.1 rfl (lv_room (Nat.le_of_ble_eq_true rfl)) d_M_readRun_145 (⟨Nat.le_of_ble_eq_true rfl, Nat.le_of_ble_eq_true rfl⟩)) hS hP hD [0, 3] rfl rfl rfl (fun H locs hP hD hS => ?_)
                  have hP : va_P D CLS [(y, .inr (5, [.int 0, .int (nI bi), .int (nI ne), .int (nI li), .int (nI sp), .int (nI q), .ref ms, .ref mw, .ref mu, .ref mc, .ref mn, .int en, .int (nI sz), .ref mr, .int (nI wa), .ref mq, .int la, .ref md, .int (nI (min (m0 + 1 + (wdt (rac pl m0))) wa)), .int (if wa < m0 + 1 + (wdt (rac pl m0)) then 1 else 0)])), (ms, .inl (cI, 2, .inl st)), (mw, .inl (cI, 2, .inl lw)), (mq, .inl (cB, 1000, .inl wq))] H := hP
                  have hD : va_D A [(y, .inr (5, [.int 0, .int (nI bi), .int (nI ne), .int (nI li), .int (nI sp), .int (nI q), .ref ms, .ref mw, .ref mu, .ref mc, .ref mn, .int en, .int (nI sz), .ref mr, .int (nI wa), .ref mq, .int la, .ref md, .int (nI (min (m0 + 1 + (wdt (rac pl m0))) wa)), .int (if wa < m0 + 1 + (wdt (rac pl m0)) then 1 else 0)])), (ms, .inl (cI, 2, .inl st)), (mw, .inl (cI, 2, .inl lw)), (mq, .inl (cB, 1000, .inl wq))] := hD
                  rw [if_neg (show ¬ wa < m0 + 1 + (wdt (rac pl m0)) by omega), show min (m0 + 1 + (wdt (rac pl m0))) wa = m0 + 1 + (wdt (rac pl m0)) by omega] at hP hD
                  have hP : va_P D CLS [(y, .inr (5, [.int 0, .int (nI bi), .int (nI ne), .int (nI li), .int (nI sp), .int (nI q), .ref ms, .ref mw, .ref mu, .ref mc, .ref mn, .int en, .int (nI sz), .ref mr, .int (nI wa), .ref mq, .int la, .ref md, .int (nI (m0 + 1 + wdt (rac pl m0))), .int 0])), (ms, .inl (cI, 2, .inl st)), (mw, .inl (cI, 2, .inl lw)), (mq, .inl (cB, 1000, .inl wq))] H := hP
                  have hD : va_D A [(y, .inr (5, [.int 0, .int (nI bi), .int (nI ne), .int (nI li), .int (nI sp), .int (nI q), .ref ms, .ref mw, .ref mu, .ref mc, .ref mn, .int en, .int (nI sz), .ref mr, .int (nI wa), .ref mq, .int la, .ref md, .int (nI (m0 + 1 + wdt (rac pl m0))), .int 0])), (ms, .inl (cI, 2, .inl st)), (mw, .inl (cI, 2, .inl lw)), (mq, .inl (cB, 1000, .inl wq))] := hD
                  refine lv_istore (lv' := [(7, .int (bnum (mbt wq wa) (m0 + 1) (wdt (rac pl m0)))), (6, .int (nI (wdt (rac pl m0)))), (5, .int 0), (4, .int 1), (3, .int (nI (rac pl m0))), (2, .int (nI (rrc n0 pl m0))), (0, .ref y), (1, .int (nI n0))]) hx hb d_M_readRun_148 hl (by decide) rfl (fun ls hl => ?_)
                  refine lv_aload_n hx hb d_M_readRun_150 rfl (lv_at hl 6 rfl) ?_
                  refine va_get (D := D) (ci := 5) (v := .int 0) (C := R_M) (T := T_M) (N := 20) hx hb hg in_M hown hK hP 0 rfl rfl 19 (by decide) (hg _ gw_543) (fun _ h9 => h9) rfl d_M_readRun_151 ?_
                  refine lv_if_ne (tgt := 174) hx hb d_M_readRun_154 (by decide) (fun c_7 => ?_) (fun c_7 => ?_)
                  · skip
                    exact absurd rfl c_7
                  · skip
                    refine lv_iload hx hb d_M_readRun_157 (lv_at hl 0 rfl) ?_
                    refine lv_iload_n hx hb d_M_readRun_159 rfl (lv_at hl 5 rfl) ?_
                    refine lv_icmp_lt (tgt := 174) hx hb d_M_readRun_160 (by decide) (fun c_8 => ?_) (fun c_8 => ?_)
                    · skip
                      exact absurd c_8 hmr
                    · skip
                      refine lv_aload_n hx hb d_M_readRun_163 rfl (lv_at hl 6 rfl) ?_
                      refine lv_aload_n hx hb d_M_readRun_164 rfl (lv_at hl 6 rfl) ?_
                      refine va_get (D := D) (ci := 5) (v := .int (nI (m0 + 1 + wdt (rac pl m0)))) (C := R_M) (T := T_M) (N := 20) hx hb hg in_M hown hK hP 0 rfl rfl 18 (by decide) (hg _ gw_542) (fun _ h9 => h9) rfl d_M_readRun_165 ?_
                      have hPc := hP.sub (ws' := [(y, .inr (5, [.int 0, .int (nI bi), .int (nI ne), .int (nI li), .int (nI sp), .int (nI q), .ref ms, .ref mw, .ref mu, .ref mc, .ref mn, .int en, .int (nI sz), .ref mr, .int (nI wa), .ref mq, .int la, .ref md, .int (nI (m0 + 1 + wdt (rac pl m0))), .int 0])), (mq, .inl (cB, 1000, .inl wq))]) [0, 3] rfl
                      have hDc := hD.sub (ws' := [(y, .inr (5, [.int 0, .int (nI bi), .int (nI ne), .int (nI li), .int (nI sp), .int (nI q), .ref ms, .ref mw, .ref mu, .ref mc, .ref mn, .int en, .int (nI sz), .ref mr, .int (nI wa), .ref mq, .int la, .ref md, .int (nI (m0 + 1 + wdt (rac pl m0))), .int 0])), (mq, .inl (cB, 1000, .inl wq))]) [0, 3] (by decide) rfl
                      have hKc := hK.sub (tys' := [(cB, .byte)]) [0] rfl
                      refine mcv (va_runV (As := [.int (nI (m0 + 1 + wdt (rac pl m0)))]) (rest := []) ⟨hx, hb, hml, hown, hg⟩ (c_M_go l D y ms mw mu mc mn mr mq md bi ne li sp q sz wa 0 en la (nI (m0 + 1 + wdt (rac pl m0))) 0 cB wq (m0 + 1 + wdt (rac pl m0)) hwa (by omega) hqb) (cwV 1 hg (gV gw_686 gw_688 gs_28 gw_7 gw_689) rfl rfl rfl (by decide +kernel) ⟨Nat.le_of_ble_eq_true rfl, Nat.le_of_ble_eq_true rfl⟩) ⟨fun a U g mk q => by obtain ⟨q0, qP, qK, qD⟩ := q; exact ⟨q0, qP, va_K.moved (u := U) (U := U.calling g mk a) (Vm.Alike.refl U.vm) qK, qD⟩, va_recv hKc hPc (ci := 5) (q0 := 0) rfl rfl, fun U hU hW => ⟨rfl, by rw [hU]; exact hPc, va_K.moved hW.alike hKc, hDc.weaken (fun _ _ _ _ => trivial)⟩⟩ rfl rfl hl.1 rfl (lv_room (Nat.le_of_ble_eq_true rfl)) d_M_readRun_168 (⟨Nat.le_of_ble_eq_true rfl, Nat.le_of_ble_eq_true rfl⟩)) hS hP hD [0, 3] rfl rfl rfl (fun H locs hP hD hS => ?_)
                      have hP : va_P D CLS [(y, .inr (5, [.int 0, .int (nI bi), .int (nI ne), .int (nI li), .int (nI sp), .int (nI q), .ref ms, .ref mw, .ref mu, .ref mc, .ref mn, .int en, .int (nI sz), .ref mr, .int (nI (wa - (m0 + 1 + wdt (rac pl m0)))), .ref mq, .int la, .ref md, .int (nI (m0 + 1 + wdt (rac pl m0))), .int 0])), (ms, .inl (cI, 2, .inl st)), (mw, .inl (cI, 2, .inl lw)), (mq, .inl (cB, 1000, .inl (gof wq (m0 + 1 + wdt (rac pl m0)) (wa - (m0 + 1 + wdt (rac pl m0))))))] H := hP
                      have hD : va_D A [(y, .inr (5, [.int 0, .int (nI bi), .int (nI ne), .int (nI li), .int (nI sp), .int (nI q), .ref ms, .ref mw, .ref mu, .ref mc, .ref mn, .int en, .int (nI sz), .ref mr, .int (nI (wa - (m0 + 1 + wdt (rac pl m0)))), .ref mq, .int la, .ref md, .int (nI (m0 + 1 + wdt (rac pl m0))), .int 0])), (ms, .inl (cI, 2, .inl st)), (mw, .inl (cI, 2, .inl lw)), (mq, .inl (cB, 1000, .inl (gof wq (m0 + 1 + wdt (rac pl m0)) (wa - (m0 + 1 + wdt (rac pl m0))))))] := hD
                      refine lv_bipush (v := (-2)) hx hb d_M_readRun_171 (by decide) ?_
                      exact W.iret (v := (-2)) hx hb hr (fun t ht hW => ⟨rfl, by rw [ht]; exact hP, (hAe ▸ hS).F ht⟩) (hAe ▸ hS).2.2 d_M_readRun_173
                · skip
                  exact absurd c_6 (by decide)
          | succ d ih =>
            intro j hj H locs hP hD hS ls hl
            have hwj := wdt_le (rac pl j) (rac_lt hpl j)
            have hpj := pw15 hwj
            have hrj := rrc_le n0 pl j
            have hlj := rac_lt hpl j
            refine lv_iload hx hb d_M_readRun_60 (lv_at hl 2 rfl) ?_
            refine lv_if_eq (tgt := 200) hx hb d_M_readRun_62 (by decide) (fun c_9 => ?_) (fun c_9 => ?_)
            · skip
              exact absurd c_9 (by decide)
            · skip
              refine lv_aload_n hx hb d_M_readRun_65 rfl (lv_at hl 5 rfl) ?_
              refine va_get (D := D) (ci := 5) (v := .int 0) (C := R_M) (T := T_M) (N := 20) hx hb hg in_M hown hK hP 0 rfl rfl 19 (by decide) (hg _ gw_543) (fun _ h9 => h9) rfl d_M_readRun_66 ?_
              refine lv_if_ne (tgt := 200) hx hb d_M_readRun_69 (by decide) (fun c_10 => ?_) (fun c_10 => ?_)
              · skip
                exact absurd rfl c_10
              · skip
                refine lv_iload_n hx hb d_M_readRun_72 rfl (lv_at hl 3 rfl) ?_
                have hPc := hP.sub (ws' := []) [] rfl
                have hKc := hK.sub (tys' := []) [] rfl
                refine pci (va_runS (As := [.int (nI (rac pl j))]) (rest := []) ⟨hx, hb, hml, hown, hg⟩ (c_M_widthOf l D (rac pl j) (rac_lt hpl j)) (va_cwS 1 hg (gS gw_619 gw_620 gw_7 gw_621) rfl rfl rfl (by decide +kernel) ⟨Nat.le_of_ble_eq_true rfl, Nat.le_of_ble_eq_true rfl⟩) ⟨fun a U g mk q => by obtain ⟨q0, qP, qK⟩ := q; exact ⟨q0, qP, va_K.moved (u := U) (U := U.calling g mk a) (Vm.Alike.refl U.vm) qK⟩, fun U hU hW => ⟨rfl, by rw [hU]; exact hPc, va_K.moved hW.alike hKc⟩⟩ rfl rfl hl.1 rfl (lv_room (Nat.le_of_ble_eq_true rfl)) d_M_readRun_73 (⟨Nat.le_of_ble_eq_true rfl, Nat.le_of_ble_eq_true rfl⟩)) ?_
                refine lv_istore (lv' := [(6, .int (nI (wdt (rac pl j)))), (5, .int 0), (4, .int 1), (3, .int (nI (rac pl j))), (2, .int (nI (rrc n0 pl j))), (0, .ref y), (1, .int (nI n0))]) hx hb d_M_readRun_76 hl (by decide) rfl (fun ls hl => ?_)
                refine lv_aload_n hx hb d_M_readRun_78 rfl (lv_at hl 5 rfl) ?_
                have hPc := hP.sub (ws' := [(y, .inr (5, [.int 0, .int (nI bi), .int (nI ne), .int (nI li), .int (nI sp), .int (nI q), .ref ms, .ref mw, .ref mu, .ref mc, .ref mn, .int en, .int (nI sz), .ref mr, .int (nI wa), .ref mq, .int la, .ref md, .int (nI j), .int 0])), (mq, .inl (cB, 1000, .inl wq))]) [0, 3] rfl
                have hDc := hD.sub (ws' := [(y, .inr (5, [.int 0, .int (nI bi), .int (nI ne), .int (nI li), .int (nI sp), .int (nI q), .ref ms, .ref mw, .ref mu, .ref mc, .ref mn, .int en, .int (nI sz), .ref mr, .int (nI wa), .ref mq, .int la, .ref md, .int (nI j), .int 0])), (mq, .inl (cB, 1000, .inl wq))]) [0, 3] (by decide) rfl
                have hKc := hK.sub (tys' := [(cB, .byte)]) [0] rfl
                refine mci (va_runV (As := []) (rest := []) ⟨hx, hb, hml, hown, hg⟩ (c_M_next l D y ms mw mu mc mn mr mq md bi ne li sp q sz wa 0 en la at0 0 cB wq j hwa (by omega)) (cwV 0 hg (gV gw_678 gw_680 gs_26 gw_7 gw_681) rfl rfl rfl (by decide +kernel) ⟨Nat.le_of_ble_eq_true rfl, Nat.le_of_ble_eq_true rfl⟩) ⟨fun a U g mk q => by obtain ⟨q0, qP, qK, qD⟩ := q; exact ⟨q0, qP, va_K.moved (u := U) (U := U.calling g mk a) (Vm.Alike.refl U.vm) qK, qD⟩, va_recv hKc hPc (ci := 5) (q0 := 0) rfl rfl, fun U hU hW => ⟨rfl, by rw [hU]; exact hPc, va_K.moved hW.alike hKc, hDc.weaken (fun _ _ _ _ => trivial)⟩⟩ rfl rfl hl.1 rfl (lv_room (Nat.le_of_ble_eq_true rfl)) d_M_readRun_79 (⟨Nat.le_of_ble_eq_true rfl, Nat.le_of_ble_eq_true rfl⟩)) hS hP hD [0, 3] rfl rfl rfl (fun H locs hP hD hS => ?_)
                have hP : va_P D CLS [(y, .inr (5, [.int 0, .int (nI bi), .int (nI ne), .int (nI li), .int (nI sp), .int (nI q), .ref ms, .ref mw, .ref mu, .ref mc, .ref mn, .int en, .int (nI sz), .ref mr, .int (nI wa), .ref mq, .int la, .ref md, .int (nI (j + 1)), .int 0])), (ms, .inl (cI, 2, .inl st)), (mw, .inl (cI, 2, .inl lw)), (mq, .inl (cB, 1000, .inl wq))] H := hP
                have hD : va_D A [(y, .inr (5, [.int 0, .int (nI bi), .int (nI ne), .int (nI li), .int (nI sp), .int (nI q), .ref ms, .ref mw, .ref mu, .ref mc, .ref mn, .int en, .int (nI sz), .ref mr, .int (nI wa), .ref mq, .int la, .ref md, .int (nI (j + 1)), .int 0])), (ms, .inl (cI, 2, .inl st)), (mw, .inl (cI, 2, .inl lw)), (mq, .inl (cB, 1000, .inl wq))] := hD
                refine tpi (y := 1) (hmb j (by omega)) ?_
                refine lv_iconst (v := 1) hx hb d_M_readRun_82 (by decide) ?_
                refine lv_icmp_ne (tgt := 142) hx hb d_M_readRun_83 (by decide) (fun c_11 => ?_) (fun c_11 => ?_)
                · skip
                  exact absurd rfl c_11
                · skip
                  refine lv_iload hx hb d_M_readRun_86 (lv_at hl 0 rfl) ?_
                  have hPc := hP.sub (ws' := []) [] rfl
                  have hKc := hK.sub (tys' := []) [] rfl
                  refine pci (va_runS (As := [.int (nI (wdt (rac pl j)))]) (rest := []) ⟨hx, hb, hml, hown, hg⟩ (c_M_power l D (wdt (rac pl j)) (by omega)) (va_cwS 1 hg (gS gw_517 gw_518 gw_7 gw_519) rfl rfl rfl (by decide +kernel) ⟨Nat.le_of_ble_eq_true rfl, Nat.le_of_ble_eq_true rfl⟩) ⟨fun a U g mk q => by obtain ⟨q0, qP, qK⟩ := q; exact ⟨q0, qP, va_K.moved (u := U) (U := U.calling g mk a) (Vm.Alike.refl U.vm) qK⟩, fun U hU hW => ⟨rfl, by rw [hU]; exact hPc, va_K.moved hW.alike hKc⟩⟩ rfl rfl hl.1 rfl (lv_room (Nat.le_of_ble_eq_true rfl)) d_M_readRun_88 (⟨Nat.le_of_ble_eq_true rfl, Nat.le_of_ble_eq_true rfl⟩)) ?_
                  refine lv_iload_n hx hb d_M_readRun_91 rfl (lv_at hl 4 rfl) ?_
                  refine lv_icmp_gt (tgt := 126) hx hb d_M_readRun_92 (by decide) (fun c_12 => ?_) (fun c_12 => ?_)
                  · skip
                    exact absurd ((nI_ltI (by omega) (by omega)).mp c_12) (by have := hm1 j (by omega); omega)
                  · skip
                    have hmj := hm1 j (by omega)
                    refine lv_iload_n hx hb d_M_readRun_95 rfl (lv_at hl 4 rfl) ?_
                    refine lv_iload hx hb d_M_readRun_96 (lv_at hl 0 rfl) ?_
                    have hPc := hP.sub (ws' := []) [] rfl
                    have hKc := hK.sub (tys' := []) [] rfl
                    refine pci (va_runS (As := [.int (nI (wdt (rac pl j)))]) (rest := [.int (nI (rrc n0 pl j))]) ⟨hx, hb, hml, hown, hg⟩ (c_M_power l D (wdt (rac pl j)) (by omega)) (va_cwS 1 hg (gS gw_517 gw_518 gw_7 gw_519) rfl rfl rfl (by decide +kernel) ⟨Nat.le_of_ble_eq_true rfl, Nat.le_of_ble_eq_true rfl⟩) ⟨fun a U g mk q => by obtain ⟨q0, qP, qK⟩ := q; exact ⟨q0, qP, va_K.moved (u := U) (U := U.calling g mk a) (Vm.Alike.refl U.vm) qK⟩, fun U hU hW => ⟨rfl, by rw [hU]; exact hPc, va_K.moved hW.alike hKc⟩⟩ rfl rfl hl.1 rfl (lv_room (Nat.le_of_ble_eq_true rfl)) d_M_readRun_98 (⟨Nat.le_of_ble_eq_true rfl, Nat.le_of_ble_eq_true rfl⟩)) ?_
                    refine lv_isub hx hb d_M_readRun_101 ?_
                    refine tpi (y := nI (rrc n0 pl (j + 1))) (pk_sub (by omega)) ?_
                    refine lv_istore_n (lv' := [(2, .int (nI (rrc n0 pl (j + 1)))), (6, .int (nI (wdt (rac pl j)))), (5, .int 0), (4, .int 1), (3, .int (nI (rac pl j))), (0, .ref y), (1, .int (nI n0))]) hx hb d_M_readRun_102 rfl hl (by decide) rfl (fun ls hl => ?_)
                    refine lv_iload_n hx hb d_M_readRun_103 rfl (lv_at hl 4 rfl) ?_
                    refine lv_bipush (v := 31) hx hb d_M_readRun_104 (by decide) ?_
                    refine lv_icmp_ge (tgt := 115) hx hb d_M_readRun_106 (by decide) (fun c_13 => ?_) (fun c_13 => ?_)
                    · skip
                      have h31 := (nI_leI (a := 31) (by omega) (by omega)).mp c_13
                      refine lv_iload_n hx hb d_M_readRun_115 rfl (lv_at hl 4 rfl) ?_
                      refine tpi (y := nI (rac pl (j + 1))) (congrArg nI (show rac pl j = upp (rac pl j) from (if_neg (by omega)).symm)) ?_
                      refine lv_istore_n (lv' := [(3, .int (nI (rac pl (j + 1)))), (2, .int (nI (rrc n0 pl (j + 1)))), (6, .int (nI (wdt (rac pl j)))), (5, .int 0), (4, .int 1), (0, .ref y), (1, .int (nI n0))]) hx hb d_M_readRun_116 rfl hl (by decide) rfl (fun ls hl => ?_)
                      refine lv_iload_n hx hb d_M_readRun_117 rfl (lv_at hl 0 rfl) ?_
                      have hPc := hP.sub (ws' := []) [] rfl
                      have hKc := hK.sub (tys' := []) [] rfl
                      refine pci (va_runS (As := [.int (nI (rac pl (j + 1)))]) (rest := []) ⟨hx, hb, hml, hown, hg⟩ (c_M_widthOf l D (rac pl (j + 1)) (rac_lt hpl (j + 1))) (va_cwS 1 hg (gS gw_619 gw_620 gw_7 gw_621) rfl rfl rfl (by decide +kernel) ⟨Nat.le_of_ble_eq_true rfl, Nat.le_of_ble_eq_true rfl⟩) ⟨fun a U g mk q => by obtain ⟨q0, qP, qK⟩ := q; exact ⟨q0, qP, va_K.moved (u := U) (U := U.calling g mk a) (Vm.Alike.refl U.vm) qK⟩, fun U hU hW => ⟨rfl, by rw [hU]; exact hPc, va_K.moved hW.alike hKc⟩⟩ rfl rfl hl.1 rfl (lv_room (Nat.le_of_ble_eq_true rfl)) d_M_readRun_118 (⟨Nat.le_of_ble_eq_true rfl, Nat.le_of_ble_eq_true rfl⟩)) ?_
                      refine lv_istore (lv' := [(6, .int (nI (wdt (rac pl (j + 1))))), (3, .int (nI (rac pl (j + 1)))), (2, .int (nI (rrc n0 pl (j + 1)))), (5, .int 0), (4, .int 1), (0, .ref y), (1, .int (nI n0))]) hx hb d_M_readRun_121 hl (by decide) rfl (fun ls hl => ?_)
                      refine lv_goto (tgt := 128) hx hb d_M_readRun_123 (by decide) ?_
                      refine lv_iload_n hx hb d_M_readRun_128 rfl (lv_at hl 2 rfl) ?_
                      refine lv_if_le (tgt := 136) hx hb d_M_readRun_129 (by decide) (fun c_14 => ?_) (fun c_14 => ?_)
                      · skip
                        exact absurd c_14 (nI_nle (by show 0 < rrc n0 pl j - 2 ^ wdt (rac pl j); omega) (by have := rrc_le n0 pl (j + 1); omega))
                      · skip
                        refine lv_iconst (v := 1) hx hb d_M_readRun_132 (by decide) ?_
                        refine lv_goto (tgt := 137) hx hb d_M_readRun_133 (by decide) ?_
                        refine lv_istore (lv' := [(4, .int 1), (6, .int (nI (wdt (rac pl (j + 1))))), (3, .int (nI (rac pl (j + 1)))), (2, .int (nI (rrc n0 pl (j + 1)))), (5, .int 0), (0, .ref y), (1, .int (nI n0))]) hx hb d_M_readRun_137 hl (by decide) rfl (fun ls hl => ?_)
                        refine lv_goto (tgt := 60) hx hb d_M_readRun_139 (by decide) ?_
                        exact ih (j + 1) (by omega) H locs hP hD hS ls (lv_sub hl [1, 4, 0, 2, 3, 5, 6] rfl)
                    · skip
                      have h31 : ¬ 31 ≤ rac pl j := fun q9 => c_13 ((nI_leI (a := 31) (by omega) (by omega)).mpr q9)
                      refine lv_iload_n hx hb d_M_readRun_109 rfl (lv_at hl 4 rfl) ?_
                      refine lv_iconst (v := 1) hx hb d_M_readRun_110 (by decide) ?_
                      refine lv_iadd hx hb d_M_readRun_111 ?_
                      refine tpi (y := nI (rac pl (j + 1))) ((nI_1 _).trans (congrArg nI (show rac pl j + 1 = upp (rac pl j) from (if_pos (by omega)).symm))) ?_
                      refine lv_goto (tgt := 116) hx hb d_M_readRun_112 (by decide) ?_
                      refine lv_istore_n (lv' := [(3, .int (nI (rac pl (j + 1)))), (2, .int (nI (rrc n0 pl (j + 1)))), (6, .int (nI (wdt (rac pl j)))), (5, .int 0), (4, .int 1), (0, .ref y), (1, .int (nI n0))]) hx hb d_M_readRun_116 rfl hl (by decide) rfl (fun ls hl => ?_)
                      refine lv_iload_n hx hb d_M_readRun_117 rfl (lv_at hl 0 rfl) ?_
                      have hPc := hP.sub (ws' := []) [] rfl
                      have hKc := hK.sub (tys' := []) [] rfl
                      refine pci (va_runS (As := [.int (nI (rac pl (j + 1)))]) (rest := []) ⟨hx, hb, hml, hown, hg⟩ (c_M_widthOf l D (rac pl (j + 1)) (rac_lt hpl (j + 1))) (va_cwS 1 hg (gS gw_619 gw_620 gw_7 gw_621) rfl rfl rfl (by decide +kernel) ⟨Nat.le_of_ble_eq_true rfl, Nat.le_of_ble_eq_true rfl⟩) ⟨fun a U g mk q => by obtain ⟨q0, qP, qK⟩ := q; exact ⟨q0, qP, va_K.moved (u := U) (U := U.calling g mk a) (Vm.Alike.refl U.vm) qK⟩, fun U hU hW => ⟨rfl, by rw [hU]; exact hPc, va_K.moved hW.alike hKc⟩⟩ rfl rfl hl.1 rfl (lv_room (Nat.le_of_ble_eq_true rfl)) d_M_readRun_118 (⟨Nat.le_of_ble_eq_true rfl, Nat.le_of_ble_eq_true rfl⟩)) ?_
                      refine lv_istore (lv' := [(6, .int (nI (wdt (rac pl (j + 1))))), (3, .int (nI (rac pl (j + 1)))), (2, .int (nI (rrc n0 pl (j + 1)))), (5, .int 0), (4, .int 1), (0, .ref y), (1, .int (nI n0))]) hx hb d_M_readRun_121 hl (by decide) rfl (fun ls hl => ?_)
                      refine lv_goto (tgt := 128) hx hb d_M_readRun_123 (by decide) ?_
                      refine lv_iload_n hx hb d_M_readRun_128 rfl (lv_at hl 2 rfl) ?_
                      refine lv_if_le (tgt := 136) hx hb d_M_readRun_129 (by decide) (fun c_15 => ?_) (fun c_15 => ?_)
                      · skip
                        exact absurd c_15 (nI_nle (by show 0 < rrc n0 pl j - 2 ^ wdt (rac pl j); omega) (by have := rrc_le n0 pl (j + 1); omega))
                      · skip
                        refine lv_iconst (v := 1) hx hb d_M_readRun_132 (by decide) ?_
                        refine lv_goto (tgt := 137) hx hb d_M_readRun_133 (by decide) ?_
                        refine lv_istore (lv' := [(4, .int 1), (6, .int (nI (wdt (rac pl (j + 1))))), (3, .int (nI (rac pl (j + 1)))), (2, .int (nI (rrc n0 pl (j + 1)))), (5, .int 0), (0, .ref y), (1, .int (nI n0))]) hx hb d_M_readRun_137 hl (by decide) rfl (fun ls hl => ?_)
                        refine lv_goto (tgt := 60) hx hb d_M_readRun_139 (by decide) ?_
                        exact ih (j + 1) (by omega) H locs hP hD hS ls (lv_sub hl [1, 4, 0, 2, 3, 5, 6] rfl)
        exact loop m0 0 (by omega) H locs hP hD hS ls (lv_sub hl [0, 1, 2, 3, 4, 5, 6] rfl)
      · skip
        exact absurd (by decide) c_3
    · skip
      exact absurd (nI_le hn (by omega)) c_2
set_option maxHeartbeats 4000000 in
set_option maxRecDepth 100000 in
theorem c_M_readRunZG (l : Launch) (D : va_G) (y ms mw mu mc mn mr mq md bi ne li sp q sz wa : Nat) (th en la at0 lk : Int32) (cB cI : ClassId) (st lw wq : Nat → Int32) (pl n0 m0 : Nat) (hst : st 1 = nI pl) (hwa : wa ≤ 1000) (hqb : ∀ j, j < wa → wq j = 0 ∨ wq j = 1) (hpl : pl < 32) (hn1 : 1 ≤ n0) (hn : n0 ≤ 65535) (hm1 : ∀ j, j < m0 → 2 ^ wdt (rac pl j) < rrc n0 pl j) (hmb : ∀ j, j < m0 → wq j = 1) (hmh : m0 ≤ wa) (hmh2 : m0 < wa) (hz : wq m0 = 0) (hw : m0 + 1 + wdt (rac pl m0) ≤ wa) (hmr : bnum (mbt wq wa) (m0 + 1) (wdt (rac pl m0)) < nI (rrc n0 pl m0)) : Met l y_M_readRun (WSY y_M_readRun b_M_readRun 8 (some .int)) ({ frames := 2, cells := 0, slots := 0, locals := 50 }) (va_Pc [.ref y, .int (nI n0)] (fun U => va_P D CLS [(y, .inr (5, [.int th, .int (nI bi), .int (nI ne), .int (nI li), .int (nI sp), .int (nI q), .ref ms, .ref mw, .ref mu, .ref mc, .ref mn, .int en, .int (nI sz), .ref mr, .int (nI wa), .ref mq, .int la, .ref md, .int at0, .int lk])), (ms, .inl (cI, 2, .inl st)), (mw, .inl (cI, 2, .inl lw)), (mq, .inl (cB, 1000, .inl wq))] U.heap ∧ va_K D CLS [(cB, .byte), (cI, .int)] U ∧ va_D (fun _ => True) [(y, .inr (5, [.int th, .int (nI bi), .int (nI ne), .int (nI li), .int (nI sp), .int (nI q), .ref ms, .ref mw, .ref mu, .ref mc, .ref mn, .int en, .int (nI sz), .ref mr, .int (nI wa), .ref mq, .int la, .ref md, .int at0, .int lk])), (ms, .inl (cI, 2, .inl st)), (mw, .inl (cI, 2, .inl lw)), (mq, .inl (cB, 1000, .inl wq))])) (QM (some (.int (nI n0 - (nI (rrc n0 pl m0) - bnum (mbt wq wa) (m0 + 1) (wdt (rac pl m0)))))) [(y, .inr (5, [.int th, .int (nI bi), .int (nI ne), .int (nI li), .int (nI sp), .int (nI q), .ref ms, .ref mw, .ref mu, .ref mc, .ref mn, .int en, .int (nI sz), .ref mr, .int (nI wa), .ref mq, .int la, .ref md, .int at0, .int lk])), (ms, .inl (cI, 2, .inl st)), (mw, .inl (cI, 2, .inl lw)), (mq, .inl (cB, 1000, .inl wq))] [(y, .inr (5, [.int 0, .int (nI bi), .int (nI ne), .int (nI li), .int (nI sp), .int (nI q), .ref ms, .ref mw, .ref mu, .ref mc, .ref mn, .int 1, .int (nI sz), .ref mr, .int (nI (wa - (m0 + 1 + wdt (rac pl m0)))), .ref mq, .int la, .ref md, .int (nI (m0 + 1 + wdt (rac pl m0))), .int 0])), (ms, .inl (cI, 2, .inl (upd st 1 (nI (rac pl m0 - 1))))), (mw, .inl (cI, 2, .inl (upd lw 1 (nI (wdt (rac pl m0)))))), (mq, .inl (cB, 1000, .inl (gof wq (m0 + 1 + wdt (rac pl m0)) (wa - (m0 + 1 + wdt (rac pl m0))))))] D) 0 0 (ad [(y, .inr (5, [.int th, .int (nI bi), .int (nI ne), .int (nI li), .int (nI sp), .int (nI q), .ref ms, .ref mw, .ref mu, .ref mc, .ref mn, .int en, .int (nI sz), .ref mr, .int (nI wa), .ref mq, .int la, .ref md, .int at0, .int lk])), (ms, .inl (cI, 2, .inl st)), (mw, .inl (cI, 2, .inl lw)), (mq, .inl (cB, 1000, .inl wq))]) := by
  refine Met.ofW (cc := b_M_readRun) (maxL := 8) (ret := (some .int)) (by decide) rfl ?_
  intro p e s m args below meth c s₁ B hml hv
  obtain ⟨rfl, hP, hK, hD0⟩ := hv
  have hx := B.exec
  have hb := B.bytes
  have hr := B.returns
  have hts := atoms_spec (ws := WSY y_M_readRun b_M_readRun 8 (some .int)) B.pre
  have hg : ∀ w ∈ GW, w.before _ s = true := fun w h => hts w (List.mem_cons_of_mem _ h)
  have hown : s.vm.findClass "LineGolombModel" = some m.cls := findClass_of_methodNamed B.named
  have hlocks := B.notSynchronized
  obtain ⟨A, hAe⟩ : ∃ A, A = ad [(y, .inr (5, [.int th, .int (nI bi), .int (nI ne), .int (nI li), .int (nI sp), .int (nI q), .ref ms, .ref mw, .ref mu, .ref mc, .ref mn, .int en, .int (nI sz), .ref mr, .int (nI wa), .ref mq, .int la, .ref md, .int at0, .int lk])), (ms, .inl (cI, 2, .inl st)), (mw, .inl (cI, 2, .inl lw)), (mq, .inl (cB, 1000, .inl wq))] := ⟨_, rfl⟩
  have hD : va_D A [(y, .inr (5, [.int th, .int (nI bi), .int (nI ne), .int (nI li), .int (nI sp), .int (nI q), .ref ms, .ref mw, .ref mu, .ref mc, .ref mn, .int en, .int (nI sz), .ref mr, .int (nI wa), .ref mq, .int la, .ref md, .int at0, .int lk])), (ms, .inl (cI, 2, .inl st)), (mw, .inl (cI, 2, .inl lw)), (mq, .inl (cB, 1000, .inl wq))] := by rw [hAe]; exact va_D_ad hD0
  have hS : va_S A s.heap s.heap [] := va_S.rf
  have hl := lv_entry ([.ref y, .int (nI n0)]) (n := 8) (Nat.le_of_ble_eq_true rfl)
  rw [lg_entry_eq]
  generalize (lg_sl ([.ref y, .int (nI n0)]) ++ List.replicate (8 - (lg_sl ([.ref y, .int (nI n0)])).length) Slot.unset).toArray = ls at hl ⊢
  have hl : lv_has ls 8 [(0, .ref y), (1, .int (nI n0))] := hl
  have hwd := wdt_le (rac pl m0) (rac_lt hpl m0)
  have hrl := rrc_le n0 pl m0
  refine lv_aload_n hx hb d_M_readRun_0 rfl (lv_at hl 0 rfl) ?_
  refine lv_iload_n hx hb d_M_readRun_1 rfl (lv_at hl 1 rfl) ?_
  refine lv_iconst (v := 1) hx hb d_M_readRun_2 (by decide) ?_
  refine lv_icmp_lt (tgt := 12) hx hb d_M_readRun_3 (by decide) (fun c_1 => ?_) (fun c_1 => ?_)
  · skip
    exact absurd ((nI_ltI (b := 1) (by omega) (by omega)).mp c_1) (by omega)
  · skip
    refine lv_iload_n hx hb d_M_readRun_6 rfl (lv_at hl 1 rfl) ?_
    refine lv_ldc (v := 65535) hx hb hown (hg _ gw_618) d_M_readRun_7 ?_
    refine lv_icmp_le (tgt := 16) hx hb d_M_readRun_9 (by decide) (fun c_2 => ?_) (fun c_2 => ?_)
    · skip
      refine lv_iconst (v := 0) hx hb d_M_readRun_16 (by decide) ?_
      refine va_put (D := D) (ci := 5) (v := .int 0) (ty := .int) (C := R_M) (T := T_M) (N := 20) hx hb hg in_M ty_M tok_M nm_M hown hK hP hD hS 0 rfl rfl 0 (by decide) (hg _ gw_524) (fun _ h9 => h9) rfl (by decide +kernel) (rfl) (rfl) (Nat.le_of_ble_eq_true rfl) d_M_readRun_17 (fun H locs hP hD hS => ?_)
      have hP : va_P D CLS [(y, .inr (5, [.int 0, .int (nI bi), .int (nI ne), .int (nI li), .int (nI sp), .int (nI q), .ref ms, .ref mw, .ref mu, .ref mc, .ref mn, .int en, .int (nI sz), .ref mr, .int (nI wa), .ref mq, .int la, .ref md, .int at0, .int lk])), (ms, .inl (cI, 2, .inl st)), (mw, .inl (cI, 2, .inl lw)), (mq, .inl (cB, 1000, .inl wq))] H := hP
      have hD : va_D A [(y, .inr (5, [.int 0, .int (nI bi), .int (nI ne), .int (nI li), .int (nI sp), .int (nI q), .ref ms, .ref mw, .ref mu, .ref mc, .ref mn, .int en, .int (nI sz), .ref mr, .int (nI wa), .ref mq, .int la, .ref md, .int at0, .int lk])), (ms, .inl (cI, 2, .inl st)), (mw, .inl (cI, 2, .inl lw)), (mq, .inl (cB, 1000, .inl wq))] := hD
      refine lv_aload_n hx hb d_M_readRun_20 rfl (lv_at hl 0 rfl) ?_
      refine va_get (D := D) (ci := 5) (v := .int 0) (C := R_M) (T := T_M) (N := 20) hx hb hg in_M hown hK hP 0 rfl rfl 0 (by decide) (hg _ gw_524) (fun _ h9 => h9) rfl d_M_readRun_21 ?_
      refine lv_if_le (tgt := 29) hx hb d_M_readRun_24 (by decide) (fun c_3 => ?_) (fun c_3 => ?_)
      · skip
        refine lv_aload_n hx hb d_M_readRun_29 rfl (lv_at hl 0 rfl) ?_
        refine lv_iconst (v := 0) hx hb d_M_readRun_30 (by decide) ?_
        refine tpi (y := nI 0) (rfl) ?_
        refine va_put (D := D) (ci := 5) (v := .int (nI 0)) (ty := .int) (C := R_M) (T := T_M) (N := 20) hx hb hg in_M ty_M tok_M nm_M hown hK hP hD hS 0 rfl rfl 18 (by decide) (hg _ gw_542) (fun _ h9 => h9) rfl (by decide +kernel) (rfl) (rfl) (Nat.le_of_ble_eq_true rfl) d_M_readRun_31 (fun H locs hP hD hS => ?_)
        have hP : va_P D CLS [(y, .inr (5, [.int 0, .int (nI bi), .int (nI ne), .int (nI li), .int (nI sp), .int (nI q), .ref ms, .ref mw, .ref mu, .ref mc, .ref mn, .int en, .int (nI sz), .ref mr, .int (nI wa), .ref mq, .int la, .ref md, .int (nI 0), .int lk])), (ms, .inl (cI, 2, .inl st)), (mw, .inl (cI, 2, .inl lw)), (mq, .inl (cB, 1000, .inl wq))] H := hP
        have hD : va_D A [(y, .inr (5, [.int 0, .int (nI bi), .int (nI ne), .int (nI li), .int (nI sp), .int (nI q), .ref ms, .ref mw, .ref mu, .ref mc, .ref mn, .int en, .int (nI sz), .ref mr, .int (nI wa), .ref mq, .int la, .ref md, .int (nI 0), .int lk])), (ms, .inl (cI, 2, .inl st)), (mw, .inl (cI, 2, .inl lw)), (mq, .inl (cB, 1000, .inl wq))] := hD
        refine lv_aload_n hx hb d_M_readRun_34 rfl (lv_at hl 0 rfl) ?_
        refine lv_iconst (v := 0) hx hb d_M_readRun_35 (by decide) ?_
        refine va_put (D := D) (ci := 5) (v := .int 0) (ty := .boolean) (C := R_M) (T := T_M) (N := 20) hx hb hg in_M ty_M tok_M nm_M hown hK hP hD hS 0 rfl rfl 19 (by decide) (hg _ gw_543) (fun _ h9 => h9) rfl (by decide +kernel) (rfl) (rfl) (Nat.le_of_ble_eq_true rfl) d_M_readRun_36 (fun H locs hP hD hS => ?_)
        have hP : va_P D CLS [(y, .inr (5, [.int 0, .int (nI bi), .int (nI ne), .int (nI li), .int (nI sp), .int (nI q), .ref ms, .ref mw, .ref mu, .ref mc, .ref mn, .int en, .int (nI sz), .ref mr, .int (nI wa), .ref mq, .int la, .ref md, .int (nI 0), .int 0])), (ms, .inl (cI, 2, .inl st)), (mw, .inl (cI, 2, .inl lw)), (mq, .inl (cB, 1000, .inl wq))] H := hP
        have hD : va_D A [(y, .inr (5, [.int 0, .int (nI bi), .int (nI ne), .int (nI li), .int (nI sp), .int (nI q), .ref ms, .ref mw, .ref mu, .ref mc, .ref mn, .int en, .int (nI sz), .ref mr, .int (nI wa), .ref mq, .int la, .ref md, .int (nI 0), .int 0])), (ms, .inl (cI, 2, .inl st)), (mw, .inl (cI, 2, .inl lw)), (mq, .inl (cB, 1000, .inl wq))] := hD
        refine lv_iload_n hx hb d_M_readRun_39 rfl (lv_at hl 1 rfl) ?_
        refine lv_istore_n (lv' := [(2, .int (nI n0)), (0, .ref y), (1, .int (nI n0))]) hx hb d_M_readRun_40 rfl hl (by decide) rfl (fun ls hl => ?_)
        refine lv_aload_n hx hb d_M_readRun_41 rfl (lv_at hl 1 rfl) ?_
        refine va_get (D := D) (ci := 5) (v := .ref ms) (C := R_M) (T := T_M) (N := 20) hx hb hg in_M hown hK hP 0 rfl rfl 6 (by decide) (hg _ gw_530) (fun _ h9 => h9) rfl d_M_readRun_42 ?_
        refine lv_iconst (v := 1) hx hb d_M_readRun_45 (by decide) ?_
        refine va_iald hx hb hK hP 1 1 rfl rfl (vp_in_nI (n := 1) (by decide) (by decide)) d_M_readRun_46 ?_
        refine tpi (y := nI pl) (hst) ?_
        refine lv_istore_n (lv' := [(3, .int (nI pl)), (2, .int (nI n0)), (0, .ref y), (1, .int (nI n0))]) hx hb d_M_readRun_47 rfl hl (by decide) rfl (fun ls hl => ?_)
        refine lv_iconst (v := 1) hx hb d_M_readRun_48 (by decide) ?_
        refine lv_istore (lv' := [(4, .int 1), (3, .int (nI pl)), (2, .int (nI n0)), (0, .ref y), (1, .int (nI n0))]) hx hb d_M_readRun_49 hl (by decide) rfl (fun ls hl => ?_)
        refine lv_iconst (v := 0) hx hb d_M_readRun_51 (by decide) ?_
        refine lv_istore (lv' := [(5, .int 0), (4, .int 1), (3, .int (nI pl)), (2, .int (nI n0)), (0, .ref y), (1, .int (nI n0))]) hx hb d_M_readRun_52 hl (by decide) rfl (fun ls hl => ?_)
        refine lv_iload_n hx hb d_M_readRun_54 rfl (lv_at hl 2 rfl) ?_
        have hPc := hP.sub (ws' := []) [] rfl
        have hKc := hK.sub (tys' := []) [] rfl
        refine pci (va_runS (As := [.int (nI pl)]) (rest := []) ⟨hx, hb, hml, hown, hg⟩ (c_M_widthOf l D pl hpl) (va_cwS 1 hg (gS gw_619 gw_620 gw_7 gw_621) rfl rfl rfl (by decide +kernel) ⟨Nat.le_of_ble_eq_true rfl, Nat.le_of_ble_eq_true rfl⟩) ⟨fun a U g mk q => by obtain ⟨q0, qP, qK⟩ := q; exact ⟨q0, qP, va_K.moved (u := U) (U := U.calling g mk a) (Vm.Alike.refl U.vm) qK⟩, fun U hU hW => ⟨rfl, by rw [hU]; exact hPc, va_K.moved hW.alike hKc⟩⟩ rfl rfl hl.1 rfl (lv_room (Nat.le_of_ble_eq_true rfl)) d_M_readRun_55 (⟨Nat.le_of_ble_eq_true rfl, Nat.le_of_ble_eq_true rfl⟩)) ?_
        refine lv_istore (lv' := [(6, .int (nI (wdt pl))), (5, .int 0), (4, .int 1), (3, .int (nI pl)), (2, .int (nI n0)), (0, .ref y), (1, .int (nI n0))]) hx hb d_M_readRun_58 hl (by decide) rfl (fun ls hl => ?_)
        have loop : ∀ (d j : Nat), j + d = m0 → ∀ (H : Heap) (locs : List Loc), va_P D CLS [(y, .inr (5, [.int 0, .int (nI bi), .int (nI ne), .int (nI li), .int (nI sp), .int (nI q), .ref ms, .ref mw, .ref mu, .ref mc, .ref mn, .int en, .int (nI sz), .ref mr, .int (nI wa), .ref mq, .int la, .ref md, .int (nI j), .int 0])), (ms, .inl (cI, 2, .inl st)), (mw, .inl (cI, 2, .inl lw)), (mq, .inl (cB, 1000, .inl wq))] H → va_D A [(y, .inr (5, [.int 0, .int (nI bi), .int (nI ne), .int (nI li), .int (nI sp), .int (nI q), .ref ms, .ref mw, .ref mu, .ref mc, .ref mn, .int en, .int (nI sz), .ref mr, .int (nI wa), .ref mq, .int la, .ref md, .int (nI j), .int 0])), (ms, .inl (cI, 2, .inl st)), (mw, .inl (cI, 2, .inl lw)), (mq, .inl (cB, 1000, .inl wq))] → va_S A s.heap H locs → ∀ (ls : Array Slot), lv_has ls 8 [(6, .int (nI (wdt (rac pl j)))), (5, .int 0), (4, .int 1), (3, .int (nI (rac pl j))), (2, .int (nI (rrc n0 pl j))), (0, .ref y), (1, .int (nI n0))] → W p l e (headSpec (WSY y_M_readRun b_M_readRun 8 (some .int)) ({ frames := 2, cells := 0, slots := 0, locals := 50 })).room s m ([.ref y, .int (nI n0)] : List Value).toArray below meth c H locs 0 0 (MQ below (QM (some (.int (nI n0 - (nI (rrc n0 pl m0) - bnum (mbt wq wa) (m0 + 1) (wdt (rac pl m0)))))) [(y, .inr (5, [.int th, .int (nI bi), .int (nI ne), .int (nI li), .int (nI sp), .int (nI q), .ref ms, .ref mw, .ref mu, .ref mc, .ref mn, .int en, .int (nI sz), .ref mr, .int (nI wa), .ref mq, .int la, .ref md, .int at0, .int lk])), (ms, .inl (cI, 2, .inl st)), (mw, .inl (cI, 2, .inl lw)), (mq, .inl (cB, 1000, .inl wq))] [(y, .inr (5, [.int 0, .int (nI bi), .int (nI ne), .int (nI li), .int (nI sp), .int (nI q), .ref ms, .ref mw, .ref mu, .ref mc, .ref mn, .int 1, .int (nI sz), .ref mr, .int (nI (wa - (m0 + 1 + wdt (rac pl m0)))), .ref mq, .int la, .ref md, .int (nI (m0 + 1 + wdt (rac pl m0))), .int 0])), (ms, .inl (cI, 2, .inl (upd st 1 (nI (rac pl m0 - 1))))), (mw, .inl (cI, 2, .inl (upd lw 1 (nI (wdt (rac pl m0)))))), (mq, .inl (cB, 1000, .inl (gof wq (m0 + 1 + wdt (rac pl m0)) (wa - (m0 + 1 + wdt (rac pl m0))))))] D) ([.ref y, .int (nI n0)] : List Value).toArray s 0 0 (ad [(y, .inr (5, [.int th, .int (nI bi), .int (nI ne), .int (nI li), .int (nI sp), .int (nI q), .ref ms, .ref mw, .ref mu, .ref mc, .ref mn, .int en, .int (nI sz), .ref mr, .int (nI wa), .ref mq, .int la, .ref md, .int at0, .int lk])), (ms, .inl (cI, 2, .inl st)), (mw, .inl (cI, 2, .inl lw)), (mq, .inl (cB, 1000, .inl wq))])) (F0 m 60 ls []) := by
          intro d
          induction d with
          | zero =>
            intro j hj H locs hP hD hS ls hl
            obtain rfl : m0 = j := by omega
            have hwj := wdt_le (rac pl m0) (rac_lt hpl m0)
            have hpj := pw15 hwj
            have hrj := rrc_le n0 pl m0
            have hlj := rac_lt hpl m0
            refine lv_iload hx hb d_M_readRun_60 (lv_at hl 2 rfl) ?_
            refine lv_if_eq (tgt := 200) hx hb d_M_readRun_62 (by decide) (fun c_4 => ?_) (fun c_4 => ?_)
            · skip
              exact absurd c_4 (by decide)
            · skip
              refine lv_aload_n hx hb d_M_readRun_65 rfl (lv_at hl 5 rfl) ?_
              refine va_get (D := D) (ci := 5) (v := .int 0) (C := R_M) (T := T_M) (N := 20) hx hb hg in_M hown hK hP 0 rfl rfl 19 (by decide) (hg _ gw_543) (fun _ h9 => h9) rfl d_M_readRun_66 ?_
              refine lv_if_ne (tgt := 200) hx hb d_M_readRun_69 (by decide) (fun c_5 => ?_) (fun c_5 => ?_)
              · skip
                exact absurd rfl c_5
              · skip
                refine lv_iload_n hx hb d_M_readRun_72 rfl (lv_at hl 3 rfl) ?_
                have hPc := hP.sub (ws' := []) [] rfl
                have hKc := hK.sub (tys' := []) [] rfl
                refine pci (va_runS (As := [.int (nI (rac pl m0))]) (rest := []) ⟨hx, hb, hml, hown, hg⟩ (c_M_widthOf l D (rac pl m0) (rac_lt hpl m0)) (va_cwS 1 hg (gS gw_619 gw_620 gw_7 gw_621) rfl rfl rfl (by decide +kernel) ⟨Nat.le_of_ble_eq_true rfl, Nat.le_of_ble_eq_true rfl⟩) ⟨fun a U g mk q => by obtain ⟨q0, qP, qK⟩ := q; exact ⟨q0, qP, va_K.moved (u := U) (U := U.calling g mk a) (Vm.Alike.refl U.vm) qK⟩, fun U hU hW => ⟨rfl, by rw [hU]; exact hPc, va_K.moved hW.alike hKc⟩⟩ rfl rfl hl.1 rfl (lv_room (Nat.le_of_ble_eq_true rfl)) d_M_readRun_73 (⟨Nat.le_of_ble_eq_true rfl, Nat.le_of_ble_eq_true rfl⟩)) ?_
                refine lv_istore (lv' := [(6, .int (nI (wdt (rac pl m0)))), (5, .int 0), (4, .int 1), (3, .int (nI (rac pl m0))), (2, .int (nI (rrc n0 pl m0))), (0, .ref y), (1, .int (nI n0))]) hx hb d_M_readRun_76 hl (by decide) rfl (fun ls hl => ?_)
                refine lv_aload_n hx hb d_M_readRun_78 rfl (lv_at hl 5 rfl) ?_
                have hPc := hP.sub (ws' := [(y, .inr (5, [.int 0, .int (nI bi), .int (nI ne), .int (nI li), .int (nI sp), .int (nI q), .ref ms, .ref mw, .ref mu, .ref mc, .ref mn, .int en, .int (nI sz), .ref mr, .int (nI wa), .ref mq, .int la, .ref md, .int (nI m0), .int 0])), (mq, .inl (cB, 1000, .inl wq))]) [0, 3] rfl
                have hDc := hD.sub (ws' := [(y, .inr (5, [.int 0, .int (nI bi), .int (nI ne), .int (nI li), .int (nI sp), .int (nI q), .ref ms, .ref mw, .ref mu, .ref mc, .ref mn, .int en, .int (nI sz), .ref mr, .int (nI wa), .ref mq, .int la, .ref md, .int (nI m0), .int 0])), (mq, .inl (cB, 1000, .inl wq))]) [0, 3] (by decide) rfl
                have hKc := hK.sub (tys' := [(cB, .byte)]) [0] rfl
                refine mci (va_runV (As := []) (rest := []) ⟨hx, hb, hml, hown, hg⟩ (c_M_next l D y ms mw mu mc mn mr mq md bi ne li sp q sz wa 0 en la at0 0 cB wq m0 hwa (by omega)) (cwV 0 hg (gV gw_678 gw_680 gs_26 gw_7 gw_681) rfl rfl rfl (by decide +kernel) ⟨Nat.le_of_ble_eq_true rfl, Nat.le_of_ble_eq_true rfl⟩) ⟨fun a U g mk q => by obtain ⟨q0, qP, qK, qD⟩ := q; exact ⟨q0, qP, va_K.moved (u := U) (U := U.calling g mk a) (Vm.Alike.refl U.vm) qK, qD⟩, va_recv hKc hPc (ci := 5) (q0 := 0) rfl rfl, fun U hU hW => ⟨rfl, by rw [hU]; exact hPc, va_K.moved hW.alike hKc, hDc.weaken (fun _ _ _ _ => trivial)⟩⟩ rfl rfl hl.1 rfl (lv_room (Nat.le_of_ble_eq_true rfl)) d_M_readRun_79 (⟨Nat.le_of_ble_eq_true rfl, Nat.le_of_ble_eq_true rfl⟩)) hS hP hD [0, 3] rfl rfl rfl (fun H locs hP hD hS => ?_)
                have hP : va_P D CLS [(y, .inr (5, [.int 0, .int (nI bi), .int (nI ne), .int (nI li), .int (nI sp), .int (nI q), .ref ms, .ref mw, .ref mu, .ref mc, .ref mn, .int en, .int (nI sz), .ref mr, .int (nI wa), .ref mq, .int la, .ref md, .int (nI (m0 + 1)), .int 0])), (ms, .inl (cI, 2, .inl st)), (mw, .inl (cI, 2, .inl lw)), (mq, .inl (cB, 1000, .inl wq))] H := hP
                have hD : va_D A [(y, .inr (5, [.int 0, .int (nI bi), .int (nI ne), .int (nI li), .int (nI sp), .int (nI q), .ref ms, .ref mw, .ref mu, .ref mc, .ref mn, .int en, .int (nI sz), .ref mr, .int (nI wa), .ref mq, .int la, .ref md, .int (nI (m0 + 1)), .int 0])), (ms, .inl (cI, 2, .inl st)), (mw, .inl (cI, 2, .inl lw)), (mq, .inl (cB, 1000, .inl wq))] := hD
                refine tpi (y := 0) (hz) ?_
                refine lv_iconst (v := 1) hx hb d_M_readRun_82 (by decide) ?_
                refine lv_icmp_ne (tgt := 142) hx hb d_M_readRun_83 (by decide) (fun c_6 => ?_) (fun c_6 => ?_)
                · skip
                  refine lv_aload_n hx hb d_M_readRun_142 rfl (lv_at hl 5 rfl) ?_
                  refine lv_iload hx hb d_M_readRun_143 (lv_at hl 0 rfl) ?_
                  have hPc := hP.sub (ws' := [(y, .inr (5, [.int 0, .int (nI bi), .int (nI ne), .int (nI li), .int (nI sp), .int (nI q), .ref ms, .ref mw, .ref mu, .ref mc, .ref mn, .int en, .int (nI sz), .ref mr, .int (nI wa), .ref mq, .int la, .ref md, .int (nI (m0 + 1)), .int 0])), (mq, .inl (cB, 1000, .inl wq))]) [0, 3] rfl
                  have hDc := hD.sub (ws' := [(y, .inr (5, [.int 0, .int (nI bi), .int (nI ne), .int (nI li), .int (nI sp), .int (nI q), .ref ms, .ref mw, .ref mu, .ref mc, .ref mn, .int en, .int (nI sz), .ref mr, .int (nI wa), .ref mq, .int la, .ref md, .int (nI (m0 + 1)), .int 0])), (mq, .inl (cB, 1000, .inl wq))]) [0, 3] (by decide) rfl
                  have hKc := hK.sub (tys' := [(cB, .byte)]) [0] rfl
                  refine mci (va_runV (As := [.int (nI (wdt (rac pl m0)))]) (rest := []) ⟨hx, hb, hml, hown, hg⟩ (c_M_nextLow l D y ms mw mu mc mn mr mq md bi ne li sp q sz wa 0 en la at0 0 cB wq (m0 + 1) (wdt (rac pl m0)) hwa (by omega) (by omega)) (cwV 1 hg (gV gw_682 gw_684 gs_27 gw_7 gw_685) rfl rfl rfl (by decide +kernel) ⟨Nat.le_of_ble_eq_true rfl, Nat.le_of_ble_eq_true rfl⟩) ⟨fun a U g mk q => by obtain ⟨q0, qP, qK, qD⟩ := q; exact ⟨q0, qP, va_K.moved (u := U) (U := U.calling g mk a) (Vm.Alike.refl U.vm) qK, qD⟩, va_recv hKc hPc (ci := 5) (q0 := 0) rfl rfl, fun U hU hW => ⟨rfl, by rw [hU]; exact hPc, va_K.moved hW.alike hKc, hDc.weaken (fun _ _ _ _ => trivial)⟩⟩ rfl rfl hl.1 rfl (lv_room (Nat.le_of_ble_eq_true rfl)) d_M_readRun_145 (⟨Nat.le_of_ble_eq_true rfl, Nat.le_of_ble_eq_true rfl⟩)) hS hP hD [0, 3] rfl rfl rfl (fun H locs hP hD hS => ?_)
                  have hP : va_P D CLS [(y, .inr (5, [.int 0, .int (nI bi), .int (nI ne), .int (nI li), .int (nI sp), .int (nI q), .ref ms, .ref mw, .ref mu, .ref mc, .ref mn, .int en, .int (nI sz), .ref mr, .int (nI wa), .ref mq, .int la, .ref md, .int (nI (min (m0 + 1 + (wdt (rac pl m0))) wa)), .int (if wa < m0 + 1 + (wdt (rac pl m0)) then 1 else 0)])), (ms, .inl (cI, 2, .inl st)), (mw, .inl (cI, 2, .inl lw)), (mq, .inl (cB, 1000, .inl wq))] H := hP
                  have hD : va_D A [(y, .inr (5, [.int 0, .int (nI bi), .int (nI ne), .int (nI li), .int (nI sp), .int (nI q), .ref ms, .ref mw, .ref mu, .ref mc, .ref mn, .int en, .int (nI sz), .ref mr, .int (nI wa), .ref mq, .int la, .ref md, .int (nI (min (m0 + 1 + (wdt (rac pl m0))) wa)), .int (if wa < m0 + 1 + (wdt (rac pl m0)) then 1 else 0)])), (ms, .inl (cI, 2, .inl st)), (mw, .inl (cI, 2, .inl lw)), (mq, .inl (cB, 1000, .inl wq))] := hD
                  rw [if_neg (show ¬ wa < m0 + 1 + (wdt (rac pl m0)) by omega), show min (m0 + 1 + (wdt (rac pl m0))) wa = m0 + 1 + (wdt (rac pl m0)) by omega] at hP hD
                  have hP : va_P D CLS [(y, .inr (5, [.int 0, .int (nI bi), .int (nI ne), .int (nI li), .int (nI sp), .int (nI q), .ref ms, .ref mw, .ref mu, .ref mc, .ref mn, .int en, .int (nI sz), .ref mr, .int (nI wa), .ref mq, .int la, .ref md, .int (nI (m0 + 1 + wdt (rac pl m0))), .int 0])), (ms, .inl (cI, 2, .inl st)), (mw, .inl (cI, 2, .inl lw)), (mq, .inl (cB, 1000, .inl wq))] H := hP
                  have hD : va_D A [(y, .inr (5, [.int 0, .int (nI bi), .int (nI ne), .int (nI li), .int (nI sp), .int (nI q), .ref ms, .ref mw, .ref mu, .ref mc, .ref mn, .int en, .int (nI sz), .ref mr, .int (nI wa), .ref mq, .int la, .ref md, .int (nI (m0 + 1 + wdt (rac pl m0))), .int 0])), (ms, .inl (cI, 2, .inl st)), (mw, .inl (cI, 2, .inl lw)), (mq, .inl (cB, 1000, .inl wq))] := hD
                  refine lv_istore (lv' := [(7, .int (bnum (mbt wq wa) (m0 + 1) (wdt (rac pl m0)))), (6, .int (nI (wdt (rac pl m0)))), (5, .int 0), (4, .int 1), (3, .int (nI (rac pl m0))), (2, .int (nI (rrc n0 pl m0))), (0, .ref y), (1, .int (nI n0))]) hx hb d_M_readRun_148 hl (by decide) rfl (fun ls hl => ?_)
                  refine lv_aload_n hx hb d_M_readRun_150 rfl (lv_at hl 6 rfl) ?_
                  refine va_get (D := D) (ci := 5) (v := .int 0) (C := R_M) (T := T_M) (N := 20) hx hb hg in_M hown hK hP 0 rfl rfl 19 (by decide) (hg _ gw_543) (fun _ h9 => h9) rfl d_M_readRun_151 ?_
                  refine lv_if_ne (tgt := 174) hx hb d_M_readRun_154 (by decide) (fun c_7 => ?_) (fun c_7 => ?_)
                  · skip
                    exact absurd rfl c_7
                  · skip
                    refine lv_iload hx hb d_M_readRun_157 (lv_at hl 0 rfl) ?_
                    refine lv_iload_n hx hb d_M_readRun_159 rfl (lv_at hl 5 rfl) ?_
                    refine lv_icmp_lt (tgt := 174) hx hb d_M_readRun_160 (by decide) (fun c_8 => ?_) (fun c_8 => ?_)
                    · skip
                      refine lv_iload_n hx hb d_M_readRun_174 rfl (lv_at hl 5 rfl) ?_
                      refine lv_iload hx hb d_M_readRun_175 (lv_at hl 0 rfl) ?_
                      refine lv_isub hx hb d_M_readRun_177 ?_
                      refine lv_istore_n (lv' := [(2, .int ((nI (rrc n0 pl m0)) - (bnum (mbt wq wa) (m0 + 1) (wdt (rac pl m0))))), (7, .int (bnum (mbt wq wa) (m0 + 1) (wdt (rac pl m0)))), (6, .int (nI (wdt (rac pl m0)))), (5, .int 0), (4, .int 1), (3, .int (nI (rac pl m0))), (0, .ref y), (1, .int (nI n0))]) hx hb d_M_readRun_178 rfl hl (by decide) rfl (fun ls hl => ?_)
                      refine lv_iload_n hx hb d_M_readRun_179 rfl (lv_at hl 5 rfl) ?_
                      refine lv_if_le (tgt := 189) hx hb d_M_readRun_180 (by decide) (fun c_9 => ?_) (fun c_9 => ?_)
                      · skip
                        have hr0 : rac pl m0 = 0 := Nat.eq_zero_of_not_pos (fun q9 => nI_nle q9 (by omega) c_9)
                        refine lv_iload_n hx hb d_M_readRun_189 rfl (lv_at hl 5 rfl) ?_
                        refine tpi (y := nI (rac pl m0 - 1)) (by rw [hr0]) ?_
                        refine lv_istore_n (lv' := [(3, .int (nI (rac pl m0 - 1))), (2, .int ((nI (rrc n0 pl m0)) - (bnum (mbt wq wa) (m0 + 1) (wdt (rac pl m0))))), (7, .int (bnum (mbt wq wa) (m0 + 1) (wdt (rac pl m0)))), (6, .int (nI (wdt (rac pl m0)))), (5, .int 0), (4, .int 1), (0, .ref y), (1, .int (nI n0))]) hx hb d_M_readRun_190 rfl hl (by decide) rfl (fun ls hl => ?_)
                        refine lv_iconst (v := 0) hx hb d_M_readRun_191 (by decide) ?_
                        refine lv_istore (lv' := [(4, .int 0), (3, .int (nI (rac pl m0 - 1))), (2, .int ((nI (rrc n0 pl m0)) - (bnum (mbt wq wa) (m0 + 1) (wdt (rac pl m0))))), (7, .int (bnum (mbt wq wa) (m0 + 1) (wdt (rac pl m0)))), (6, .int (nI (wdt (rac pl m0)))), (5, .int 0), (0, .ref y), (1, .int (nI n0))]) hx hb d_M_readRun_192 hl (by decide) rfl (fun ls hl => ?_)
                        refine lv_iconst (v := 1) hx hb d_M_readRun_194 (by decide) ?_
                        refine lv_istore (lv' := [(5, .int 1), (4, .int 0), (3, .int (nI (rac pl m0 - 1))), (2, .int ((nI (rrc n0 pl m0)) - (bnum (mbt wq wa) (m0 + 1) (wdt (rac pl m0))))), (7, .int (bnum (mbt wq wa) (m0 + 1) (wdt (rac pl m0)))), (6, .int (nI (wdt (rac pl m0)))), (0, .ref y), (1, .int (nI n0))]) hx hb d_M_readRun_195 hl (by decide) rfl (fun ls hl => ?_)
                        refine lv_goto (tgt := 60) hx hb d_M_readRun_197 (by decide) ?_
                        refine lv_iload hx hb d_M_readRun_60 (lv_at hl 1 rfl) ?_
                        refine lv_if_eq (tgt := 200) hx hb d_M_readRun_62 (by decide) (fun c_10 => ?_) (fun c_10 => ?_)
                        · skip
                          refine lv_aload_n hx hb d_M_readRun_200 rfl (lv_at hl 6 rfl) ?_
                          refine va_get (D := D) (ci := 5) (v := .int 0) (C := R_M) (T := T_M) (N := 20) hx hb hg in_M hown hK hP 0 rfl rfl 19 (by decide) (hg _ gw_543) (fun _ h9 => h9) rfl d_M_readRun_201 ?_
                          refine lv_if_eq (tgt := 209) hx hb d_M_readRun_204 (by decide) (fun c_11 => ?_) (fun c_11 => ?_)
                          · skip
                            refine lv_aload_n hx hb d_M_readRun_209 rfl (lv_at hl 6 rfl) ?_
                            refine lv_aload_n hx hb d_M_readRun_210 rfl (lv_at hl 6 rfl) ?_
                            refine va_get (D := D) (ci := 5) (v := .int (nI (m0 + 1 + wdt (rac pl m0)))) (C := R_M) (T := T_M) (N := 20) hx hb hg in_M hown hK hP 0 rfl rfl 18 (by decide) (hg _ gw_542) (fun _ h9 => h9) rfl d_M_readRun_211 ?_
                            have hPc := hP.sub (ws' := [(y, .inr (5, [.int 0, .int (nI bi), .int (nI ne), .int (nI li), .int (nI sp), .int (nI q), .ref ms, .ref mw, .ref mu, .ref mc, .ref mn, .int en, .int (nI sz), .ref mr, .int (nI wa), .ref mq, .int la, .ref md, .int (nI (m0 + 1 + wdt (rac pl m0))), .int 0])), (mq, .inl (cB, 1000, .inl wq))]) [0, 3] rfl
                            have hDc := hD.sub (ws' := [(y, .inr (5, [.int 0, .int (nI bi), .int (nI ne), .int (nI li), .int (nI sp), .int (nI q), .ref ms, .ref mw, .ref mu, .ref mc, .ref mn, .int en, .int (nI sz), .ref mr, .int (nI wa), .ref mq, .int la, .ref md, .int (nI (m0 + 1 + wdt (rac pl m0))), .int 0])), (mq, .inl (cB, 1000, .inl wq))]) [0, 3] (by decide) rfl
                            have hKc := hK.sub (tys' := [(cB, .byte)]) [0] rfl
                            refine mcv (va_runV (As := [.int (nI (m0 + 1 + wdt (rac pl m0)))]) (rest := []) ⟨hx, hb, hml, hown, hg⟩ (c_M_go l D y ms mw mu mc mn mr mq md bi ne li sp q sz wa 0 en la (nI (m0 + 1 + wdt (rac pl m0))) 0 cB wq (m0 + 1 + wdt (rac pl m0)) hwa (by omega) hqb) (cwV 1 hg (gV gw_686 gw_688 gs_28 gw_7 gw_689) rfl rfl rfl (by decide +kernel) ⟨Nat.le_of_ble_eq_true rfl, Nat.le_of_ble_eq_true rfl⟩) ⟨fun a U g mk q => by obtain ⟨q0, qP, qK, qD⟩ := q; exact ⟨q0, qP, va_K.moved (u := U) (U := U.calling g mk a) (Vm.Alike.refl U.vm) qK, qD⟩, va_recv hKc hPc (ci := 5) (q0 := 0) rfl rfl, fun U hU hW => ⟨rfl, by rw [hU]; exact hPc, va_K.moved hW.alike hKc, hDc.weaken (fun _ _ _ _ => trivial)⟩⟩ rfl rfl hl.1 rfl (lv_room (Nat.le_of_ble_eq_true rfl)) d_M_readRun_214 (⟨Nat.le_of_ble_eq_true rfl, Nat.le_of_ble_eq_true rfl⟩)) hS hP hD [0, 3] rfl rfl rfl (fun H locs hP hD hS => ?_)
                            have hP : va_P D CLS [(y, .inr (5, [.int 0, .int (nI bi), .int (nI ne), .int (nI li), .int (nI sp), .int (nI q), .ref ms, .ref mw, .ref mu, .ref mc, .ref mn, .int en, .int (nI sz), .ref mr, .int (nI (wa - (m0 + 1 + wdt (rac pl m0)))), .ref mq, .int la, .ref md, .int (nI (m0 + 1 + wdt (rac pl m0))), .int 0])), (ms, .inl (cI, 2, .inl st)), (mw, .inl (cI, 2, .inl lw)), (mq, .inl (cB, 1000, .inl (gof wq (m0 + 1 + wdt (rac pl m0)) (wa - (m0 + 1 + wdt (rac pl m0))))))] H := hP
                            have hD : va_D A [(y, .inr (5, [.int 0, .int (nI bi), .int (nI ne), .int (nI li), .int (nI sp), .int (nI q), .ref ms, .ref mw, .ref mu, .ref mc, .ref mn, .int en, .int (nI sz), .ref mr, .int (nI (wa - (m0 + 1 + wdt (rac pl m0)))), .ref mq, .int la, .ref md, .int (nI (m0 + 1 + wdt (rac pl m0))), .int 0])), (ms, .inl (cI, 2, .inl st)), (mw, .inl (cI, 2, .inl lw)), (mq, .inl (cB, 1000, .inl (gof wq (m0 + 1 + wdt (rac pl m0)) (wa - (m0 + 1 + wdt (rac pl m0))))))] := hD
                            refine lv_aload_n hx hb d_M_readRun_217 rfl (lv_at hl 6 rfl) ?_
                            refine va_get (D := D) (ci := 5) (v := .ref ms) (C := R_M) (T := T_M) (N := 20) hx hb hg in_M hown hK hP 0 rfl rfl 6 (by decide) (hg _ gw_530) (fun _ h9 => h9) rfl d_M_readRun_218 ?_
                            refine lv_iconst (v := 1) hx hb d_M_readRun_221 (by decide) ?_
                            refine lv_iload_n hx hb d_M_readRun_222 rfl (lv_at hl 2 rfl) ?_
                            refine va_iast hx hb hK hP hD hS 1 1 rfl rfl (vp_in_nI (n := 1) (by decide) (by decide)) d_M_readRun_223 (fun H locs hP hD hS => ?_)
                            rw [show (1 : Int32).toNatClampNeg = 1 from rfl] at hP hD
                            have hP : va_P D CLS [(y, .inr (5, [.int 0, .int (nI bi), .int (nI ne), .int (nI li), .int (nI sp), .int (nI q), .ref ms, .ref mw, .ref mu, .ref mc, .ref mn, .int en, .int (nI sz), .ref mr, .int (nI (wa - (m0 + 1 + wdt (rac pl m0)))), .ref mq, .int la, .ref md, .int (nI (m0 + 1 + wdt (rac pl m0))), .int 0])), (ms, .inl (cI, 2, .inl (upd st 1 (nI (rac pl m0 - 1))))), (mw, .inl (cI, 2, .inl lw)), (mq, .inl (cB, 1000, .inl (gof wq (m0 + 1 + wdt (rac pl m0)) (wa - (m0 + 1 + wdt (rac pl m0))))))] H := hP
                            have hD : va_D A [(y, .inr (5, [.int 0, .int (nI bi), .int (nI ne), .int (nI li), .int (nI sp), .int (nI q), .ref ms, .ref mw, .ref mu, .ref mc, .ref mn, .int en, .int (nI sz), .ref mr, .int (nI (wa - (m0 + 1 + wdt (rac pl m0)))), .ref mq, .int la, .ref md, .int (nI (m0 + 1 + wdt (rac pl m0))), .int 0])), (ms, .inl (cI, 2, .inl (upd st 1 (nI (rac pl m0 - 1))))), (mw, .inl (cI, 2, .inl lw)), (mq, .inl (cB, 1000, .inl (gof wq (m0 + 1 + wdt (rac pl m0)) (wa - (m0 + 1 + wdt (rac pl m0))))))] := hD
                            refine lv_aload_n hx hb d_M_readRun_224 rfl (lv_at hl 6 rfl) ?_
                            refine va_get (D := D) (ci := 5) (v := .ref mw) (C := R_M) (T := T_M) (N := 20) hx hb hg in_M hown hK hP 0 rfl rfl 7 (by decide) (hg _ gw_531) (fun _ h9 => h9) rfl d_M_readRun_225 ?_
                            refine lv_iconst (v := 1) hx hb d_M_readRun_228 (by decide) ?_
                            refine lv_iload hx hb d_M_readRun_229 (lv_at hl 5 rfl) ?_
                            refine va_iast hx hb hK hP hD hS 2 1 rfl rfl (vp_in_nI (n := 1) (by decide) (by decide)) d_M_readRun_231 (fun H locs hP hD hS => ?_)
                            rw [show (1 : Int32).toNatClampNeg = 1 from rfl] at hP hD
                            have hP : va_P D CLS [(y, .inr (5, [.int 0, .int (nI bi), .int (nI ne), .int (nI li), .int (nI sp), .int (nI q), .ref ms, .ref mw, .ref mu, .ref mc, .ref mn, .int en, .int (nI sz), .ref mr, .int (nI (wa - (m0 + 1 + wdt (rac pl m0)))), .ref mq, .int la, .ref md, .int (nI (m0 + 1 + wdt (rac pl m0))), .int 0])), (ms, .inl (cI, 2, .inl (upd st 1 (nI (rac pl m0 - 1))))), (mw, .inl (cI, 2, .inl (upd lw 1 (nI (wdt (rac pl m0)))))), (mq, .inl (cB, 1000, .inl (gof wq (m0 + 1 + wdt (rac pl m0)) (wa - (m0 + 1 + wdt (rac pl m0))))))] H := hP
                            have hD : va_D A [(y, .inr (5, [.int 0, .int (nI bi), .int (nI ne), .int (nI li), .int (nI sp), .int (nI q), .ref ms, .ref mw, .ref mu, .ref mc, .ref mn, .int en, .int (nI sz), .ref mr, .int (nI (wa - (m0 + 1 + wdt (rac pl m0)))), .ref mq, .int la, .ref md, .int (nI (m0 + 1 + wdt (rac pl m0))), .int 0])), (ms, .inl (cI, 2, .inl (upd st 1 (nI (rac pl m0 - 1))))), (mw, .inl (cI, 2, .inl (upd lw 1 (nI (wdt (rac pl m0)))))), (mq, .inl (cB, 1000, .inl (gof wq (m0 + 1 + wdt (rac pl m0)) (wa - (m0 + 1 + wdt (rac pl m0))))))] := hD
                            refine lv_aload_n hx hb d_M_readRun_232 rfl (lv_at hl 6 rfl) ?_
                            refine lv_iload hx hb d_M_readRun_233 (lv_at hl 0 rfl) ?_
                            refine va_put (D := D) (ci := 5) (v := .int 1) (ty := .boolean) (C := R_M) (T := T_M) (N := 20) hx hb hg in_M ty_M tok_M nm_M hown hK hP hD hS 0 rfl rfl 11 (by decide) (hg _ gw_535) (fun _ h9 => h9) rfl (by decide +kernel) (rfl) (rfl) (Nat.le_of_ble_eq_true rfl) d_M_readRun_235 (fun H locs hP hD hS => ?_)
                            have hP : va_P D CLS [(y, .inr (5, [.int 0, .int (nI bi), .int (nI ne), .int (nI li), .int (nI sp), .int (nI q), .ref ms, .ref mw, .ref mu, .ref mc, .ref mn, .int 1, .int (nI sz), .ref mr, .int (nI (wa - (m0 + 1 + wdt (rac pl m0)))), .ref mq, .int la, .ref md, .int (nI (m0 + 1 + wdt (rac pl m0))), .int 0])), (ms, .inl (cI, 2, .inl (upd st 1 (nI (rac pl m0 - 1))))), (mw, .inl (cI, 2, .inl (upd lw 1 (nI (wdt (rac pl m0)))))), (mq, .inl (cB, 1000, .inl (gof wq (m0 + 1 + wdt (rac pl m0)) (wa - (m0 + 1 + wdt (rac pl m0))))))] H := hP
                            have hD : va_D A [(y, .inr (5, [.int 0, .int (nI bi), .int (nI ne), .int (nI li), .int (nI sp), .int (nI q), .ref ms, .ref mw, .ref mu, .ref mc, .ref mn, .int 1, .int (nI sz), .ref mr, .int (nI (wa - (m0 + 1 + wdt (rac pl m0)))), .ref mq, .int la, .ref md, .int (nI (m0 + 1 + wdt (rac pl m0))), .int 0])), (ms, .inl (cI, 2, .inl (upd st 1 (nI (rac pl m0 - 1))))), (mw, .inl (cI, 2, .inl (upd lw 1 (nI (wdt (rac pl m0)))))), (mq, .inl (cB, 1000, .inl (gof wq (m0 + 1 + wdt (rac pl m0)) (wa - (m0 + 1 + wdt (rac pl m0))))))] := hD
                            refine lv_iload_n hx hb d_M_readRun_238 rfl (lv_at hl 7 rfl) ?_
                            refine lv_iload_n hx hb d_M_readRun_239 rfl (lv_at hl 3 rfl) ?_
                            refine lv_isub hx hb d_M_readRun_240 ?_
                            exact W.iret (v := (nI n0) - ((nI (rrc n0 pl m0)) - (bnum (mbt wq wa) (m0 + 1) (wdt (rac pl m0))))) hx hb hr (fun t ht hW => ⟨rfl, by rw [ht]; exact hP, (hAe ▸ hS).F ht⟩) (hAe ▸ hS).2.2 d_M_readRun_241
                          · skip
                            exact absurd rfl c_11
                        · skip
                          exact absurd rfl c_10
                      · skip
                        have hr0 : 0 < rac pl m0 := Nat.pos_of_ne_zero (fun q9 => c_9 (by rw [q9]; decide))
                        refine lv_iload_n hx hb d_M_readRun_183 rfl (lv_at hl 5 rfl) ?_
                        refine lv_iconst (v := 1) hx hb d_M_readRun_184 (by decide) ?_
                        refine lv_isub hx hb d_M_readRun_185 ?_
                        refine tpi (y := nI (rac pl m0 - 1)) (pk_sub (b := 1) (by omega)) ?_
                        refine lv_goto (tgt := 190) hx hb d_M_readRun_186 (by decide) ?_
                        refine lv_istore_n (lv' := [(3, .int (nI (rac pl m0 - 1))), (2, .int ((nI (rrc n0 pl m0)) - (bnum (mbt wq wa) (m0 + 1) (wdt (rac pl m0))))), (7, .int (bnum (mbt wq wa) (m0 + 1) (wdt (rac pl m0)))), (6, .int (nI (wdt (rac pl m0)))), (5, .int 0), (4, .int 1), (0, .ref y), (1, .int (nI n0))]) hx hb d_M_readRun_190 rfl hl (by decide) rfl (fun ls hl => ?_)
                        refine lv_iconst (v := 0) hx hb d_M_readRun_191 (by decide) ?_
                        refine lv_istore (lv' := [(4, .int 0), (3, .int (nI (rac pl m0 - 1))), (2, .int ((nI (rrc n0 pl m0)) - (bnum (mbt wq wa) (m0 + 1) (wdt (rac pl m0))))), (7, .int (bnum (mbt wq wa) (m0 + 1) (wdt (rac pl m0)))), (6, .int (nI (wdt (rac pl m0)))), (5, .int 0), (0, .ref y), (1, .int (nI n0))]) hx hb d_M_readRun_192 hl (by decide) rfl (fun ls hl => ?_)
                        refine lv_iconst (v := 1) hx hb d_M_readRun_194 (by decide) ?_
                        refine lv_istore (lv' := [(5, .int 1), (4, .int 0), (3, .int (nI (rac pl m0 - 1))), (2, .int ((nI (rrc n0 pl m0)) - (bnum (mbt wq wa) (m0 + 1) (wdt (rac pl m0))))), (7, .int (bnum (mbt wq wa) (m0 + 1) (wdt (rac pl m0)))), (6, .int (nI (wdt (rac pl m0)))), (0, .ref y), (1, .int (nI n0))]) hx hb d_M_readRun_195 hl (by decide) rfl (fun ls hl => ?_)
                        refine lv_goto (tgt := 60) hx hb d_M_readRun_197 (by decide) ?_
                        refine lv_iload hx hb d_M_readRun_60 (lv_at hl 1 rfl) ?_
                        refine lv_if_eq (tgt := 200) hx hb d_M_readRun_62 (by decide) (fun c_12 => ?_) (fun c_12 => ?_)
                        · skip
                          refine lv_aload_n hx hb d_M_readRun_200 rfl (lv_at hl 6 rfl) ?_
                          refine va_get (D := D) (ci := 5) (v := .int 0) (C := R_M) (T := T_M) (N := 20) hx hb hg in_M hown hK hP 0 rfl rfl 19 (by decide) (hg _ gw_543) (fun _ h9 => h9) rfl d_M_readRun_201 ?_
                          refine lv_if_eq (tgt := 209) hx hb d_M_readRun_204 (by decide) (fun c_13 => ?_) (fun c_13 => ?_)
                          · skip
                            refine lv_aload_n hx hb d_M_readRun_209 rfl (lv_at hl 6 rfl) ?_
                            refine lv_aload_n hx hb d_M_readRun_210 rfl (lv_at hl 6 rfl) ?_
                            refine va_get (D := D) (ci := 5) (v := .int (nI (m0 + 1 + wdt (rac pl m0)))) (C := R_M) (T := T_M) (N := 20) hx hb hg in_M hown hK hP 0 rfl rfl 18 (by decide) (hg _ gw_542) (fun _ h9 => h9) rfl d_M_readRun_211 ?_
                            have hPc := hP.sub (ws' := [(y, .inr (5, [.int 0, .int (nI bi), .int (nI ne), .int (nI li), .int (nI sp), .int (nI q), .ref ms, .ref mw, .ref mu, .ref mc, .ref mn, .int en, .int (nI sz), .ref mr, .int (nI wa), .ref mq, .int la, .ref md, .int (nI (m0 + 1 + wdt (rac pl m0))), .int 0])), (mq, .inl (cB, 1000, .inl wq))]) [0, 3] rfl
                            have hDc := hD.sub (ws' := [(y, .inr (5, [.int 0, .int (nI bi), .int (nI ne), .int (nI li), .int (nI sp), .int (nI q), .ref ms, .ref mw, .ref mu, .ref mc, .ref mn, .int en, .int (nI sz), .ref mr, .int (nI wa), .ref mq, .int la, .ref md, .int (nI (m0 + 1 + wdt (rac pl m0))), .int 0])), (mq, .inl (cB, 1000, .inl wq))]) [0, 3] (by decide) rfl
                            have hKc := hK.sub (tys' := [(cB, .byte)]) [0] rfl
                            refine mcv (va_runV (As := [.int (nI (m0 + 1 + wdt (rac pl m0)))]) (rest := []) ⟨hx, hb, hml, hown, hg⟩ (c_M_go l D y ms mw mu mc mn mr mq md bi ne li sp q sz wa 0 en la (nI (m0 + 1 + wdt (rac pl m0))) 0 cB wq (m0 + 1 + wdt (rac pl m0)) hwa (by omega) hqb) (cwV 1 hg (gV gw_686 gw_688 gs_28 gw_7 gw_689) rfl rfl rfl (by decide +kernel) ⟨Nat.le_of_ble_eq_true rfl, Nat.le_of_ble_eq_true rfl⟩) ⟨fun a U g mk q => by obtain ⟨q0, qP, qK, qD⟩ := q; exact ⟨q0, qP, va_K.moved (u := U) (U := U.calling g mk a) (Vm.Alike.refl U.vm) qK, qD⟩, va_recv hKc hPc (ci := 5) (q0 := 0) rfl rfl, fun U hU hW => ⟨rfl, by rw [hU]; exact hPc, va_K.moved hW.alike hKc, hDc.weaken (fun _ _ _ _ => trivial)⟩⟩ rfl rfl hl.1 rfl (lv_room (Nat.le_of_ble_eq_true rfl)) d_M_readRun_214 (⟨Nat.le_of_ble_eq_true rfl, Nat.le_of_ble_eq_true rfl⟩)) hS hP hD [0, 3] rfl rfl rfl (fun H locs hP hD hS => ?_)
                            have hP : va_P D CLS [(y, .inr (5, [.int 0, .int (nI bi), .int (nI ne), .int (nI li), .int (nI sp), .int (nI q), .ref ms, .ref mw, .ref mu, .ref mc, .ref mn, .int en, .int (nI sz), .ref mr, .int (nI (wa - (m0 + 1 + wdt (rac pl m0)))), .ref mq, .int la, .ref md, .int (nI (m0 + 1 + wdt (rac pl m0))), .int 0])), (ms, .inl (cI, 2, .inl st)), (mw, .inl (cI, 2, .inl lw)), (mq, .inl (cB, 1000, .inl (gof wq (m0 + 1 + wdt (rac pl m0)) (wa - (m0 + 1 + wdt (rac pl m0))))))] H := hP
                            have hD : va_D A [(y, .inr (5, [.int 0, .int (nI bi), .int (nI ne), .int (nI li), .int (nI sp), .int (nI q), .ref ms, .ref mw, .ref mu, .ref mc, .ref mn, .int en, .int (nI sz), .ref mr, .int (nI (wa - (m0 + 1 + wdt (rac pl m0)))), .ref mq, .int la, .ref md, .int (nI (m0 + 1 + wdt (rac pl m0))), .int 0])), (ms, .inl (cI, 2, .inl st)), (mw, .inl (cI, 2, .inl lw)), (mq, .inl (cB, 1000, .inl (gof wq (m0 + 1 + wdt (rac pl m0)) (wa - (m0 + 1 + wdt (rac pl m0))))))] := hD
                            refine lv_aload_n hx hb d_M_readRun_217 rfl (lv_at hl 6 rfl) ?_
                            refine va_get (D := D) (ci := 5) (v := .ref ms) (C := R_M) (T := T_M) (N := 20) hx hb hg in_M hown hK hP 0 rfl rfl 6 (by decide) (hg _ gw_530) (fun _ h9 => h9) rfl d_M_readRun_218 ?_
                            refine lv_iconst (v := 1) hx hb d_M_readRun_221 (by decide) ?_
                            refine lv_iload_n hx hb d_M_readRun_222 rfl (lv_at hl 2 rfl) ?_
                            refine va_iast hx hb hK hP hD hS 1 1 rfl rfl (vp_in_nI (n := 1) (by decide) (by decide)) d_M_readRun_223 (fun H locs hP hD hS => ?_)
                            rw [show (1 : Int32).toNatClampNeg = 1 from rfl] at hP hD
                            have hP : va_P D CLS [(y, .inr (5, [.int 0, .int (nI bi), .int (nI ne), .int (nI li), .int (nI sp), .int (nI q), .ref ms, .ref mw, .ref mu, .ref mc, .ref mn, .int en, .int (nI sz), .ref mr, .int (nI (wa - (m0 + 1 + wdt (rac pl m0)))), .ref mq, .int la, .ref md, .int (nI (m0 + 1 + wdt (rac pl m0))), .int 0])), (ms, .inl (cI, 2, .inl (upd st 1 (nI (rac pl m0 - 1))))), (mw, .inl (cI, 2, .inl lw)), (mq, .inl (cB, 1000, .inl (gof wq (m0 + 1 + wdt (rac pl m0)) (wa - (m0 + 1 + wdt (rac pl m0))))))] H := hP
                            have hD : va_D A [(y, .inr (5, [.int 0, .int (nI bi), .int (nI ne), .int (nI li), .int (nI sp), .int (nI q), .ref ms, .ref mw, .ref mu, .ref mc, .ref mn, .int en, .int (nI sz), .ref mr, .int (nI (wa - (m0 + 1 + wdt (rac pl m0)))), .ref mq, .int la, .ref md, .int (nI (m0 + 1 + wdt (rac pl m0))), .int 0])), (ms, .inl (cI, 2, .inl (upd st 1 (nI (rac pl m0 - 1))))), (mw, .inl (cI, 2, .inl lw)), (mq, .inl (cB, 1000, .inl (gof wq (m0 + 1 + wdt (rac pl m0)) (wa - (m0 + 1 + wdt (rac pl m0))))))] := hD
                            refine lv_aload_n hx hb d_M_readRun_224 rfl (lv_at hl 6 rfl) ?_
                            refine va_get (D := D) (ci := 5) (v := .ref mw) (C := R_M) (T := T_M) (N := 20) hx hb hg in_M hown hK hP 0 rfl rfl 7 (by decide) (hg _ gw_531) (fun _ h9 => h9) rfl d_M_readRun_225 ?_
                            refine lv_iconst (v := 1) hx hb d_M_readRun_228 (by decide) ?_
                            refine lv_iload hx hb d_M_readRun_229 (lv_at hl 5 rfl) ?_
                            refine va_iast hx hb hK hP hD hS 2 1 rfl rfl (vp_in_nI (n := 1) (by decide) (by decide)) d_M_readRun_231 (fun H locs hP hD hS => ?_)
                            rw [show (1 : Int32).toNatClampNeg = 1 from rfl] at hP hD
                            have hP : va_P D CLS [(y, .inr (5, [.int 0, .int (nI bi), .int (nI ne), .int (nI li), .int (nI sp), .int (nI q), .ref ms, .ref mw, .ref mu, .ref mc, .ref mn, .int en, .int (nI sz), .ref mr, .int (nI (wa - (m0 + 1 + wdt (rac pl m0)))), .ref mq, .int la, .ref md, .int (nI (m0 + 1 + wdt (rac pl m0))), .int 0])), (ms, .inl (cI, 2, .inl (upd st 1 (nI (rac pl m0 - 1))))), (mw, .inl (cI, 2, .inl (upd lw 1 (nI (wdt (rac pl m0)))))), (mq, .inl (cB, 1000, .inl (gof wq (m0 + 1 + wdt (rac pl m0)) (wa - (m0 + 1 + wdt (rac pl m0))))))] H := hP
                            have hD : va_D A [(y, .inr (5, [.int 0, .int (nI bi), .int (nI ne), .int (nI li), .int (nI sp), .int (nI q), .ref ms, .ref mw, .ref mu, .ref mc, .ref mn, .int en, .int (nI sz), .ref mr, .int (nI (wa - (m0 + 1 + wdt (rac pl m0)))), .ref mq, .int la, .ref md, .int (nI (m0 + 1 + wdt (rac pl m0))), .int 0])), (ms, .inl (cI, 2, .inl (upd st 1 (nI (rac pl m0 - 1))))), (mw, .inl (cI, 2, .inl (upd lw 1 (nI (wdt (rac pl m0)))))), (mq, .inl (cB, 1000, .inl (gof wq (m0 + 1 + wdt (rac pl m0)) (wa - (m0 + 1 + wdt (rac pl m0))))))] := hD
                            refine lv_aload_n hx hb d_M_readRun_232 rfl (lv_at hl 6 rfl) ?_
                            refine lv_iload hx hb d_M_readRun_233 (lv_at hl 0 rfl) ?_
                            refine va_put (D := D) (ci := 5) (v := .int 1) (ty := .boolean) (C := R_M) (T := T_M) (N := 20) hx hb hg in_M ty_M tok_M nm_M hown hK hP hD hS 0 rfl rfl 11 (by decide) (hg _ gw_535) (fun _ h9 => h9) rfl (by decide +kernel) (rfl) (rfl) (Nat.le_of_ble_eq_true rfl) d_M_readRun_235 (fun H locs hP hD hS => ?_)
                            have hP : va_P D CLS [(y, .inr (5, [.int 0, .int (nI bi), .int (nI ne), .int (nI li), .int (nI sp), .int (nI q), .ref ms, .ref mw, .ref mu, .ref mc, .ref mn, .int 1, .int (nI sz), .ref mr, .int (nI (wa - (m0 + 1 + wdt (rac pl m0)))), .ref mq, .int la, .ref md, .int (nI (m0 + 1 + wdt (rac pl m0))), .int 0])), (ms, .inl (cI, 2, .inl (upd st 1 (nI (rac pl m0 - 1))))), (mw, .inl (cI, 2, .inl (upd lw 1 (nI (wdt (rac pl m0)))))), (mq, .inl (cB, 1000, .inl (gof wq (m0 + 1 + wdt (rac pl m0)) (wa - (m0 + 1 + wdt (rac pl m0))))))] H := hP
                            have hD : va_D A [(y, .inr (5, [.int 0, .int (nI bi), .int (nI ne), .int (nI li), .int (nI sp), .int (nI q), .ref ms, .ref mw, .ref mu, .ref mc, .ref mn, .int 1, .int (nI sz), .ref mr, .int (nI (wa - (m0 + 1 + wdt (rac pl m0)))), .ref mq, .int la, .ref md, .int (nI (m0 + 1 + wdt (rac pl m0))), .int 0])), (ms, .inl (cI, 2, .inl (upd st 1 (nI (rac pl m0 - 1))))), (mw, .inl (cI, 2, .inl (upd lw 1 (nI (wdt (rac pl m0)))))), (mq, .inl (cB, 1000, .inl (gof wq (m0 + 1 + wdt (rac pl m0)) (wa - (m0 + 1 + wdt (rac pl m0))))))] := hD
                            refine lv_iload_n hx hb d_M_readRun_238 rfl (lv_at hl 7 rfl) ?_
                            refine lv_iload_n hx hb d_M_readRun_239 rfl (lv_at hl 3 rfl) ?_
                            refine lv_isub hx hb d_M_readRun_240 ?_
                            exact W.iret (v := (nI n0) - ((nI (rrc n0 pl m0)) - (bnum (mbt wq wa) (m0 + 1) (wdt (rac pl m0))))) hx hb hr (fun t ht hW => ⟨rfl, by rw [ht]; exact hP, (hAe ▸ hS).F ht⟩) (hAe ▸ hS).2.2 d_M_readRun_241
                          · skip
                            exact absurd rfl c_13
                        · skip
                          exact absurd rfl c_12
                    · skip
                      exact absurd hmr c_8
                · skip
                  exact absurd c_6 (by decide)
          | succ d ih =>
            intro j hj H locs hP hD hS ls hl
            have hwj := wdt_le (rac pl j) (rac_lt hpl j)
            have hpj := pw15 hwj
            have hrj := rrc_le n0 pl j
            have hlj := rac_lt hpl j
            refine lv_iload hx hb d_M_readRun_60 (lv_at hl 2 rfl) ?_
            refine lv_if_eq (tgt := 200) hx hb d_M_readRun_62 (by decide) (fun c_14 => ?_) (fun c_14 => ?_)
            · skip
              exact absurd c_14 (by decide)
            · skip
              refine lv_aload_n hx hb d_M_readRun_65 rfl (lv_at hl 5 rfl) ?_
              refine va_get (D := D) (ci := 5) (v := .int 0) (C := R_M) (T := T_M) (N := 20) hx hb hg in_M hown hK hP 0 rfl rfl 19 (by decide) (hg _ gw_543) (fun _ h9 => h9) rfl d_M_readRun_66 ?_
              refine lv_if_ne (tgt := 200) hx hb d_M_readRun_69 (by decide) (fun c_15 => ?_) (fun c_15 => ?_)
              · skip
                exact absurd rfl c_15
              · skip
                refine lv_iload_n hx hb d_M_readRun_72 rfl (lv_at hl 3 rfl) ?_
                have hPc := hP.sub (ws' := []) [] rfl
                have hKc := hK.sub (tys' := []) [] rfl
                refine pci (va_runS (As := [.int (nI (rac pl j))]) (rest := []) ⟨hx, hb, hml, hown, hg⟩ (c_M_widthOf l D (rac pl j) (rac_lt hpl j)) (va_cwS 1 hg (gS gw_619 gw_620 gw_7 gw_621) rfl rfl rfl (by decide +kernel) ⟨Nat.le_of_ble_eq_true rfl, Nat.le_of_ble_eq_true rfl⟩) ⟨fun a U g mk q => by obtain ⟨q0, qP, qK⟩ := q; exact ⟨q0, qP, va_K.moved (u := U) (U := U.calling g mk a) (Vm.Alike.refl U.vm) qK⟩, fun U hU hW => ⟨rfl, by rw [hU]; exact hPc, va_K.moved hW.alike hKc⟩⟩ rfl rfl hl.1 rfl (lv_room (Nat.le_of_ble_eq_true rfl)) d_M_readRun_73 (⟨Nat.le_of_ble_eq_true rfl, Nat.le_of_ble_eq_true rfl⟩)) ?_
                refine lv_istore (lv' := [(6, .int (nI (wdt (rac pl j)))), (5, .int 0), (4, .int 1), (3, .int (nI (rac pl j))), (2, .int (nI (rrc n0 pl j))), (0, .ref y), (1, .int (nI n0))]) hx hb d_M_readRun_76 hl (by decide) rfl (fun ls hl => ?_)
                refine lv_aload_n hx hb d_M_readRun_78 rfl (lv_at hl 5 rfl) ?_
                have hPc := hP.sub (ws' := [(y, .inr (5, [.int 0, .int (nI bi), .int (nI ne), .int (nI li), .int (nI sp), .int (nI q), .ref ms, .ref mw, .ref mu, .ref mc, .ref mn, .int en, .int (nI sz), .ref mr, .int (nI wa), .ref mq, .int la, .ref md, .int (nI j), .int 0])), (mq, .inl (cB, 1000, .inl wq))]) [0, 3] rfl
                have hDc := hD.sub (ws' := [(y, .inr (5, [.int 0, .int (nI bi), .int (nI ne), .int (nI li), .int (nI sp), .int (nI q), .ref ms, .ref mw, .ref mu, .ref mc, .ref mn, .int en, .int (nI sz), .ref mr, .int (nI wa), .ref mq, .int la, .ref md, .int (nI j), .int 0])), (mq, .inl (cB, 1000, .inl wq))]) [0, 3] (by decide) rfl
                have hKc := hK.sub (tys' := [(cB, .byte)]) [0] rfl
                refine mci (va_runV (As := []) (rest := []) ⟨hx, hb, hml, hown, hg⟩ (c_M_next l D y ms mw mu mc mn mr mq md bi ne li sp q sz wa 0 en la at0 0 cB wq j hwa (by omega)) (cwV 0 hg (gV gw_678 gw_680 gs_26 gw_7 gw_681) rfl rfl rfl (by decide +kernel) ⟨Nat.le_of_ble_eq_true rfl, Nat.le_of_ble_eq_true rfl⟩) ⟨fun a U g mk q => by obtain ⟨q0, qP, qK, qD⟩ := q; exact ⟨q0, qP, va_K.moved (u := U) (U := U.calling g mk a) (Vm.Alike.refl U.vm) qK, qD⟩, va_recv hKc hPc (ci := 5) (q0 := 0) rfl rfl, fun U hU hW => ⟨rfl, by rw [hU]; exact hPc, va_K.moved hW.alike hKc, hDc.weaken (fun _ _ _ _ => trivial)⟩⟩ rfl rfl hl.1 rfl (lv_room (Nat.le_of_ble_eq_true rfl)) d_M_readRun_79 (⟨Nat.le_of_ble_eq_true rfl, Nat.le_of_ble_eq_true rfl⟩)) hS hP hD [0, 3] rfl rfl rfl (fun H locs hP hD hS => ?_)
                have hP : va_P D CLS [(y, .inr (5, [.int 0, .int (nI bi), .int (nI ne), .int (nI li), .int (nI sp), .int (nI q), .ref ms, .ref mw, .ref mu, .ref mc, .ref mn, .int en, .int (nI sz), .ref mr, .int (nI wa), .ref mq, .int la, .ref md, .int (nI (j + 1)), .int 0])), (ms, .inl (cI, 2, .inl st)), (mw, .inl (cI, 2, .inl lw)), (mq, .inl (cB, 1000, .inl wq))] H := hP
                have hD : va_D A [(y, .inr (5, [.int 0, .int (nI bi), .int (nI ne), .int (nI li), .int (nI sp), .int (nI q), .ref ms, .ref mw, .ref mu, .ref mc, .ref mn, .int en, .int (nI sz), .ref mr, .int (nI wa), .ref mq, .int la, .ref md, .int (nI (j + 1)), .int 0])), (ms, .inl (cI, 2, .inl st)), (mw, .inl (cI, 2, .inl lw)), (mq, .inl (cB, 1000, .inl wq))] := hD
                refine tpi (y := 1) (hmb j (by omega)) ?_
                refine lv_iconst (v := 1) hx hb d_M_readRun_82 (by decide) ?_
                refine lv_icmp_ne (tgt := 142) hx hb d_M_readRun_83 (by decide) (fun c_16 => ?_) (fun c_16 => ?_)
                · skip
                  exact absurd rfl c_16
                · skip
                  refine lv_iload hx hb d_M_readRun_86 (lv_at hl 0 rfl) ?_
                  have hPc := hP.sub (ws' := []) [] rfl
                  have hKc := hK.sub (tys' := []) [] rfl
                  refine pci (va_runS (As := [.int (nI (wdt (rac pl j)))]) (rest := []) ⟨hx, hb, hml, hown, hg⟩ (c_M_power l D (wdt (rac pl j)) (by omega)) (va_cwS 1 hg (gS gw_517 gw_518 gw_7 gw_519) rfl rfl rfl (by decide +kernel) ⟨Nat.le_of_ble_eq_true rfl, Nat.le_of_ble_eq_true rfl⟩) ⟨fun a U g mk q => by obtain ⟨q0, qP, qK⟩ := q; exact ⟨q0, qP, va_K.moved (u := U) (U := U.calling g mk a) (Vm.Alike.refl U.vm) qK⟩, fun U hU hW => ⟨rfl, by rw [hU]; exact hPc, va_K.moved hW.alike hKc⟩⟩ rfl rfl hl.1 rfl (lv_room (Nat.le_of_ble_eq_true rfl)) d_M_readRun_88 (⟨Nat.le_of_ble_eq_true rfl, Nat.le_of_ble_eq_true rfl⟩)) ?_
                  refine lv_iload_n hx hb d_M_readRun_91 rfl (lv_at hl 4 rfl) ?_
                  refine lv_icmp_gt (tgt := 126) hx hb d_M_readRun_92 (by decide) (fun c_17 => ?_) (fun c_17 => ?_)
                  · skip
                    exact absurd ((nI_ltI (by omega) (by omega)).mp c_17) (by have := hm1 j (by omega); omega)
                  · skip
                    have hmj := hm1 j (by omega)
                    refine lv_iload_n hx hb d_M_readRun_95 rfl (lv_at hl 4 rfl) ?_
                    refine lv_iload hx hb d_M_readRun_96 (lv_at hl 0 rfl) ?_
                    have hPc := hP.sub (ws' := []) [] rfl
                    have hKc := hK.sub (tys' := []) [] rfl
                    refine pci (va_runS (As := [.int (nI (wdt (rac pl j)))]) (rest := [.int (nI (rrc n0 pl j))]) ⟨hx, hb, hml, hown, hg⟩ (c_M_power l D (wdt (rac pl j)) (by omega)) (va_cwS 1 hg (gS gw_517 gw_518 gw_7 gw_519) rfl rfl rfl (by decide +kernel) ⟨Nat.le_of_ble_eq_true rfl, Nat.le_of_ble_eq_true rfl⟩) ⟨fun a U g mk q => by obtain ⟨q0, qP, qK⟩ := q; exact ⟨q0, qP, va_K.moved (u := U) (U := U.calling g mk a) (Vm.Alike.refl U.vm) qK⟩, fun U hU hW => ⟨rfl, by rw [hU]; exact hPc, va_K.moved hW.alike hKc⟩⟩ rfl rfl hl.1 rfl (lv_room (Nat.le_of_ble_eq_true rfl)) d_M_readRun_98 (⟨Nat.le_of_ble_eq_true rfl, Nat.le_of_ble_eq_true rfl⟩)) ?_
                    refine lv_isub hx hb d_M_readRun_101 ?_
                    refine tpi (y := nI (rrc n0 pl (j + 1))) (pk_sub (by omega)) ?_
                    refine lv_istore_n (lv' := [(2, .int (nI (rrc n0 pl (j + 1)))), (6, .int (nI (wdt (rac pl j)))), (5, .int 0), (4, .int 1), (3, .int (nI (rac pl j))), (0, .ref y), (1, .int (nI n0))]) hx hb d_M_readRun_102 rfl hl (by decide) rfl (fun ls hl => ?_)
                    refine lv_iload_n hx hb d_M_readRun_103 rfl (lv_at hl 4 rfl) ?_
                    refine lv_bipush (v := 31) hx hb d_M_readRun_104 (by decide) ?_
                    refine lv_icmp_ge (tgt := 115) hx hb d_M_readRun_106 (by decide) (fun c_18 => ?_) (fun c_18 => ?_)
                    · skip
                      have h31 := (nI_leI (a := 31) (by omega) (by omega)).mp c_18
                      refine lv_iload_n hx hb d_M_readRun_115 rfl (lv_at hl 4 rfl) ?_
                      refine tpi (y := nI (rac pl (j + 1))) (congrArg nI (show rac pl j = upp (rac pl j) from (if_neg (by omega)).symm)) ?_
                      refine lv_istore_n (lv' := [(3, .int (nI (rac pl (j + 1)))), (2, .int (nI (rrc n0 pl (j + 1)))), (6, .int (nI (wdt (rac pl j)))), (5, .int 0), (4, .int 1), (0, .ref y), (1, .int (nI n0))]) hx hb d_M_readRun_116 rfl hl (by decide) rfl (fun ls hl => ?_)
                      refine lv_iload_n hx hb d_M_readRun_117 rfl (lv_at hl 0 rfl) ?_
                      have hPc := hP.sub (ws' := []) [] rfl
                      have hKc := hK.sub (tys' := []) [] rfl
                      refine pci (va_runS (As := [.int (nI (rac pl (j + 1)))]) (rest := []) ⟨hx, hb, hml, hown, hg⟩ (c_M_widthOf l D (rac pl (j + 1)) (rac_lt hpl (j + 1))) (va_cwS 1 hg (gS gw_619 gw_620 gw_7 gw_621) rfl rfl rfl (by decide +kernel) ⟨Nat.le_of_ble_eq_true rfl, Nat.le_of_ble_eq_true rfl⟩) ⟨fun a U g mk q => by obtain ⟨q0, qP, qK⟩ := q; exact ⟨q0, qP, va_K.moved (u := U) (U := U.calling g mk a) (Vm.Alike.refl U.vm) qK⟩, fun U hU hW => ⟨rfl, by rw [hU]; exact hPc, va_K.moved hW.alike hKc⟩⟩ rfl rfl hl.1 rfl (lv_room (Nat.le_of_ble_eq_true rfl)) d_M_readRun_118 (⟨Nat.le_of_ble_eq_true rfl, Nat.le_of_ble_eq_true rfl⟩)) ?_
                      refine lv_istore (lv' := [(6, .int (nI (wdt (rac pl (j + 1))))), (3, .int (nI (rac pl (j + 1)))), (2, .int (nI (rrc n0 pl (j + 1)))), (5, .int 0), (4, .int 1), (0, .ref y), (1, .int (nI n0))]) hx hb d_M_readRun_121 hl (by decide) rfl (fun ls hl => ?_)
                      refine lv_goto (tgt := 128) hx hb d_M_readRun_123 (by decide) ?_
                      refine lv_iload_n hx hb d_M_readRun_128 rfl (lv_at hl 2 rfl) ?_
                      refine lv_if_le (tgt := 136) hx hb d_M_readRun_129 (by decide) (fun c_19 => ?_) (fun c_19 => ?_)
                      · skip
                        exact absurd c_19 (nI_nle (by show 0 < rrc n0 pl j - 2 ^ wdt (rac pl j); omega) (by have := rrc_le n0 pl (j + 1); omega))
                      · skip
                        refine lv_iconst (v := 1) hx hb d_M_readRun_132 (by decide) ?_
                        refine lv_goto (tgt := 137) hx hb d_M_readRun_133 (by decide) ?_
                        refine lv_istore (lv' := [(4, .int 1), (6, .int (nI (wdt (rac pl (j + 1))))), (3, .int (nI (rac pl (j + 1)))), (2, .int (nI (rrc n0 pl (j + 1)))), (5, .int 0), (0, .ref y), (1, .int (nI n0))]) hx hb d_M_readRun_137 hl (by decide) rfl (fun ls hl => ?_)
                        refine lv_goto (tgt := 60) hx hb d_M_readRun_139 (by decide) ?_
                        exact ih (j + 1) (by omega) H locs hP hD hS ls (lv_sub hl [1, 4, 0, 2, 3, 5, 6] rfl)
                    · skip
                      have h31 : ¬ 31 ≤ rac pl j := fun q9 => c_18 ((nI_leI (a := 31) (by omega) (by omega)).mpr q9)
                      refine lv_iload_n hx hb d_M_readRun_109 rfl (lv_at hl 4 rfl) ?_
                      refine lv_iconst (v := 1) hx hb d_M_readRun_110 (by decide) ?_
                      refine lv_iadd hx hb d_M_readRun_111 ?_
                      refine tpi (y := nI (rac pl (j + 1))) ((nI_1 _).trans (congrArg nI (show rac pl j + 1 = upp (rac pl j) from (if_pos (by omega)).symm))) ?_
                      refine lv_goto (tgt := 116) hx hb d_M_readRun_112 (by decide) ?_
                      refine lv_istore_n (lv' := [(3, .int (nI (rac pl (j + 1)))), (2, .int (nI (rrc n0 pl (j + 1)))), (6, .int (nI (wdt (rac pl j)))), (5, .int 0), (4, .int 1), (0, .ref y), (1, .int (nI n0))]) hx hb d_M_readRun_116 rfl hl (by decide) rfl (fun ls hl => ?_)
                      refine lv_iload_n hx hb d_M_readRun_117 rfl (lv_at hl 0 rfl) ?_
                      have hPc := hP.sub (ws' := []) [] rfl
                      have hKc := hK.sub (tys' := []) [] rfl
                      refine pci (va_runS (As := [.int (nI (rac pl (j + 1)))]) (rest := []) ⟨hx, hb, hml, hown, hg⟩ (c_M_widthOf l D (rac pl (j + 1)) (rac_lt hpl (j + 1))) (va_cwS 1 hg (gS gw_619 gw_620 gw_7 gw_621) rfl rfl rfl (by decide +kernel) ⟨Nat.le_of_ble_eq_true rfl, Nat.le_of_ble_eq_true rfl⟩) ⟨fun a U g mk q => by obtain ⟨q0, qP, qK⟩ := q; exact ⟨q0, qP, va_K.moved (u := U) (U := U.calling g mk a) (Vm.Alike.refl U.vm) qK⟩, fun U hU hW => ⟨rfl, by rw [hU]; exact hPc, va_K.moved hW.alike hKc⟩⟩ rfl rfl hl.1 rfl (lv_room (Nat.le_of_ble_eq_true rfl)) d_M_readRun_118 (⟨Nat.le_of_ble_eq_true rfl, Nat.le_of_ble_eq_true rfl⟩)) ?_
                      refine lv_istore (lv' := [(6, .int (nI (wdt (rac pl (j + 1))))), (3, .int (nI (rac pl (j + 1)))), (2, .int (nI (rrc n0 pl (j + 1)))), (5, .int 0), (4, .int 1), (0, .ref y), (1, .int (nI n0))]) hx hb d_M_readRun_121 hl (by decide) rfl (fun ls hl => ?_)
                      refine lv_goto (tgt := 128) hx hb d_M_readRun_123 (by decide) ?_
                      refine lv_iload_n hx hb d_M_readRun_128 rfl (lv_at hl 2 rfl) ?_
                      refine lv_if_le (tgt := 136) hx hb d_M_readRun_129 (by decide) (fun c_20 => ?_) (fun c_20 => ?_)
                      · skip
                        exact absurd c_20 (nI_nle (by show 0 < rrc n0 pl j - 2 ^ wdt (rac pl j); omega) (by have := rrc_le n0 pl (j + 1); omega))
                      · skip
                        refine lv_iconst (v := 1) hx hb d_M_readRun_132 (by decide) ?_
                        refine lv_goto (tgt := 137) hx hb d_M_readRun_133 (by decide) ?_
                        refine lv_istore (lv' := [(4, .int 1), (6, .int (nI (wdt (rac pl (j + 1))))), (3, .int (nI (rac pl (j + 1)))), (2, .int (nI (rrc n0 pl (j + 1)))), (5, .int 0), (0, .ref y), (1, .int (nI n0))]) hx hb d_M_readRun_137 hl (by decide) rfl (fun ls hl => ?_)
                        refine lv_goto (tgt := 60) hx hb d_M_readRun_139 (by decide) ?_
                        exact ih (j + 1) (by omega) H locs hP hD hS ls (lv_sub hl [1, 4, 0, 2, 3, 5, 6] rfl)
        exact loop m0 0 (by omega) H locs hP hD hS ls (lv_sub hl [0, 1, 2, 3, 4, 5, 6] rfl)
      · skip
        exact absurd (by decide) c_3
    · skip
      exact absurd (nI_le hn (by omega)) c_2
set_option maxHeartbeats 4000000 in
set_option maxRecDepth 100000 in
theorem c_M_readRunE (l : Launch) (D : va_G) (y ms mw mu mc mn mr mq md bi ne li sp q sz wa : Nat) (th en la at0 lk : Int32) (cB cI : ClassId) (st lw wq : Nat → Int32) (pl n0 m0 : Nat) (hst : st 1 = nI pl) (hwa : wa ≤ 1000) (hqb : ∀ j, j < wa → wq j = 0 ∨ wq j = 1) (hpl : pl < 32) (hn1 : 1 ≤ n0) (hn : n0 ≤ 65535) (hm1 : ∀ j, j < m0 → 2 ^ wdt (rac pl j) < rrc n0 pl j) (hmb : ∀ j, j < m0 → wq j = 1) (hmh : m0 ≤ wa) (hmh2 : m0 < wa) (hz : wq m0 = 1) (he : rrc n0 pl m0 ≤ 2 ^ wdt (rac pl m0)) : Met l y_M_readRun (WSY y_M_readRun b_M_readRun 8 (some .int)) ({ frames := 2, cells := 0, slots := 0, locals := 50 }) (va_Pc [.ref y, .int (nI n0)] (fun U => va_P D CLS [(y, .inr (5, [.int th, .int (nI bi), .int (nI ne), .int (nI li), .int (nI sp), .int (nI q), .ref ms, .ref mw, .ref mu, .ref mc, .ref mn, .int en, .int (nI sz), .ref mr, .int (nI wa), .ref mq, .int la, .ref md, .int at0, .int lk])), (ms, .inl (cI, 2, .inl st)), (mw, .inl (cI, 2, .inl lw)), (mq, .inl (cB, 1000, .inl wq))] U.heap ∧ va_K D CLS [(cB, .byte), (cI, .int)] U ∧ va_D (fun _ => True) [(y, .inr (5, [.int th, .int (nI bi), .int (nI ne), .int (nI li), .int (nI sp), .int (nI q), .ref ms, .ref mw, .ref mu, .ref mc, .ref mn, .int en, .int (nI sz), .ref mr, .int (nI wa), .ref mq, .int la, .ref md, .int at0, .int lk])), (ms, .inl (cI, 2, .inl st)), (mw, .inl (cI, 2, .inl lw)), (mq, .inl (cB, 1000, .inl wq))])) (QM (some (.int (nI n0))) [(y, .inr (5, [.int th, .int (nI bi), .int (nI ne), .int (nI li), .int (nI sp), .int (nI q), .ref ms, .ref mw, .ref mu, .ref mc, .ref mn, .int en, .int (nI sz), .ref mr, .int (nI wa), .ref mq, .int la, .ref md, .int at0, .int lk])), (ms, .inl (cI, 2, .inl st)), (mw, .inl (cI, 2, .inl lw)), (mq, .inl (cB, 1000, .inl wq))] [(y, .inr (5, [.int 0, .int (nI bi), .int (nI ne), .int (nI li), .int (nI sp), .int (nI q), .ref ms, .ref mw, .ref mu, .ref mc, .ref mn, .int 0, .int (nI sz), .ref mr, .int (nI (wa - (m0 + 1))), .ref mq, .int la, .ref md, .int (nI (m0 + 1)), .int 0])), (ms, .inl (cI, 2, .inl (upd st 1 (nI (if 2 ^ wdt (rac pl m0) = rrc n0 pl m0 then rac pl (m0 + 1) else rac pl m0))))), (mw, .inl (cI, 2, .inl (upd lw 1 (nI (wdt (if 2 ^ wdt (rac pl m0) = rrc n0 pl m0 then rac pl (m0 + 1) else rac pl m0)))))), (mq, .inl (cB, 1000, .inl (gof wq (m0 + 1) (wa - (m0 + 1)))))] D) 0 0 (ad [(y, .inr (5, [.int th, .int (nI bi), .int (nI ne), .int (nI li), .int (nI sp), .int (nI q), .ref ms, .ref mw, .ref mu, .ref mc, .ref mn, .int en, .int (nI sz), .ref mr, .int (nI wa), .ref mq, .int la, .ref md, .int at0, .int lk])), (ms, .inl (cI, 2, .inl st)), (mw, .inl (cI, 2, .inl lw)), (mq, .inl (cB, 1000, .inl wq))]) := by
  refine Met.ofW (cc := b_M_readRun) (maxL := 8) (ret := (some .int)) (by decide) rfl ?_
  intro p e s m args below meth c s₁ B hml hv
  obtain ⟨rfl, hP, hK, hD0⟩ := hv
  have hx := B.exec
  have hb := B.bytes
  have hr := B.returns
  have hts := atoms_spec (ws := WSY y_M_readRun b_M_readRun 8 (some .int)) B.pre
  have hg : ∀ w ∈ GW, w.before _ s = true := fun w h => hts w (List.mem_cons_of_mem _ h)
  have hown : s.vm.findClass "LineGolombModel" = some m.cls := findClass_of_methodNamed B.named
  have hlocks := B.notSynchronized
  obtain ⟨A, hAe⟩ : ∃ A, A = ad [(y, .inr (5, [.int th, .int (nI bi), .int (nI ne), .int (nI li), .int (nI sp), .int (nI q), .ref ms, .ref mw, .ref mu, .ref mc, .ref mn, .int en, .int (nI sz), .ref mr, .int (nI wa), .ref mq, .int la, .ref md, .int at0, .int lk])), (ms, .inl (cI, 2, .inl st)), (mw, .inl (cI, 2, .inl lw)), (mq, .inl (cB, 1000, .inl wq))] := ⟨_, rfl⟩
  have hD : va_D A [(y, .inr (5, [.int th, .int (nI bi), .int (nI ne), .int (nI li), .int (nI sp), .int (nI q), .ref ms, .ref mw, .ref mu, .ref mc, .ref mn, .int en, .int (nI sz), .ref mr, .int (nI wa), .ref mq, .int la, .ref md, .int at0, .int lk])), (ms, .inl (cI, 2, .inl st)), (mw, .inl (cI, 2, .inl lw)), (mq, .inl (cB, 1000, .inl wq))] := by rw [hAe]; exact va_D_ad hD0
  have hS : va_S A s.heap s.heap [] := va_S.rf
  have hl := lv_entry ([.ref y, .int (nI n0)]) (n := 8) (Nat.le_of_ble_eq_true rfl)
  rw [lg_entry_eq]
  generalize (lg_sl ([.ref y, .int (nI n0)]) ++ List.replicate (8 - (lg_sl ([.ref y, .int (nI n0)])).length) Slot.unset).toArray = ls at hl ⊢
  have hl : lv_has ls 8 [(0, .ref y), (1, .int (nI n0))] := hl
  have hwd := wdt_le (rac pl m0) (rac_lt hpl m0)
  have hrl := rrc_le n0 pl m0
  refine lv_aload_n hx hb d_M_readRun_0 rfl (lv_at hl 0 rfl) ?_
  refine lv_iload_n hx hb d_M_readRun_1 rfl (lv_at hl 1 rfl) ?_
  refine lv_iconst (v := 1) hx hb d_M_readRun_2 (by decide) ?_
  refine lv_icmp_lt (tgt := 12) hx hb d_M_readRun_3 (by decide) (fun c_1 => ?_) (fun c_1 => ?_)
  · skip
    exact absurd ((nI_ltI (b := 1) (by omega) (by omega)).mp c_1) (by omega)
  · skip
    refine lv_iload_n hx hb d_M_readRun_6 rfl (lv_at hl 1 rfl) ?_
    refine lv_ldc (v := 65535) hx hb hown (hg _ gw_618) d_M_readRun_7 ?_
    refine lv_icmp_le (tgt := 16) hx hb d_M_readRun_9 (by decide) (fun c_2 => ?_) (fun c_2 => ?_)
    · skip
      refine lv_iconst (v := 0) hx hb d_M_readRun_16 (by decide) ?_
      refine va_put (D := D) (ci := 5) (v := .int 0) (ty := .int) (C := R_M) (T := T_M) (N := 20) hx hb hg in_M ty_M tok_M nm_M hown hK hP hD hS 0 rfl rfl 0 (by decide) (hg _ gw_524) (fun _ h9 => h9) rfl (by decide +kernel) (rfl) (rfl) (Nat.le_of_ble_eq_true rfl) d_M_readRun_17 (fun H locs hP hD hS => ?_)
      have hP : va_P D CLS [(y, .inr (5, [.int 0, .int (nI bi), .int (nI ne), .int (nI li), .int (nI sp), .int (nI q), .ref ms, .ref mw, .ref mu, .ref mc, .ref mn, .int en, .int (nI sz), .ref mr, .int (nI wa), .ref mq, .int la, .ref md, .int at0, .int lk])), (ms, .inl (cI, 2, .inl st)), (mw, .inl (cI, 2, .inl lw)), (mq, .inl (cB, 1000, .inl wq))] H := hP
      have hD : va_D A [(y, .inr (5, [.int 0, .int (nI bi), .int (nI ne), .int (nI li), .int (nI sp), .int (nI q), .ref ms, .ref mw, .ref mu, .ref mc, .ref mn, .int en, .int (nI sz), .ref mr, .int (nI wa), .ref mq, .int la, .ref md, .int at0, .int lk])), (ms, .inl (cI, 2, .inl st)), (mw, .inl (cI, 2, .inl lw)), (mq, .inl (cB, 1000, .inl wq))] := hD
      refine lv_aload_n hx hb d_M_readRun_20 rfl (lv_at hl 0 rfl) ?_
      refine va_get (D := D) (ci := 5) (v := .int 0) (C := R_M) (T := T_M) (N := 20) hx hb hg in_M hown hK hP 0 rfl rfl 0 (by decide) (hg _ gw_524) (fun _ h9 => h9) rfl d_M_readRun_21 ?_
      refine lv_if_le (tgt := 29) hx hb d_M_readRun_24 (by decide) (fun c_3 => ?_) (fun c_3 => ?_)
      · skip
        refine lv_aload_n hx hb d_M_readRun_29 rfl (lv_at hl 0 rfl) ?_
        refine lv_iconst (v := 0) hx hb d_M_readRun_30 (by decide) ?_
        refine tpi (y := nI 0) (rfl) ?_
        refine va_put (D := D) (ci := 5) (v := .int (nI 0)) (ty := .int) (C := R_M) (T := T_M) (N := 20) hx hb hg in_M ty_M tok_M nm_M hown hK hP hD hS 0 rfl rfl 18 (by decide) (hg _ gw_542) (fun _ h9 => h9) rfl (by decide +kernel) (rfl) (rfl) (Nat.le_of_ble_eq_true rfl) d_M_readRun_31 (fun H locs hP hD hS => ?_)
        have hP : va_P D CLS [(y, .inr (5, [.int 0, .int (nI bi), .int (nI ne), .int (nI li), .int (nI sp), .int (nI q), .ref ms, .ref mw, .ref mu, .ref mc, .ref mn, .int en, .int (nI sz), .ref mr, .int (nI wa), .ref mq, .int la, .ref md, .int (nI 0), .int lk])), (ms, .inl (cI, 2, .inl st)), (mw, .inl (cI, 2, .inl lw)), (mq, .inl (cB, 1000, .inl wq))] H := hP
        have hD : va_D A [(y, .inr (5, [.int 0, .int (nI bi), .int (nI ne), .int (nI li), .int (nI sp), .int (nI q), .ref ms, .ref mw, .ref mu, .ref mc, .ref mn, .int en, .int (nI sz), .ref mr, .int (nI wa), .ref mq, .int la, .ref md, .int (nI 0), .int lk])), (ms, .inl (cI, 2, .inl st)), (mw, .inl (cI, 2, .inl lw)), (mq, .inl (cB, 1000, .inl wq))] := hD
        refine lv_aload_n hx hb d_M_readRun_34 rfl (lv_at hl 0 rfl) ?_
        refine lv_iconst (v := 0) hx hb d_M_readRun_35 (by decide) ?_
        refine va_put (D := D) (ci := 5) (v := .int 0) (ty := .boolean) (C := R_M) (T := T_M) (N := 20) hx hb hg in_M ty_M tok_M nm_M hown hK hP hD hS 0 rfl rfl 19 (by decide) (hg _ gw_543) (fun _ h9 => h9) rfl (by decide +kernel) (rfl) (rfl) (Nat.le_of_ble_eq_true rfl) d_M_readRun_36 (fun H locs hP hD hS => ?_)
        have hP : va_P D CLS [(y, .inr (5, [.int 0, .int (nI bi), .int (nI ne), .int (nI li), .int (nI sp), .int (nI q), .ref ms, .ref mw, .ref mu, .ref mc, .ref mn, .int en, .int (nI sz), .ref mr, .int (nI wa), .ref mq, .int la, .ref md, .int (nI 0), .int 0])), (ms, .inl (cI, 2, .inl st)), (mw, .inl (cI, 2, .inl lw)), (mq, .inl (cB, 1000, .inl wq))] H := hP
        have hD : va_D A [(y, .inr (5, [.int 0, .int (nI bi), .int (nI ne), .int (nI li), .int (nI sp), .int (nI q), .ref ms, .ref mw, .ref mu, .ref mc, .ref mn, .int en, .int (nI sz), .ref mr, .int (nI wa), .ref mq, .int la, .ref md, .int (nI 0), .int 0])), (ms, .inl (cI, 2, .inl st)), (mw, .inl (cI, 2, .inl lw)), (mq, .inl (cB, 1000, .inl wq))] := hD
        refine lv_iload_n hx hb d_M_readRun_39 rfl (lv_at hl 1 rfl) ?_
        refine lv_istore_n (lv' := [(2, .int (nI n0)), (0, .ref y), (1, .int (nI n0))]) hx hb d_M_readRun_40 rfl hl (by decide) rfl (fun ls hl => ?_)
        refine lv_aload_n hx hb d_M_readRun_41 rfl (lv_at hl 1 rfl) ?_
        refine va_get (D := D) (ci := 5) (v := .ref ms) (C := R_M) (T := T_M) (N := 20) hx hb hg in_M hown hK hP 0 rfl rfl 6 (by decide) (hg _ gw_530) (fun _ h9 => h9) rfl d_M_readRun_42 ?_
        refine lv_iconst (v := 1) hx hb d_M_readRun_45 (by decide) ?_
        refine va_iald hx hb hK hP 1 1 rfl rfl (vp_in_nI (n := 1) (by decide) (by decide)) d_M_readRun_46 ?_
        refine tpi (y := nI pl) (hst) ?_
        refine lv_istore_n (lv' := [(3, .int (nI pl)), (2, .int (nI n0)), (0, .ref y), (1, .int (nI n0))]) hx hb d_M_readRun_47 rfl hl (by decide) rfl (fun ls hl => ?_)
        refine lv_iconst (v := 1) hx hb d_M_readRun_48 (by decide) ?_
        refine lv_istore (lv' := [(4, .int 1), (3, .int (nI pl)), (2, .int (nI n0)), (0, .ref y), (1, .int (nI n0))]) hx hb d_M_readRun_49 hl (by decide) rfl (fun ls hl => ?_)
        refine lv_iconst (v := 0) hx hb d_M_readRun_51 (by decide) ?_
        refine lv_istore (lv' := [(5, .int 0), (4, .int 1), (3, .int (nI pl)), (2, .int (nI n0)), (0, .ref y), (1, .int (nI n0))]) hx hb d_M_readRun_52 hl (by decide) rfl (fun ls hl => ?_)
        refine lv_iload_n hx hb d_M_readRun_54 rfl (lv_at hl 2 rfl) ?_
        have hPc := hP.sub (ws' := []) [] rfl
        have hKc := hK.sub (tys' := []) [] rfl
        refine pci (va_runS (As := [.int (nI pl)]) (rest := []) ⟨hx, hb, hml, hown, hg⟩ (c_M_widthOf l D pl hpl) (va_cwS 1 hg (gS gw_619 gw_620 gw_7 gw_621) rfl rfl rfl (by decide +kernel) ⟨Nat.le_of_ble_eq_true rfl, Nat.le_of_ble_eq_true rfl⟩) ⟨fun a U g mk q => by obtain ⟨q0, qP, qK⟩ := q; exact ⟨q0, qP, va_K.moved (u := U) (U := U.calling g mk a) (Vm.Alike.refl U.vm) qK⟩, fun U hU hW => ⟨rfl, by rw [hU]; exact hPc, va_K.moved hW.alike hKc⟩⟩ rfl rfl hl.1 rfl (lv_room (Nat.le_of_ble_eq_true rfl)) d_M_readRun_55 (⟨Nat.le_of_ble_eq_true rfl, Nat.le_of_ble_eq_true rfl⟩)) ?_
        refine lv_istore (lv' := [(6, .int (nI (wdt pl))), (5, .int 0), (4, .int 1), (3, .int (nI pl)), (2, .int (nI n0)), (0, .ref y), (1, .int (nI n0))]) hx hb d_M_readRun_58 hl (by decide) rfl (fun ls hl => ?_)
        have loop : ∀ (d j : Nat), j + d = m0 → ∀ (H : Heap) (locs : List Loc), va_P D CLS [(y, .inr (5, [.int 0, .int (nI bi), .int (nI ne), .int (nI li), .int (nI sp), .int (nI q), .ref ms, .ref mw, .ref mu, .ref mc, .ref mn, .int en, .int (nI sz), .ref mr, .int (nI wa), .ref mq, .int la, .ref md, .int (nI j), .int 0])), (ms, .inl (cI, 2, .inl st)), (mw, .inl (cI, 2, .inl lw)), (mq, .inl (cB, 1000, .inl wq))] H → va_D A [(y, .inr (5, [.int 0, .int (nI bi), .int (nI ne), .int (nI li), .int (nI sp), .int (nI q), .ref ms, .ref mw, .ref mu, .ref mc, .ref mn, .int en, .int (nI sz), .ref mr, .int (nI wa), .ref mq, .int la, .ref md, .int (nI j), .int 0])), (ms, .inl (cI, 2, .inl st)), (mw, .inl (cI, 2, .inl lw)), (mq, .inl (cB, 1000, .inl wq))] → va_S A s.heap H locs → ∀ (ls : Array Slot), lv_has ls 8 [(6, .int (nI (wdt (rac pl j)))), (5, .int 0), (4, .int 1), (3, .int (nI (rac pl j))), (2, .int (nI (rrc n0 pl j))), (0, .ref y), (1, .int (nI n0))] → W p l e (headSpec (WSY y_M_readRun b_M_readRun 8 (some .int)) ({ frames := 2, cells := 0, slots := 0, locals := 50 })).room s m ([.ref y, .int (nI n0)] : List Value).toArray below meth c H locs 0 0 (MQ below (QM (some (.int (nI n0))) [(y, .inr (5, [.int th, .int (nI bi), .int (nI ne), .int (nI li), .int (nI sp), .int (nI q), .ref ms, .ref mw, .ref mu, .ref mc, .ref mn, .int en, .int (nI sz), .ref mr, .int (nI wa), .ref mq, .int la, .ref md, .int at0, .int lk])), (ms, .inl (cI, 2, .inl st)), (mw, .inl (cI, 2, .inl lw)), (mq, .inl (cB, 1000, .inl wq))] [(y, .inr (5, [.int 0, .int (nI bi), .int (nI ne), .int (nI li), .int (nI sp), .int (nI q), .ref ms, .ref mw, .ref mu, .ref mc, .ref mn, .int 0, .int (nI sz), .ref mr, .int (nI (wa - (m0 + 1))), .ref mq, .int la, .ref md, .int (nI (m0 + 1)), .int 0])), (ms, .inl (cI, 2, .inl (upd st 1 (nI (if 2 ^ wdt (rac pl m0) = rrc n0 pl m0 then rac pl (m0 + 1) else rac pl m0))))), (mw, .inl (cI, 2, .inl (upd lw 1 (nI (wdt (if 2 ^ wdt (rac pl m0) = rrc n0 pl m0 then rac pl (m0 + 1) else rac pl m0)))))), (mq, .inl (cB, 1000, .inl (gof wq (m0 + 1) (wa - (m0 + 1)))))] D) ([.ref y, .int (nI n0)] : List Value).toArray s 0 0 (ad [(y, .inr (5, [.int th, .int (nI bi), .int (nI ne), .int (nI li), .int (nI sp), .int (nI q), .ref ms, .ref mw, .ref mu, .ref mc, .ref mn, .int en, .int (nI sz), .ref mr, .int (nI wa), .ref mq, .int la, .ref md, .int at0, .int lk])), (ms, .inl (cI, 2, .inl st)), (mw, .inl (cI, 2, .inl lw)), (mq, .inl (cB, 1000, .inl wq))])) (F0 m 60 ls []) := by
          intro d
          induction d with
          | zero =>
            intro j hj H locs hP hD hS ls hl
            obtain rfl : m0 = j := by omega
            have hwj := wdt_le (rac pl m0) (rac_lt hpl m0)
            have hpj := pw15 hwj
            have hrj := rrc_le n0 pl m0
            have hlj := rac_lt hpl m0
            refine lv_iload hx hb d_M_readRun_60 (lv_at hl 2 rfl) ?_
            refine lv_if_eq (tgt := 200) hx hb d_M_readRun_62 (by decide) (fun c_4 => ?_) (fun c_4 => ?_)
            · skip
              exact absurd c_4 (by decide)
            · skip
              refine lv_aload_n hx hb d_M_readRun_65 rfl (lv_at hl 5 rfl) ?_
              refine va_get (D := D) (ci := 5) (v := .int 0) (C := R_M) (T := T_M) (N := 20) hx hb hg in_M hown hK hP 0 rfl rfl 19 (by decide) (hg _ gw_543) (fun _ h9 => h9) rfl d_M_readRun_66 ?_
              refine lv_if_ne (tgt := 200) hx hb d_M_readRun_69 (by decide) (fun c_5 => ?_) (fun c_5 => ?_)
              · skip
                exact absurd rfl c_5
              · skip
                refine lv_iload_n hx hb d_M_readRun_72 rfl (lv_at hl 3 rfl) ?_
                have hPc := hP.sub (ws' := []) [] rfl
                have hKc := hK.sub (tys' := []) [] rfl
                refine pci (va_runS (As := [.int (nI (rac pl m0))]) (rest := []) ⟨hx, hb, hml, hown, hg⟩ (c_M_widthOf l D (rac pl m0) (rac_lt hpl m0)) (va_cwS 1 hg (gS gw_619 gw_620 gw_7 gw_621) rfl rfl rfl (by decide +kernel) ⟨Nat.le_of_ble_eq_true rfl, Nat.le_of_ble_eq_true rfl⟩) ⟨fun a U g mk q => by obtain ⟨q0, qP, qK⟩ := q; exact ⟨q0, qP, va_K.moved (u := U) (U := U.calling g mk a) (Vm.Alike.refl U.vm) qK⟩, fun U hU hW => ⟨rfl, by rw [hU]; exact hPc, va_K.moved hW.alike hKc⟩⟩ rfl rfl hl.1 rfl (lv_room (Nat.le_of_ble_eq_true rfl)) d_M_readRun_73 (⟨Nat.le_of_ble_eq_true rfl, Nat.le_of_ble_eq_true rfl⟩)) ?_
                refine lv_istore (lv' := [(6, .int (nI (wdt (rac pl m0)))), (5, .int 0), (4, .int 1), (3, .int (nI (rac pl m0))), (2, .int (nI (rrc n0 pl m0))), (0, .ref y), (1, .int (nI n0))]) hx hb d_M_readRun_76 hl (by decide) rfl (fun ls hl => ?_)
                refine lv_aload_n hx hb d_M_readRun_78 rfl (lv_at hl 5 rfl) ?_
                have hPc := hP.sub (ws' := [(y, .inr (5, [.int 0, .int (nI bi), .int (nI ne), .int (nI li), .int (nI sp), .int (nI q), .ref ms, .ref mw, .ref mu, .ref mc, .ref mn, .int en, .int (nI sz), .ref mr, .int (nI wa), .ref mq, .int la, .ref md, .int (nI m0), .int 0])), (mq, .inl (cB, 1000, .inl wq))]) [0, 3] rfl
                have hDc := hD.sub (ws' := [(y, .inr (5, [.int 0, .int (nI bi), .int (nI ne), .int (nI li), .int (nI sp), .int (nI q), .ref ms, .ref mw, .ref mu, .ref mc, .ref mn, .int en, .int (nI sz), .ref mr, .int (nI wa), .ref mq, .int la, .ref md, .int (nI m0), .int 0])), (mq, .inl (cB, 1000, .inl wq))]) [0, 3] (by decide) rfl
                have hKc := hK.sub (tys' := [(cB, .byte)]) [0] rfl
                refine mci (va_runV (As := []) (rest := []) ⟨hx, hb, hml, hown, hg⟩ (c_M_next l D y ms mw mu mc mn mr mq md bi ne li sp q sz wa 0 en la at0 0 cB wq m0 hwa (by omega)) (cwV 0 hg (gV gw_678 gw_680 gs_26 gw_7 gw_681) rfl rfl rfl (by decide +kernel) ⟨Nat.le_of_ble_eq_true rfl, Nat.le_of_ble_eq_true rfl⟩) ⟨fun a U g mk q => by obtain ⟨q0, qP, qK, qD⟩ := q; exact ⟨q0, qP, va_K.moved (u := U) (U := U.calling g mk a) (Vm.Alike.refl U.vm) qK, qD⟩, va_recv hKc hPc (ci := 5) (q0 := 0) rfl rfl, fun U hU hW => ⟨rfl, by rw [hU]; exact hPc, va_K.moved hW.alike hKc, hDc.weaken (fun _ _ _ _ => trivial)⟩⟩ rfl rfl hl.1 rfl (lv_room (Nat.le_of_ble_eq_true rfl)) d_M_readRun_79 (⟨Nat.le_of_ble_eq_true rfl, Nat.le_of_ble_eq_true rfl⟩)) hS hP hD [0, 3] rfl rfl rfl (fun H locs hP hD hS => ?_)
                have hP : va_P D CLS [(y, .inr (5, [.int 0, .int (nI bi), .int (nI ne), .int (nI li), .int (nI sp), .int (nI q), .ref ms, .ref mw, .ref mu, .ref mc, .ref mn, .int en, .int (nI sz), .ref mr, .int (nI wa), .ref mq, .int la, .ref md, .int (nI (m0 + 1)), .int 0])), (ms, .inl (cI, 2, .inl st)), (mw, .inl (cI, 2, .inl lw)), (mq, .inl (cB, 1000, .inl wq))] H := hP
                have hD : va_D A [(y, .inr (5, [.int 0, .int (nI bi), .int (nI ne), .int (nI li), .int (nI sp), .int (nI q), .ref ms, .ref mw, .ref mu, .ref mc, .ref mn, .int en, .int (nI sz), .ref mr, .int (nI wa), .ref mq, .int la, .ref md, .int (nI (m0 + 1)), .int 0])), (ms, .inl (cI, 2, .inl st)), (mw, .inl (cI, 2, .inl lw)), (mq, .inl (cB, 1000, .inl wq))] := hD
                refine tpi (y := 1) (hz) ?_
                refine lv_iconst (v := 1) hx hb d_M_readRun_82 (by decide) ?_
                refine lv_icmp_ne (tgt := 142) hx hb d_M_readRun_83 (by decide) (fun c_6 => ?_) (fun c_6 => ?_)
                · skip
                  exact absurd rfl c_6
                · skip
                  refine lv_iload hx hb d_M_readRun_86 (lv_at hl 0 rfl) ?_
                  have hPc := hP.sub (ws' := []) [] rfl
                  have hKc := hK.sub (tys' := []) [] rfl
                  refine pci (va_runS (As := [.int (nI (wdt (rac pl m0)))]) (rest := []) ⟨hx, hb, hml, hown, hg⟩ (c_M_power l D (wdt (rac pl m0)) (by omega)) (va_cwS 1 hg (gS gw_517 gw_518 gw_7 gw_519) rfl rfl rfl (by decide +kernel) ⟨Nat.le_of_ble_eq_true rfl, Nat.le_of_ble_eq_true rfl⟩) ⟨fun a U g mk q => by obtain ⟨q0, qP, qK⟩ := q; exact ⟨q0, qP, va_K.moved (u := U) (U := U.calling g mk a) (Vm.Alike.refl U.vm) qK⟩, fun U hU hW => ⟨rfl, by rw [hU]; exact hPc, va_K.moved hW.alike hKc⟩⟩ rfl rfl hl.1 rfl (lv_room (Nat.le_of_ble_eq_true rfl)) d_M_readRun_88 (⟨Nat.le_of_ble_eq_true rfl, Nat.le_of_ble_eq_true rfl⟩)) ?_
                  refine lv_iload_n hx hb d_M_readRun_91 rfl (lv_at hl 4 rfl) ?_
                  refine lv_icmp_gt (tgt := 126) hx hb d_M_readRun_92 (by decide) (fun c_7 => ?_) (fun c_7 => ?_)
                  · skip
                    have hlt := (nI_ltI (by omega) (by omega)).mp c_7
                    have hae : (if 2 ^ wdt (rac pl m0) = rrc n0 pl m0 then rac pl (m0 + 1) else rac pl m0) = rac pl m0 := if_neg (by omega)
                    refine lv_iconst (v := 0) hx hb d_M_readRun_126 (by decide) ?_
                    refine lv_istore_n (lv' := [(2, .int 0), (6, .int (nI (wdt (rac pl m0)))), (5, .int 0), (4, .int 1), (3, .int (nI (rac pl m0))), (0, .ref y), (1, .int (nI n0))]) hx hb d_M_readRun_127 rfl hl (by decide) rfl (fun ls hl => ?_)
                    refine lv_iload_n hx hb d_M_readRun_128 rfl (lv_at hl 0 rfl) ?_
                    refine lv_if_le (tgt := 136) hx hb d_M_readRun_129 (by decide) (fun c_8 => ?_) (fun c_8 => ?_)
                    · skip
                      refine lv_iconst (v := 0) hx hb d_M_readRun_136 (by decide) ?_
                      refine lv_istore (lv' := [(4, .int 0), (2, .int 0), (6, .int (nI (wdt (rac pl m0)))), (5, .int 0), (3, .int (nI (rac pl m0))), (0, .ref y), (1, .int (nI n0))]) hx hb d_M_readRun_137 hl (by decide) rfl (fun ls hl => ?_)
                      refine lv_goto (tgt := 60) hx hb d_M_readRun_139 (by decide) ?_
                      refine lv_iload hx hb d_M_readRun_60 (lv_at hl 0 rfl) ?_
                      refine lv_if_eq (tgt := 200) hx hb d_M_readRun_62 (by decide) (fun c_9 => ?_) (fun c_9 => ?_)
                      · skip
                        refine lv_aload_n hx hb d_M_readRun_200 rfl (lv_at hl 5 rfl) ?_
                        refine va_get (D := D) (ci := 5) (v := .int 0) (C := R_M) (T := T_M) (N := 20) hx hb hg in_M hown hK hP 0 rfl rfl 19 (by decide) (hg _ gw_543) (fun _ h9 => h9) rfl d_M_readRun_201 ?_
                        refine lv_if_eq (tgt := 209) hx hb d_M_readRun_204 (by decide) (fun c_10 => ?_) (fun c_10 => ?_)
                        · skip
                          refine lv_aload_n hx hb d_M_readRun_209 rfl (lv_at hl 5 rfl) ?_
                          refine lv_aload_n hx hb d_M_readRun_210 rfl (lv_at hl 5 rfl) ?_
                          refine va_get (D := D) (ci := 5) (v := .int (nI (m0 + 1))) (C := R_M) (T := T_M) (N := 20) hx hb hg in_M hown hK hP 0 rfl rfl 18 (by decide) (hg _ gw_542) (fun _ h9 => h9) rfl d_M_readRun_211 ?_
                          have hPc := hP.sub (ws' := [(y, .inr (5, [.int 0, .int (nI bi), .int (nI ne), .int (nI li), .int (nI sp), .int (nI q), .ref ms, .ref mw, .ref mu, .ref mc, .ref mn, .int en, .int (nI sz), .ref mr, .int (nI wa), .ref mq, .int la, .ref md, .int (nI (m0 + 1)), .int 0])), (mq, .inl (cB, 1000, .inl wq))]) [0, 3] rfl
                          have hDc := hD.sub (ws' := [(y, .inr (5, [.int 0, .int (nI bi), .int (nI ne), .int (nI li), .int (nI sp), .int (nI q), .ref ms, .ref mw, .ref mu, .ref mc, .ref mn, .int en, .int (nI sz), .ref mr, .int (nI wa), .ref mq, .int la, .ref md, .int (nI (m0 + 1)), .int 0])), (mq, .inl (cB, 1000, .inl wq))]) [0, 3] (by decide) rfl
                          have hKc := hK.sub (tys' := [(cB, .byte)]) [0] rfl
                          refine mcv (va_runV (As := [.int (nI (m0 + 1))]) (rest := []) ⟨hx, hb, hml, hown, hg⟩ (c_M_go l D y ms mw mu mc mn mr mq md bi ne li sp q sz wa 0 en la (nI (m0 + 1)) 0 cB wq (m0 + 1) hwa (by omega) hqb) (cwV 1 hg (gV gw_686 gw_688 gs_28 gw_7 gw_689) rfl rfl rfl (by decide +kernel) ⟨Nat.le_of_ble_eq_true rfl, Nat.le_of_ble_eq_true rfl⟩) ⟨fun a U g mk q => by obtain ⟨q0, qP, qK, qD⟩ := q; exact ⟨q0, qP, va_K.moved (u := U) (U := U.calling g mk a) (Vm.Alike.refl U.vm) qK, qD⟩, va_recv hKc hPc (ci := 5) (q0 := 0) rfl rfl, fun U hU hW => ⟨rfl, by rw [hU]; exact hPc, va_K.moved hW.alike hKc, hDc.weaken (fun _ _ _ _ => trivial)⟩⟩ rfl rfl hl.1 rfl (lv_room (Nat.le_of_ble_eq_true rfl)) d_M_readRun_214 (⟨Nat.le_of_ble_eq_true rfl, Nat.le_of_ble_eq_true rfl⟩)) hS hP hD [0, 3] rfl rfl rfl (fun H locs hP hD hS => ?_)
                          have hP : va_P D CLS [(y, .inr (5, [.int 0, .int (nI bi), .int (nI ne), .int (nI li), .int (nI sp), .int (nI q), .ref ms, .ref mw, .ref mu, .ref mc, .ref mn, .int en, .int (nI sz), .ref mr, .int (nI (wa - (m0 + 1))), .ref mq, .int la, .ref md, .int (nI (m0 + 1)), .int 0])), (ms, .inl (cI, 2, .inl st)), (mw, .inl (cI, 2, .inl lw)), (mq, .inl (cB, 1000, .inl (gof wq (m0 + 1) (wa - (m0 + 1)))))] H := hP
                          have hD : va_D A [(y, .inr (5, [.int 0, .int (nI bi), .int (nI ne), .int (nI li), .int (nI sp), .int (nI q), .ref ms, .ref mw, .ref mu, .ref mc, .ref mn, .int en, .int (nI sz), .ref mr, .int (nI (wa - (m0 + 1))), .ref mq, .int la, .ref md, .int (nI (m0 + 1)), .int 0])), (ms, .inl (cI, 2, .inl st)), (mw, .inl (cI, 2, .inl lw)), (mq, .inl (cB, 1000, .inl (gof wq (m0 + 1) (wa - (m0 + 1)))))] := hD
                          refine lv_aload_n hx hb d_M_readRun_217 rfl (lv_at hl 5 rfl) ?_
                          refine va_get (D := D) (ci := 5) (v := .ref ms) (C := R_M) (T := T_M) (N := 20) hx hb hg in_M hown hK hP 0 rfl rfl 6 (by decide) (hg _ gw_530) (fun _ h9 => h9) rfl d_M_readRun_218 ?_
                          refine lv_iconst (v := 1) hx hb d_M_readRun_221 (by decide) ?_
                          refine lv_iload_n hx hb d_M_readRun_222 rfl (lv_at hl 4 rfl) ?_
                          refine va_iast hx hb hK hP hD hS 1 1 rfl rfl (vp_in_nI (n := 1) (by decide) (by decide)) d_M_readRun_223 (fun H locs hP hD hS => ?_)
                          rw [show (1 : Int32).toNatClampNeg = 1 from rfl] at hP hD
                          have hP : va_P D CLS [(y, .inr (5, [.int 0, .int (nI bi), .int (nI ne), .int (nI li), .int (nI sp), .int (nI q), .ref ms, .ref mw, .ref mu, .ref mc, .ref mn, .int en, .int (nI sz), .ref mr, .int (nI (wa - (m0 + 1))), .ref mq, .int la, .ref md, .int (nI (m0 + 1)), .int 0])), (ms, .inl (cI, 2, .inl (upd st 1 (nI (rac pl m0))))), (mw, .inl (cI, 2, .inl lw)), (mq, .inl (cB, 1000, .inl (gof wq (m0 + 1) (wa - (m0 + 1)))))] H := hP
                          have hD : va_D A [(y, .inr (5, [.int 0, .int (nI bi), .int (nI ne), .int (nI li), .int (nI sp), .int (nI q), .ref ms, .ref mw, .ref mu, .ref mc, .ref mn, .int en, .int (nI sz), .ref mr, .int (nI (wa - (m0 + 1))), .ref mq, .int la, .ref md, .int (nI (m0 + 1)), .int 0])), (ms, .inl (cI, 2, .inl (upd st 1 (nI (rac pl m0))))), (mw, .inl (cI, 2, .inl lw)), (mq, .inl (cB, 1000, .inl (gof wq (m0 + 1) (wa - (m0 + 1)))))] := hD
                          refine lv_aload_n hx hb d_M_readRun_224 rfl (lv_at hl 5 rfl) ?_
                          refine va_get (D := D) (ci := 5) (v := .ref mw) (C := R_M) (T := T_M) (N := 20) hx hb hg in_M hown hK hP 0 rfl rfl 7 (by decide) (hg _ gw_531) (fun _ h9 => h9) rfl d_M_readRun_225 ?_
                          refine lv_iconst (v := 1) hx hb d_M_readRun_228 (by decide) ?_
                          refine lv_iload hx hb d_M_readRun_229 (lv_at hl 2 rfl) ?_
                          refine va_iast hx hb hK hP hD hS 2 1 rfl rfl (vp_in_nI (n := 1) (by decide) (by decide)) d_M_readRun_231 (fun H locs hP hD hS => ?_)
                          rw [show (1 : Int32).toNatClampNeg = 1 from rfl] at hP hD
                          have hP : va_P D CLS [(y, .inr (5, [.int 0, .int (nI bi), .int (nI ne), .int (nI li), .int (nI sp), .int (nI q), .ref ms, .ref mw, .ref mu, .ref mc, .ref mn, .int en, .int (nI sz), .ref mr, .int (nI (wa - (m0 + 1))), .ref mq, .int la, .ref md, .int (nI (m0 + 1)), .int 0])), (ms, .inl (cI, 2, .inl (upd st 1 (nI (rac pl m0))))), (mw, .inl (cI, 2, .inl (upd lw 1 (nI (wdt (rac pl m0)))))), (mq, .inl (cB, 1000, .inl (gof wq (m0 + 1) (wa - (m0 + 1)))))] H := hP
                          have hD : va_D A [(y, .inr (5, [.int 0, .int (nI bi), .int (nI ne), .int (nI li), .int (nI sp), .int (nI q), .ref ms, .ref mw, .ref mu, .ref mc, .ref mn, .int en, .int (nI sz), .ref mr, .int (nI (wa - (m0 + 1))), .ref mq, .int la, .ref md, .int (nI (m0 + 1)), .int 0])), (ms, .inl (cI, 2, .inl (upd st 1 (nI (rac pl m0))))), (mw, .inl (cI, 2, .inl (upd lw 1 (nI (wdt (rac pl m0)))))), (mq, .inl (cB, 1000, .inl (gof wq (m0 + 1) (wa - (m0 + 1)))))] := hD
                          refine lv_aload_n hx hb d_M_readRun_232 rfl (lv_at hl 5 rfl) ?_
                          refine lv_iload hx hb d_M_readRun_233 (lv_at hl 3 rfl) ?_
                          refine va_put (D := D) (ci := 5) (v := .int 0) (ty := .boolean) (C := R_M) (T := T_M) (N := 20) hx hb hg in_M ty_M tok_M nm_M hown hK hP hD hS 0 rfl rfl 11 (by decide) (hg _ gw_535) (fun _ h9 => h9) rfl (by decide +kernel) (rfl) (rfl) (Nat.le_of_ble_eq_true rfl) d_M_readRun_235 (fun H locs hP hD hS => ?_)
                          have hP : va_P D CLS [(y, .inr (5, [.int 0, .int (nI bi), .int (nI ne), .int (nI li), .int (nI sp), .int (nI q), .ref ms, .ref mw, .ref mu, .ref mc, .ref mn, .int 0, .int (nI sz), .ref mr, .int (nI (wa - (m0 + 1))), .ref mq, .int la, .ref md, .int (nI (m0 + 1)), .int 0])), (ms, .inl (cI, 2, .inl (upd st 1 (nI (rac pl m0))))), (mw, .inl (cI, 2, .inl (upd lw 1 (nI (wdt (rac pl m0)))))), (mq, .inl (cB, 1000, .inl (gof wq (m0 + 1) (wa - (m0 + 1)))))] H := hP
                          have hD : va_D A [(y, .inr (5, [.int 0, .int (nI bi), .int (nI ne), .int (nI li), .int (nI sp), .int (nI q), .ref ms, .ref mw, .ref mu, .ref mc, .ref mn, .int 0, .int (nI sz), .ref mr, .int (nI (wa - (m0 + 1))), .ref mq, .int la, .ref md, .int (nI (m0 + 1)), .int 0])), (ms, .inl (cI, 2, .inl (upd st 1 (nI (rac pl m0))))), (mw, .inl (cI, 2, .inl (upd lw 1 (nI (wdt (rac pl m0)))))), (mq, .inl (cB, 1000, .inl (gof wq (m0 + 1) (wa - (m0 + 1)))))] := hD
                          refine lv_iload_n hx hb d_M_readRun_238 rfl (lv_at hl 6 rfl) ?_
                          refine lv_iload_n hx hb d_M_readRun_239 rfl (lv_at hl 1 rfl) ?_
                          refine lv_isub hx hb d_M_readRun_240 ?_
                          refine tpi (y := nI n0) (Int32.sub_zero _) ?_
                          exact W.iret (v := nI n0) hx hb hr (fun t ht hW => ⟨rfl, by rw [ht]; exact (by rw [hae]; exact hP), (hAe ▸ hS).F ht⟩) (hAe ▸ hS).2.2 d_M_readRun_241
                        · skip
                          exact absurd rfl c_10
                      · skip
                        exact absurd rfl c_9
                    · skip
                      exact absurd (by decide) c_8
                  · skip
                    have hle : 2 ^ wdt (rac pl m0) ≤ rrc n0 pl m0 := by have : ¬ rrc n0 pl m0 < 2 ^ wdt (rac pl m0) := fun q9 => c_7 ((nI_ltI (by omega) (by omega)).mpr q9); omega
                    have hae : (if 2 ^ wdt (rac pl m0) = rrc n0 pl m0 then rac pl (m0 + 1) else rac pl m0) = rac pl (m0 + 1) := if_pos (by omega)
                    refine lv_iload_n hx hb d_M_readRun_95 rfl (lv_at hl 4 rfl) ?_
                    refine lv_iload hx hb d_M_readRun_96 (lv_at hl 0 rfl) ?_
                    have hPc := hP.sub (ws' := []) [] rfl
                    have hKc := hK.sub (tys' := []) [] rfl
                    refine pci (va_runS (As := [.int (nI (wdt (rac pl m0)))]) (rest := [.int (nI (rrc n0 pl m0))]) ⟨hx, hb, hml, hown, hg⟩ (c_M_power l D (wdt (rac pl m0)) (by omega)) (va_cwS 1 hg (gS gw_517 gw_518 gw_7 gw_519) rfl rfl rfl (by decide +kernel) ⟨Nat.le_of_ble_eq_true rfl, Nat.le_of_ble_eq_true rfl⟩) ⟨fun a U g mk q => by obtain ⟨q0, qP, qK⟩ := q; exact ⟨q0, qP, va_K.moved (u := U) (U := U.calling g mk a) (Vm.Alike.refl U.vm) qK⟩, fun U hU hW => ⟨rfl, by rw [hU]; exact hPc, va_K.moved hW.alike hKc⟩⟩ rfl rfl hl.1 rfl (lv_room (Nat.le_of_ble_eq_true rfl)) d_M_readRun_98 (⟨Nat.le_of_ble_eq_true rfl, Nat.le_of_ble_eq_true rfl⟩)) ?_
                    refine lv_isub hx hb d_M_readRun_101 ?_
                    refine tpi (y := 0) (by rw [pk_sub hle, show rrc n0 pl m0 - 2 ^ wdt (rac pl m0) = 0 by omega]; rfl) ?_
                    refine lv_istore_n (lv' := [(2, .int 0), (6, .int (nI (wdt (rac pl m0)))), (5, .int 0), (4, .int 1), (3, .int (nI (rac pl m0))), (0, .ref y), (1, .int (nI n0))]) hx hb d_M_readRun_102 rfl hl (by decide) rfl (fun ls hl => ?_)
                    refine lv_iload_n hx hb d_M_readRun_103 rfl (lv_at hl 4 rfl) ?_
                    refine lv_bipush (v := 31) hx hb d_M_readRun_104 (by decide) ?_
                    refine lv_icmp_ge (tgt := 115) hx hb d_M_readRun_106 (by decide) (fun c_11 => ?_) (fun c_11 => ?_)
                    · skip
                      have h31 := (nI_leI (a := 31) (by omega) (by omega)).mp c_11
                      refine lv_iload_n hx hb d_M_readRun_115 rfl (lv_at hl 4 rfl) ?_
                      refine tpi (y := nI (rac pl (m0 + 1))) (congrArg nI (show rac pl m0 = upp (rac pl m0) from (if_neg (by omega)).symm)) ?_
                      refine lv_istore_n (lv' := [(3, .int (nI (rac pl (m0 + 1)))), (2, .int 0), (6, .int (nI (wdt (rac pl m0)))), (5, .int 0), (4, .int 1), (0, .ref y), (1, .int (nI n0))]) hx hb d_M_readRun_116 rfl hl (by decide) rfl (fun ls hl => ?_)
                      refine lv_iload_n hx hb d_M_readRun_117 rfl (lv_at hl 0 rfl) ?_
                      have hPc := hP.sub (ws' := []) [] rfl
                      have hKc := hK.sub (tys' := []) [] rfl
                      refine pci (va_runS (As := [.int (nI (rac pl (m0 + 1)))]) (rest := []) ⟨hx, hb, hml, hown, hg⟩ (c_M_widthOf l D (rac pl (m0 + 1)) (rac_lt hpl (m0 + 1))) (va_cwS 1 hg (gS gw_619 gw_620 gw_7 gw_621) rfl rfl rfl (by decide +kernel) ⟨Nat.le_of_ble_eq_true rfl, Nat.le_of_ble_eq_true rfl⟩) ⟨fun a U g mk q => by obtain ⟨q0, qP, qK⟩ := q; exact ⟨q0, qP, va_K.moved (u := U) (U := U.calling g mk a) (Vm.Alike.refl U.vm) qK⟩, fun U hU hW => ⟨rfl, by rw [hU]; exact hPc, va_K.moved hW.alike hKc⟩⟩ rfl rfl hl.1 rfl (lv_room (Nat.le_of_ble_eq_true rfl)) d_M_readRun_118 (⟨Nat.le_of_ble_eq_true rfl, Nat.le_of_ble_eq_true rfl⟩)) ?_
                      refine lv_istore (lv' := [(6, .int (nI (wdt (rac pl (m0 + 1))))), (3, .int (nI (rac pl (m0 + 1)))), (2, .int 0), (5, .int 0), (4, .int 1), (0, .ref y), (1, .int (nI n0))]) hx hb d_M_readRun_121 hl (by decide) rfl (fun ls hl => ?_)
                      refine lv_goto (tgt := 128) hx hb d_M_readRun_123 (by decide) ?_
                      refine lv_iload_n hx hb d_M_readRun_128 rfl (lv_at hl 2 rfl) ?_
                      refine lv_if_le (tgt := 136) hx hb d_M_readRun_129 (by decide) (fun c_12 => ?_) (fun c_12 => ?_)
                      · skip
                        refine lv_iconst (v := 0) hx hb d_M_readRun_136 (by decide) ?_
                        refine lv_istore (lv' := [(4, .int 0), (6, .int (nI (wdt (rac pl (m0 + 1))))), (3, .int (nI (rac pl (m0 + 1)))), (2, .int 0), (5, .int 0), (0, .ref y), (1, .int (nI n0))]) hx hb d_M_readRun_137 hl (by decide) rfl (fun ls hl => ?_)
                        refine lv_goto (tgt := 60) hx hb d_M_readRun_139 (by decide) ?_
                        refine lv_iload hx hb d_M_readRun_60 (lv_at hl 0 rfl) ?_
                        refine lv_if_eq (tgt := 200) hx hb d_M_readRun_62 (by decide) (fun c_13 => ?_) (fun c_13 => ?_)
                        · skip
                          refine lv_aload_n hx hb d_M_readRun_200 rfl (lv_at hl 5 rfl) ?_
                          refine va_get (D := D) (ci := 5) (v := .int 0) (C := R_M) (T := T_M) (N := 20) hx hb hg in_M hown hK hP 0 rfl rfl 19 (by decide) (hg _ gw_543) (fun _ h9 => h9) rfl d_M_readRun_201 ?_
                          refine lv_if_eq (tgt := 209) hx hb d_M_readRun_204 (by decide) (fun c_14 => ?_) (fun c_14 => ?_)
                          · skip
                            refine lv_aload_n hx hb d_M_readRun_209 rfl (lv_at hl 5 rfl) ?_
                            refine lv_aload_n hx hb d_M_readRun_210 rfl (lv_at hl 5 rfl) ?_
                            refine va_get (D := D) (ci := 5) (v := .int (nI (m0 + 1))) (C := R_M) (T := T_M) (N := 20) hx hb hg in_M hown hK hP 0 rfl rfl 18 (by decide) (hg _ gw_542) (fun _ h9 => h9) rfl d_M_readRun_211 ?_
                            have hPc := hP.sub (ws' := [(y, .inr (5, [.int 0, .int (nI bi), .int (nI ne), .int (nI li), .int (nI sp), .int (nI q), .ref ms, .ref mw, .ref mu, .ref mc, .ref mn, .int en, .int (nI sz), .ref mr, .int (nI wa), .ref mq, .int la, .ref md, .int (nI (m0 + 1)), .int 0])), (mq, .inl (cB, 1000, .inl wq))]) [0, 3] rfl
                            have hDc := hD.sub (ws' := [(y, .inr (5, [.int 0, .int (nI bi), .int (nI ne), .int (nI li), .int (nI sp), .int (nI q), .ref ms, .ref mw, .ref mu, .ref mc, .ref mn, .int en, .int (nI sz), .ref mr, .int (nI wa), .ref mq, .int la, .ref md, .int (nI (m0 + 1)), .int 0])), (mq, .inl (cB, 1000, .inl wq))]) [0, 3] (by decide) rfl
                            have hKc := hK.sub (tys' := [(cB, .byte)]) [0] rfl
                            refine mcv (va_runV (As := [.int (nI (m0 + 1))]) (rest := []) ⟨hx, hb, hml, hown, hg⟩ (c_M_go l D y ms mw mu mc mn mr mq md bi ne li sp q sz wa 0 en la (nI (m0 + 1)) 0 cB wq (m0 + 1) hwa (by omega) hqb) (cwV 1 hg (gV gw_686 gw_688 gs_28 gw_7 gw_689) rfl rfl rfl (by decide +kernel) ⟨Nat.le_of_ble_eq_true rfl, Nat.le_of_ble_eq_true rfl⟩) ⟨fun a U g mk q => by obtain ⟨q0, qP, qK, qD⟩ := q; exact ⟨q0, qP, va_K.moved (u := U) (U := U.calling g mk a) (Vm.Alike.refl U.vm) qK, qD⟩, va_recv hKc hPc (ci := 5) (q0 := 0) rfl rfl, fun U hU hW => ⟨rfl, by rw [hU]; exact hPc, va_K.moved hW.alike hKc, hDc.weaken (fun _ _ _ _ => trivial)⟩⟩ rfl rfl hl.1 rfl (lv_room (Nat.le_of_ble_eq_true rfl)) d_M_readRun_214 (⟨Nat.le_of_ble_eq_true rfl, Nat.le_of_ble_eq_true rfl⟩)) hS hP hD [0, 3] rfl rfl rfl (fun H locs hP hD hS => ?_)
                            have hP : va_P D CLS [(y, .inr (5, [.int 0, .int (nI bi), .int (nI ne), .int (nI li), .int (nI sp), .int (nI q), .ref ms, .ref mw, .ref mu, .ref mc, .ref mn, .int en, .int (nI sz), .ref mr, .int (nI (wa - (m0 + 1))), .ref mq, .int la, .ref md, .int (nI (m0 + 1)), .int 0])), (ms, .inl (cI, 2, .inl st)), (mw, .inl (cI, 2, .inl lw)), (mq, .inl (cB, 1000, .inl (gof wq (m0 + 1) (wa - (m0 + 1)))))] H := hP
                            have hD : va_D A [(y, .inr (5, [.int 0, .int (nI bi), .int (nI ne), .int (nI li), .int (nI sp), .int (nI q), .ref ms, .ref mw, .ref mu, .ref mc, .ref mn, .int en, .int (nI sz), .ref mr, .int (nI (wa - (m0 + 1))), .ref mq, .int la, .ref md, .int (nI (m0 + 1)), .int 0])), (ms, .inl (cI, 2, .inl st)), (mw, .inl (cI, 2, .inl lw)), (mq, .inl (cB, 1000, .inl (gof wq (m0 + 1) (wa - (m0 + 1)))))] := hD
                            refine lv_aload_n hx hb d_M_readRun_217 rfl (lv_at hl 5 rfl) ?_
                            refine va_get (D := D) (ci := 5) (v := .ref ms) (C := R_M) (T := T_M) (N := 20) hx hb hg in_M hown hK hP 0 rfl rfl 6 (by decide) (hg _ gw_530) (fun _ h9 => h9) rfl d_M_readRun_218 ?_
                            refine lv_iconst (v := 1) hx hb d_M_readRun_221 (by decide) ?_
                            refine lv_iload_n hx hb d_M_readRun_222 rfl (lv_at hl 2 rfl) ?_
                            refine va_iast hx hb hK hP hD hS 1 1 rfl rfl (vp_in_nI (n := 1) (by decide) (by decide)) d_M_readRun_223 (fun H locs hP hD hS => ?_)
                            rw [show (1 : Int32).toNatClampNeg = 1 from rfl] at hP hD
                            have hP : va_P D CLS [(y, .inr (5, [.int 0, .int (nI bi), .int (nI ne), .int (nI li), .int (nI sp), .int (nI q), .ref ms, .ref mw, .ref mu, .ref mc, .ref mn, .int en, .int (nI sz), .ref mr, .int (nI (wa - (m0 + 1))), .ref mq, .int la, .ref md, .int (nI (m0 + 1)), .int 0])), (ms, .inl (cI, 2, .inl (upd st 1 (nI (rac pl (m0 + 1)))))), (mw, .inl (cI, 2, .inl lw)), (mq, .inl (cB, 1000, .inl (gof wq (m0 + 1) (wa - (m0 + 1)))))] H := hP
                            have hD : va_D A [(y, .inr (5, [.int 0, .int (nI bi), .int (nI ne), .int (nI li), .int (nI sp), .int (nI q), .ref ms, .ref mw, .ref mu, .ref mc, .ref mn, .int en, .int (nI sz), .ref mr, .int (nI (wa - (m0 + 1))), .ref mq, .int la, .ref md, .int (nI (m0 + 1)), .int 0])), (ms, .inl (cI, 2, .inl (upd st 1 (nI (rac pl (m0 + 1)))))), (mw, .inl (cI, 2, .inl lw)), (mq, .inl (cB, 1000, .inl (gof wq (m0 + 1) (wa - (m0 + 1)))))] := hD
                            refine lv_aload_n hx hb d_M_readRun_224 rfl (lv_at hl 5 rfl) ?_
                            refine va_get (D := D) (ci := 5) (v := .ref mw) (C := R_M) (T := T_M) (N := 20) hx hb hg in_M hown hK hP 0 rfl rfl 7 (by decide) (hg _ gw_531) (fun _ h9 => h9) rfl d_M_readRun_225 ?_
                            refine lv_iconst (v := 1) hx hb d_M_readRun_228 (by decide) ?_
                            refine lv_iload hx hb d_M_readRun_229 (lv_at hl 1 rfl) ?_
                            refine va_iast hx hb hK hP hD hS 2 1 rfl rfl (vp_in_nI (n := 1) (by decide) (by decide)) d_M_readRun_231 (fun H locs hP hD hS => ?_)
                            rw [show (1 : Int32).toNatClampNeg = 1 from rfl] at hP hD
                            have hP : va_P D CLS [(y, .inr (5, [.int 0, .int (nI bi), .int (nI ne), .int (nI li), .int (nI sp), .int (nI q), .ref ms, .ref mw, .ref mu, .ref mc, .ref mn, .int en, .int (nI sz), .ref mr, .int (nI (wa - (m0 + 1))), .ref mq, .int la, .ref md, .int (nI (m0 + 1)), .int 0])), (ms, .inl (cI, 2, .inl (upd st 1 (nI (rac pl (m0 + 1)))))), (mw, .inl (cI, 2, .inl (upd lw 1 (nI (wdt (rac pl (m0 + 1))))))), (mq, .inl (cB, 1000, .inl (gof wq (m0 + 1) (wa - (m0 + 1)))))] H := hP
                            have hD : va_D A [(y, .inr (5, [.int 0, .int (nI bi), .int (nI ne), .int (nI li), .int (nI sp), .int (nI q), .ref ms, .ref mw, .ref mu, .ref mc, .ref mn, .int en, .int (nI sz), .ref mr, .int (nI (wa - (m0 + 1))), .ref mq, .int la, .ref md, .int (nI (m0 + 1)), .int 0])), (ms, .inl (cI, 2, .inl (upd st 1 (nI (rac pl (m0 + 1)))))), (mw, .inl (cI, 2, .inl (upd lw 1 (nI (wdt (rac pl (m0 + 1))))))), (mq, .inl (cB, 1000, .inl (gof wq (m0 + 1) (wa - (m0 + 1)))))] := hD
                            refine lv_aload_n hx hb d_M_readRun_232 rfl (lv_at hl 5 rfl) ?_
                            refine lv_iload hx hb d_M_readRun_233 (lv_at hl 4 rfl) ?_
                            refine va_put (D := D) (ci := 5) (v := .int 0) (ty := .boolean) (C := R_M) (T := T_M) (N := 20) hx hb hg in_M ty_M tok_M nm_M hown hK hP hD hS 0 rfl rfl 11 (by decide) (hg _ gw_535) (fun _ h9 => h9) rfl (by decide +kernel) (rfl) (rfl) (Nat.le_of_ble_eq_true rfl) d_M_readRun_235 (fun H locs hP hD hS => ?_)
                            have hP : va_P D CLS [(y, .inr (5, [.int 0, .int (nI bi), .int (nI ne), .int (nI li), .int (nI sp), .int (nI q), .ref ms, .ref mw, .ref mu, .ref mc, .ref mn, .int 0, .int (nI sz), .ref mr, .int (nI (wa - (m0 + 1))), .ref mq, .int la, .ref md, .int (nI (m0 + 1)), .int 0])), (ms, .inl (cI, 2, .inl (upd st 1 (nI (rac pl (m0 + 1)))))), (mw, .inl (cI, 2, .inl (upd lw 1 (nI (wdt (rac pl (m0 + 1))))))), (mq, .inl (cB, 1000, .inl (gof wq (m0 + 1) (wa - (m0 + 1)))))] H := hP
                            have hD : va_D A [(y, .inr (5, [.int 0, .int (nI bi), .int (nI ne), .int (nI li), .int (nI sp), .int (nI q), .ref ms, .ref mw, .ref mu, .ref mc, .ref mn, .int 0, .int (nI sz), .ref mr, .int (nI (wa - (m0 + 1))), .ref mq, .int la, .ref md, .int (nI (m0 + 1)), .int 0])), (ms, .inl (cI, 2, .inl (upd st 1 (nI (rac pl (m0 + 1)))))), (mw, .inl (cI, 2, .inl (upd lw 1 (nI (wdt (rac pl (m0 + 1))))))), (mq, .inl (cB, 1000, .inl (gof wq (m0 + 1) (wa - (m0 + 1)))))] := hD
                            refine lv_iload_n hx hb d_M_readRun_238 rfl (lv_at hl 6 rfl) ?_
                            refine lv_iload_n hx hb d_M_readRun_239 rfl (lv_at hl 3 rfl) ?_
                            refine lv_isub hx hb d_M_readRun_240 ?_
                            refine tpi (y := nI n0) (Int32.sub_zero _) ?_
                            exact W.iret (v := nI n0) hx hb hr (fun t ht hW => ⟨rfl, by rw [ht]; exact (by rw [hae]; exact hP), (hAe ▸ hS).F ht⟩) (hAe ▸ hS).2.2 d_M_readRun_241
                          · skip
                            exact absurd rfl c_14
                        · skip
                          exact absurd rfl c_13
                      · skip
                        exact absurd (by decide) c_12
                    · skip
                      have h31 : ¬ 31 ≤ rac pl m0 := fun q9 => c_11 ((nI_leI (a := 31) (by omega) (by omega)).mpr q9)
                      refine lv_iload_n hx hb d_M_readRun_109 rfl (lv_at hl 4 rfl) ?_
                      refine lv_iconst (v := 1) hx hb d_M_readRun_110 (by decide) ?_
                      refine lv_iadd hx hb d_M_readRun_111 ?_
                      refine tpi (y := nI (rac pl (m0 + 1))) ((nI_1 _).trans (congrArg nI (show rac pl m0 + 1 = upp (rac pl m0) from (if_pos (by omega)).symm))) ?_
                      refine lv_goto (tgt := 116) hx hb d_M_readRun_112 (by decide) ?_
                      refine lv_istore_n (lv' := [(3, .int (nI (rac pl (m0 + 1)))), (2, .int 0), (6, .int (nI (wdt (rac pl m0)))), (5, .int 0), (4, .int 1), (0, .ref y), (1, .int (nI n0))]) hx hb d_M_readRun_116 rfl hl (by decide) rfl (fun ls hl => ?_)
                      refine lv_iload_n hx hb d_M_readRun_117 rfl (lv_at hl 0 rfl) ?_
                      have hPc := hP.sub (ws' := []) [] rfl
                      have hKc := hK.sub (tys' := []) [] rfl
                      refine pci (va_runS (As := [.int (nI (rac pl (m0 + 1)))]) (rest := []) ⟨hx, hb, hml, hown, hg⟩ (c_M_widthOf l D (rac pl (m0 + 1)) (rac_lt hpl (m0 + 1))) (va_cwS 1 hg (gS gw_619 gw_620 gw_7 gw_621) rfl rfl rfl (by decide +kernel) ⟨Nat.le_of_ble_eq_true rfl, Nat.le_of_ble_eq_true rfl⟩) ⟨fun a U g mk q => by obtain ⟨q0, qP, qK⟩ := q; exact ⟨q0, qP, va_K.moved (u := U) (U := U.calling g mk a) (Vm.Alike.refl U.vm) qK⟩, fun U hU hW => ⟨rfl, by rw [hU]; exact hPc, va_K.moved hW.alike hKc⟩⟩ rfl rfl hl.1 rfl (lv_room (Nat.le_of_ble_eq_true rfl)) d_M_readRun_118 (⟨Nat.le_of_ble_eq_true rfl, Nat.le_of_ble_eq_true rfl⟩)) ?_
                      refine lv_istore (lv' := [(6, .int (nI (wdt (rac pl (m0 + 1))))), (3, .int (nI (rac pl (m0 + 1)))), (2, .int 0), (5, .int 0), (4, .int 1), (0, .ref y), (1, .int (nI n0))]) hx hb d_M_readRun_121 hl (by decide) rfl (fun ls hl => ?_)
                      refine lv_goto (tgt := 128) hx hb d_M_readRun_123 (by decide) ?_
                      refine lv_iload_n hx hb d_M_readRun_128 rfl (lv_at hl 2 rfl) ?_
                      refine lv_if_le (tgt := 136) hx hb d_M_readRun_129 (by decide) (fun c_15 => ?_) (fun c_15 => ?_)
                      · skip
                        refine lv_iconst (v := 0) hx hb d_M_readRun_136 (by decide) ?_
                        refine lv_istore (lv' := [(4, .int 0), (6, .int (nI (wdt (rac pl (m0 + 1))))), (3, .int (nI (rac pl (m0 + 1)))), (2, .int 0), (5, .int 0), (0, .ref y), (1, .int (nI n0))]) hx hb d_M_readRun_137 hl (by decide) rfl (fun ls hl => ?_)
                        refine lv_goto (tgt := 60) hx hb d_M_readRun_139 (by decide) ?_
                        refine lv_iload hx hb d_M_readRun_60 (lv_at hl 0 rfl) ?_
                        refine lv_if_eq (tgt := 200) hx hb d_M_readRun_62 (by decide) (fun c_16 => ?_) (fun c_16 => ?_)
                        · skip
                          refine lv_aload_n hx hb d_M_readRun_200 rfl (lv_at hl 5 rfl) ?_
                          refine va_get (D := D) (ci := 5) (v := .int 0) (C := R_M) (T := T_M) (N := 20) hx hb hg in_M hown hK hP 0 rfl rfl 19 (by decide) (hg _ gw_543) (fun _ h9 => h9) rfl d_M_readRun_201 ?_
                          refine lv_if_eq (tgt := 209) hx hb d_M_readRun_204 (by decide) (fun c_17 => ?_) (fun c_17 => ?_)
                          · skip
                            refine lv_aload_n hx hb d_M_readRun_209 rfl (lv_at hl 5 rfl) ?_
                            refine lv_aload_n hx hb d_M_readRun_210 rfl (lv_at hl 5 rfl) ?_
                            refine va_get (D := D) (ci := 5) (v := .int (nI (m0 + 1))) (C := R_M) (T := T_M) (N := 20) hx hb hg in_M hown hK hP 0 rfl rfl 18 (by decide) (hg _ gw_542) (fun _ h9 => h9) rfl d_M_readRun_211 ?_
                            have hPc := hP.sub (ws' := [(y, .inr (5, [.int 0, .int (nI bi), .int (nI ne), .int (nI li), .int (nI sp), .int (nI q), .ref ms, .ref mw, .ref mu, .ref mc, .ref mn, .int en, .int (nI sz), .ref mr, .int (nI wa), .ref mq, .int la, .ref md, .int (nI (m0 + 1)), .int 0])), (mq, .inl (cB, 1000, .inl wq))]) [0, 3] rfl
                            have hDc := hD.sub (ws' := [(y, .inr (5, [.int 0, .int (nI bi), .int (nI ne), .int (nI li), .int (nI sp), .int (nI q), .ref ms, .ref mw, .ref mu, .ref mc, .ref mn, .int en, .int (nI sz), .ref mr, .int (nI wa), .ref mq, .int la, .ref md, .int (nI (m0 + 1)), .int 0])), (mq, .inl (cB, 1000, .inl wq))]) [0, 3] (by decide) rfl
                            have hKc := hK.sub (tys' := [(cB, .byte)]) [0] rfl
                            refine mcv (va_runV (As := [.int (nI (m0 + 1))]) (rest := []) ⟨hx, hb, hml, hown, hg⟩ (c_M_go l D y ms mw mu mc mn mr mq md bi ne li sp q sz wa 0 en la (nI (m0 + 1)) 0 cB wq (m0 + 1) hwa (by omega) hqb) (cwV 1 hg (gV gw_686 gw_688 gs_28 gw_7 gw_689) rfl rfl rfl (by decide +kernel) ⟨Nat.le_of_ble_eq_true rfl, Nat.le_of_ble_eq_true rfl⟩) ⟨fun a U g mk q => by obtain ⟨q0, qP, qK, qD⟩ := q; exact ⟨q0, qP, va_K.moved (u := U) (U := U.calling g mk a) (Vm.Alike.refl U.vm) qK, qD⟩, va_recv hKc hPc (ci := 5) (q0 := 0) rfl rfl, fun U hU hW => ⟨rfl, by rw [hU]; exact hPc, va_K.moved hW.alike hKc, hDc.weaken (fun _ _ _ _ => trivial)⟩⟩ rfl rfl hl.1 rfl (lv_room (Nat.le_of_ble_eq_true rfl)) d_M_readRun_214 (⟨Nat.le_of_ble_eq_true rfl, Nat.le_of_ble_eq_true rfl⟩)) hS hP hD [0, 3] rfl rfl rfl (fun H locs hP hD hS => ?_)
                            have hP : va_P D CLS [(y, .inr (5, [.int 0, .int (nI bi), .int (nI ne), .int (nI li), .int (nI sp), .int (nI q), .ref ms, .ref mw, .ref mu, .ref mc, .ref mn, .int en, .int (nI sz), .ref mr, .int (nI (wa - (m0 + 1))), .ref mq, .int la, .ref md, .int (nI (m0 + 1)), .int 0])), (ms, .inl (cI, 2, .inl st)), (mw, .inl (cI, 2, .inl lw)), (mq, .inl (cB, 1000, .inl (gof wq (m0 + 1) (wa - (m0 + 1)))))] H := hP
                            have hD : va_D A [(y, .inr (5, [.int 0, .int (nI bi), .int (nI ne), .int (nI li), .int (nI sp), .int (nI q), .ref ms, .ref mw, .ref mu, .ref mc, .ref mn, .int en, .int (nI sz), .ref mr, .int (nI (wa - (m0 + 1))), .ref mq, .int la, .ref md, .int (nI (m0 + 1)), .int 0])), (ms, .inl (cI, 2, .inl st)), (mw, .inl (cI, 2, .inl lw)), (mq, .inl (cB, 1000, .inl (gof wq (m0 + 1) (wa - (m0 + 1)))))] := hD
                            refine lv_aload_n hx hb d_M_readRun_217 rfl (lv_at hl 5 rfl) ?_
                            refine va_get (D := D) (ci := 5) (v := .ref ms) (C := R_M) (T := T_M) (N := 20) hx hb hg in_M hown hK hP 0 rfl rfl 6 (by decide) (hg _ gw_530) (fun _ h9 => h9) rfl d_M_readRun_218 ?_
                            refine lv_iconst (v := 1) hx hb d_M_readRun_221 (by decide) ?_
                            refine lv_iload_n hx hb d_M_readRun_222 rfl (lv_at hl 2 rfl) ?_
                            refine va_iast hx hb hK hP hD hS 1 1 rfl rfl (vp_in_nI (n := 1) (by decide) (by decide)) d_M_readRun_223 (fun H locs hP hD hS => ?_)
                            rw [show (1 : Int32).toNatClampNeg = 1 from rfl] at hP hD
                            have hP : va_P D CLS [(y, .inr (5, [.int 0, .int (nI bi), .int (nI ne), .int (nI li), .int (nI sp), .int (nI q), .ref ms, .ref mw, .ref mu, .ref mc, .ref mn, .int en, .int (nI sz), .ref mr, .int (nI (wa - (m0 + 1))), .ref mq, .int la, .ref md, .int (nI (m0 + 1)), .int 0])), (ms, .inl (cI, 2, .inl (upd st 1 (nI (rac pl (m0 + 1)))))), (mw, .inl (cI, 2, .inl lw)), (mq, .inl (cB, 1000, .inl (gof wq (m0 + 1) (wa - (m0 + 1)))))] H := hP
                            have hD : va_D A [(y, .inr (5, [.int 0, .int (nI bi), .int (nI ne), .int (nI li), .int (nI sp), .int (nI q), .ref ms, .ref mw, .ref mu, .ref mc, .ref mn, .int en, .int (nI sz), .ref mr, .int (nI (wa - (m0 + 1))), .ref mq, .int la, .ref md, .int (nI (m0 + 1)), .int 0])), (ms, .inl (cI, 2, .inl (upd st 1 (nI (rac pl (m0 + 1)))))), (mw, .inl (cI, 2, .inl lw)), (mq, .inl (cB, 1000, .inl (gof wq (m0 + 1) (wa - (m0 + 1)))))] := hD
                            refine lv_aload_n hx hb d_M_readRun_224 rfl (lv_at hl 5 rfl) ?_
                            refine va_get (D := D) (ci := 5) (v := .ref mw) (C := R_M) (T := T_M) (N := 20) hx hb hg in_M hown hK hP 0 rfl rfl 7 (by decide) (hg _ gw_531) (fun _ h9 => h9) rfl d_M_readRun_225 ?_
                            refine lv_iconst (v := 1) hx hb d_M_readRun_228 (by decide) ?_
                            refine lv_iload hx hb d_M_readRun_229 (lv_at hl 1 rfl) ?_
                            refine va_iast hx hb hK hP hD hS 2 1 rfl rfl (vp_in_nI (n := 1) (by decide) (by decide)) d_M_readRun_231 (fun H locs hP hD hS => ?_)
                            rw [show (1 : Int32).toNatClampNeg = 1 from rfl] at hP hD
                            have hP : va_P D CLS [(y, .inr (5, [.int 0, .int (nI bi), .int (nI ne), .int (nI li), .int (nI sp), .int (nI q), .ref ms, .ref mw, .ref mu, .ref mc, .ref mn, .int en, .int (nI sz), .ref mr, .int (nI (wa - (m0 + 1))), .ref mq, .int la, .ref md, .int (nI (m0 + 1)), .int 0])), (ms, .inl (cI, 2, .inl (upd st 1 (nI (rac pl (m0 + 1)))))), (mw, .inl (cI, 2, .inl (upd lw 1 (nI (wdt (rac pl (m0 + 1))))))), (mq, .inl (cB, 1000, .inl (gof wq (m0 + 1) (wa - (m0 + 1)))))] H := hP
                            have hD : va_D A [(y, .inr (5, [.int 0, .int (nI bi), .int (nI ne), .int (nI li), .int (nI sp), .int (nI q), .ref ms, .ref mw, .ref mu, .ref mc, .ref mn, .int en, .int (nI sz), .ref mr, .int (nI (wa - (m0 + 1))), .ref mq, .int la, .ref md, .int (nI (m0 + 1)), .int 0])), (ms, .inl (cI, 2, .inl (upd st 1 (nI (rac pl (m0 + 1)))))), (mw, .inl (cI, 2, .inl (upd lw 1 (nI (wdt (rac pl (m0 + 1))))))), (mq, .inl (cB, 1000, .inl (gof wq (m0 + 1) (wa - (m0 + 1)))))] := hD
                            refine lv_aload_n hx hb d_M_readRun_232 rfl (lv_at hl 5 rfl) ?_
                            refine lv_iload hx hb d_M_readRun_233 (lv_at hl 4 rfl) ?_
                            refine va_put (D := D) (ci := 5) (v := .int 0) (ty := .boolean) (C := R_M) (T := T_M) (N := 20) hx hb hg in_M ty_M tok_M nm_M hown hK hP hD hS 0 rfl rfl 11 (by decide) (hg _ gw_535) (fun _ h9 => h9) rfl (by decide +kernel) (rfl) (rfl) (Nat.le_of_ble_eq_true rfl) d_M_readRun_235 (fun H locs hP hD hS => ?_)
                            have hP : va_P D CLS [(y, .inr (5, [.int 0, .int (nI bi), .int (nI ne), .int (nI li), .int (nI sp), .int (nI q), .ref ms, .ref mw, .ref mu, .ref mc, .ref mn, .int 0, .int (nI sz), .ref mr, .int (nI (wa - (m0 + 1))), .ref mq, .int la, .ref md, .int (nI (m0 + 1)), .int 0])), (ms, .inl (cI, 2, .inl (upd st 1 (nI (rac pl (m0 + 1)))))), (mw, .inl (cI, 2, .inl (upd lw 1 (nI (wdt (rac pl (m0 + 1))))))), (mq, .inl (cB, 1000, .inl (gof wq (m0 + 1) (wa - (m0 + 1)))))] H := hP
                            have hD : va_D A [(y, .inr (5, [.int 0, .int (nI bi), .int (nI ne), .int (nI li), .int (nI sp), .int (nI q), .ref ms, .ref mw, .ref mu, .ref mc, .ref mn, .int 0, .int (nI sz), .ref mr, .int (nI (wa - (m0 + 1))), .ref mq, .int la, .ref md, .int (nI (m0 + 1)), .int 0])), (ms, .inl (cI, 2, .inl (upd st 1 (nI (rac pl (m0 + 1)))))), (mw, .inl (cI, 2, .inl (upd lw 1 (nI (wdt (rac pl (m0 + 1))))))), (mq, .inl (cB, 1000, .inl (gof wq (m0 + 1) (wa - (m0 + 1)))))] := hD
                            refine lv_iload_n hx hb d_M_readRun_238 rfl (lv_at hl 6 rfl) ?_
                            refine lv_iload_n hx hb d_M_readRun_239 rfl (lv_at hl 3 rfl) ?_
                            refine lv_isub hx hb d_M_readRun_240 ?_
                            refine tpi (y := nI n0) (Int32.sub_zero _) ?_
                            exact W.iret (v := nI n0) hx hb hr (fun t ht hW => ⟨rfl, by rw [ht]; exact (by rw [hae]; exact hP), (hAe ▸ hS).F ht⟩) (hAe ▸ hS).2.2 d_M_readRun_241
                          · skip
                            exact absurd rfl c_17
                        · skip
                          exact absurd rfl c_16
                      · skip
                        exact absurd (by decide) c_15
          | succ d ih =>
            intro j hj H locs hP hD hS ls hl
            have hwj := wdt_le (rac pl j) (rac_lt hpl j)
            have hpj := pw15 hwj
            have hrj := rrc_le n0 pl j
            have hlj := rac_lt hpl j
            refine lv_iload hx hb d_M_readRun_60 (lv_at hl 2 rfl) ?_
            refine lv_if_eq (tgt := 200) hx hb d_M_readRun_62 (by decide) (fun c_18 => ?_) (fun c_18 => ?_)
            · skip
              exact absurd c_18 (by decide)
            · skip
              refine lv_aload_n hx hb d_M_readRun_65 rfl (lv_at hl 5 rfl) ?_
              refine va_get (D := D) (ci := 5) (v := .int 0) (C := R_M) (T := T_M) (N := 20) hx hb hg in_M hown hK hP 0 rfl rfl 19 (by decide) (hg _ gw_543) (fun _ h9 => h9) rfl d_M_readRun_66 ?_
              refine lv_if_ne (tgt := 200) hx hb d_M_readRun_69 (by decide) (fun c_19 => ?_) (fun c_19 => ?_)
              · skip
                exact absurd rfl c_19
              · skip
                refine lv_iload_n hx hb d_M_readRun_72 rfl (lv_at hl 3 rfl) ?_
                have hPc := hP.sub (ws' := []) [] rfl
                have hKc := hK.sub (tys' := []) [] rfl
                refine pci (va_runS (As := [.int (nI (rac pl j))]) (rest := []) ⟨hx, hb, hml, hown, hg⟩ (c_M_widthOf l D (rac pl j) (rac_lt hpl j)) (va_cwS 1 hg (gS gw_619 gw_620 gw_7 gw_621) rfl rfl rfl (by decide +kernel) ⟨Nat.le_of_ble_eq_true rfl, Nat.le_of_ble_eq_true rfl⟩) ⟨fun a U g mk q => by obtain ⟨q0, qP, qK⟩ := q; exact ⟨q0, qP, va_K.moved (u := U) (U := U.calling g mk a) (Vm.Alike.refl U.vm) qK⟩, fun U hU hW => ⟨rfl, by rw [hU]; exact hPc, va_K.moved hW.alike hKc⟩⟩ rfl rfl hl.1 rfl (lv_room (Nat.le_of_ble_eq_true rfl)) d_M_readRun_73 (⟨Nat.le_of_ble_eq_true rfl, Nat.le_of_ble_eq_true rfl⟩)) ?_
                refine lv_istore (lv' := [(6, .int (nI (wdt (rac pl j)))), (5, .int 0), (4, .int 1), (3, .int (nI (rac pl j))), (2, .int (nI (rrc n0 pl j))), (0, .ref y), (1, .int (nI n0))]) hx hb d_M_readRun_76 hl (by decide) rfl (fun ls hl => ?_)
                refine lv_aload_n hx hb d_M_readRun_78 rfl (lv_at hl 5 rfl) ?_
                have hPc := hP.sub (ws' := [(y, .inr (5, [.int 0, .int (nI bi), .int (nI ne), .int (nI li), .int (nI sp), .int (nI q), .ref ms, .ref mw, .ref mu, .ref mc, .ref mn, .int en, .int (nI sz), .ref mr, .int (nI wa), .ref mq, .int la, .ref md, .int (nI j), .int 0])), (mq, .inl (cB, 1000, .inl wq))]) [0, 3] rfl
                have hDc := hD.sub (ws' := [(y, .inr (5, [.int 0, .int (nI bi), .int (nI ne), .int (nI li), .int (nI sp), .int (nI q), .ref ms, .ref mw, .ref mu, .ref mc, .ref mn, .int en, .int (nI sz), .ref mr, .int (nI wa), .ref mq, .int la, .ref md, .int (nI j), .int 0])), (mq, .inl (cB, 1000, .inl wq))]) [0, 3] (by decide) rfl
                have hKc := hK.sub (tys' := [(cB, .byte)]) [0] rfl
                refine mci (va_runV (As := []) (rest := []) ⟨hx, hb, hml, hown, hg⟩ (c_M_next l D y ms mw mu mc mn mr mq md bi ne li sp q sz wa 0 en la at0 0 cB wq j hwa (by omega)) (cwV 0 hg (gV gw_678 gw_680 gs_26 gw_7 gw_681) rfl rfl rfl (by decide +kernel) ⟨Nat.le_of_ble_eq_true rfl, Nat.le_of_ble_eq_true rfl⟩) ⟨fun a U g mk q => by obtain ⟨q0, qP, qK, qD⟩ := q; exact ⟨q0, qP, va_K.moved (u := U) (U := U.calling g mk a) (Vm.Alike.refl U.vm) qK, qD⟩, va_recv hKc hPc (ci := 5) (q0 := 0) rfl rfl, fun U hU hW => ⟨rfl, by rw [hU]; exact hPc, va_K.moved hW.alike hKc, hDc.weaken (fun _ _ _ _ => trivial)⟩⟩ rfl rfl hl.1 rfl (lv_room (Nat.le_of_ble_eq_true rfl)) d_M_readRun_79 (⟨Nat.le_of_ble_eq_true rfl, Nat.le_of_ble_eq_true rfl⟩)) hS hP hD [0, 3] rfl rfl rfl (fun H locs hP hD hS => ?_)
                have hP : va_P D CLS [(y, .inr (5, [.int 0, .int (nI bi), .int (nI ne), .int (nI li), .int (nI sp), .int (nI q), .ref ms, .ref mw, .ref mu, .ref mc, .ref mn, .int en, .int (nI sz), .ref mr, .int (nI wa), .ref mq, .int la, .ref md, .int (nI (j + 1)), .int 0])), (ms, .inl (cI, 2, .inl st)), (mw, .inl (cI, 2, .inl lw)), (mq, .inl (cB, 1000, .inl wq))] H := hP
                have hD : va_D A [(y, .inr (5, [.int 0, .int (nI bi), .int (nI ne), .int (nI li), .int (nI sp), .int (nI q), .ref ms, .ref mw, .ref mu, .ref mc, .ref mn, .int en, .int (nI sz), .ref mr, .int (nI wa), .ref mq, .int la, .ref md, .int (nI (j + 1)), .int 0])), (ms, .inl (cI, 2, .inl st)), (mw, .inl (cI, 2, .inl lw)), (mq, .inl (cB, 1000, .inl wq))] := hD
                refine tpi (y := 1) (hmb j (by omega)) ?_
                refine lv_iconst (v := 1) hx hb d_M_readRun_82 (by decide) ?_
                refine lv_icmp_ne (tgt := 142) hx hb d_M_readRun_83 (by decide) (fun c_20 => ?_) (fun c_20 => ?_)
                · skip
                  exact absurd rfl c_20
                · skip
                  refine lv_iload hx hb d_M_readRun_86 (lv_at hl 0 rfl) ?_
                  have hPc := hP.sub (ws' := []) [] rfl
                  have hKc := hK.sub (tys' := []) [] rfl
                  refine pci (va_runS (As := [.int (nI (wdt (rac pl j)))]) (rest := []) ⟨hx, hb, hml, hown, hg⟩ (c_M_power l D (wdt (rac pl j)) (by omega)) (va_cwS 1 hg (gS gw_517 gw_518 gw_7 gw_519) rfl rfl rfl (by decide +kernel) ⟨Nat.le_of_ble_eq_true rfl, Nat.le_of_ble_eq_true rfl⟩) ⟨fun a U g mk q => by obtain ⟨q0, qP, qK⟩ := q; exact ⟨q0, qP, va_K.moved (u := U) (U := U.calling g mk a) (Vm.Alike.refl U.vm) qK⟩, fun U hU hW => ⟨rfl, by rw [hU]; exact hPc, va_K.moved hW.alike hKc⟩⟩ rfl rfl hl.1 rfl (lv_room (Nat.le_of_ble_eq_true rfl)) d_M_readRun_88 (⟨Nat.le_of_ble_eq_true rfl, Nat.le_of_ble_eq_true rfl⟩)) ?_
                  refine lv_iload_n hx hb d_M_readRun_91 rfl (lv_at hl 4 rfl) ?_
                  refine lv_icmp_gt (tgt := 126) hx hb d_M_readRun_92 (by decide) (fun c_21 => ?_) (fun c_21 => ?_)
                  · skip
                    exact absurd ((nI_ltI (by omega) (by omega)).mp c_21) (by have := hm1 j (by omega); omega)
                  · skip
                    have hmj := hm1 j (by omega)
                    refine lv_iload_n hx hb d_M_readRun_95 rfl (lv_at hl 4 rfl) ?_
                    refine lv_iload hx hb d_M_readRun_96 (lv_at hl 0 rfl) ?_
                    have hPc := hP.sub (ws' := []) [] rfl
                    have hKc := hK.sub (tys' := []) [] rfl
                    refine pci (va_runS (As := [.int (nI (wdt (rac pl j)))]) (rest := [.int (nI (rrc n0 pl j))]) ⟨hx, hb, hml, hown, hg⟩ (c_M_power l D (wdt (rac pl j)) (by omega)) (va_cwS 1 hg (gS gw_517 gw_518 gw_7 gw_519) rfl rfl rfl (by decide +kernel) ⟨Nat.le_of_ble_eq_true rfl, Nat.le_of_ble_eq_true rfl⟩) ⟨fun a U g mk q => by obtain ⟨q0, qP, qK⟩ := q; exact ⟨q0, qP, va_K.moved (u := U) (U := U.calling g mk a) (Vm.Alike.refl U.vm) qK⟩, fun U hU hW => ⟨rfl, by rw [hU]; exact hPc, va_K.moved hW.alike hKc⟩⟩ rfl rfl hl.1 rfl (lv_room (Nat.le_of_ble_eq_true rfl)) d_M_readRun_98 (⟨Nat.le_of_ble_eq_true rfl, Nat.le_of_ble_eq_true rfl⟩)) ?_
                    refine lv_isub hx hb d_M_readRun_101 ?_
                    refine tpi (y := nI (rrc n0 pl (j + 1))) (pk_sub (by omega)) ?_
                    refine lv_istore_n (lv' := [(2, .int (nI (rrc n0 pl (j + 1)))), (6, .int (nI (wdt (rac pl j)))), (5, .int 0), (4, .int 1), (3, .int (nI (rac pl j))), (0, .ref y), (1, .int (nI n0))]) hx hb d_M_readRun_102 rfl hl (by decide) rfl (fun ls hl => ?_)
                    refine lv_iload_n hx hb d_M_readRun_103 rfl (lv_at hl 4 rfl) ?_
                    refine lv_bipush (v := 31) hx hb d_M_readRun_104 (by decide) ?_
                    refine lv_icmp_ge (tgt := 115) hx hb d_M_readRun_106 (by decide) (fun c_22 => ?_) (fun c_22 => ?_)
                    · skip
                      have h31 := (nI_leI (a := 31) (by omega) (by omega)).mp c_22
                      refine lv_iload_n hx hb d_M_readRun_115 rfl (lv_at hl 4 rfl) ?_
                      refine tpi (y := nI (rac pl (j + 1))) (congrArg nI (show rac pl j = upp (rac pl j) from (if_neg (by omega)).symm)) ?_
                      refine lv_istore_n (lv' := [(3, .int (nI (rac pl (j + 1)))), (2, .int (nI (rrc n0 pl (j + 1)))), (6, .int (nI (wdt (rac pl j)))), (5, .int 0), (4, .int 1), (0, .ref y), (1, .int (nI n0))]) hx hb d_M_readRun_116 rfl hl (by decide) rfl (fun ls hl => ?_)
                      refine lv_iload_n hx hb d_M_readRun_117 rfl (lv_at hl 0 rfl) ?_
                      have hPc := hP.sub (ws' := []) [] rfl
                      have hKc := hK.sub (tys' := []) [] rfl
                      refine pci (va_runS (As := [.int (nI (rac pl (j + 1)))]) (rest := []) ⟨hx, hb, hml, hown, hg⟩ (c_M_widthOf l D (rac pl (j + 1)) (rac_lt hpl (j + 1))) (va_cwS 1 hg (gS gw_619 gw_620 gw_7 gw_621) rfl rfl rfl (by decide +kernel) ⟨Nat.le_of_ble_eq_true rfl, Nat.le_of_ble_eq_true rfl⟩) ⟨fun a U g mk q => by obtain ⟨q0, qP, qK⟩ := q; exact ⟨q0, qP, va_K.moved (u := U) (U := U.calling g mk a) (Vm.Alike.refl U.vm) qK⟩, fun U hU hW => ⟨rfl, by rw [hU]; exact hPc, va_K.moved hW.alike hKc⟩⟩ rfl rfl hl.1 rfl (lv_room (Nat.le_of_ble_eq_true rfl)) d_M_readRun_118 (⟨Nat.le_of_ble_eq_true rfl, Nat.le_of_ble_eq_true rfl⟩)) ?_
                      refine lv_istore (lv' := [(6, .int (nI (wdt (rac pl (j + 1))))), (3, .int (nI (rac pl (j + 1)))), (2, .int (nI (rrc n0 pl (j + 1)))), (5, .int 0), (4, .int 1), (0, .ref y), (1, .int (nI n0))]) hx hb d_M_readRun_121 hl (by decide) rfl (fun ls hl => ?_)
                      refine lv_goto (tgt := 128) hx hb d_M_readRun_123 (by decide) ?_
                      refine lv_iload_n hx hb d_M_readRun_128 rfl (lv_at hl 2 rfl) ?_
                      refine lv_if_le (tgt := 136) hx hb d_M_readRun_129 (by decide) (fun c_23 => ?_) (fun c_23 => ?_)
                      · skip
                        exact absurd c_23 (nI_nle (by show 0 < rrc n0 pl j - 2 ^ wdt (rac pl j); omega) (by have := rrc_le n0 pl (j + 1); omega))
                      · skip
                        refine lv_iconst (v := 1) hx hb d_M_readRun_132 (by decide) ?_
                        refine lv_goto (tgt := 137) hx hb d_M_readRun_133 (by decide) ?_
                        refine lv_istore (lv' := [(4, .int 1), (6, .int (nI (wdt (rac pl (j + 1))))), (3, .int (nI (rac pl (j + 1)))), (2, .int (nI (rrc n0 pl (j + 1)))), (5, .int 0), (0, .ref y), (1, .int (nI n0))]) hx hb d_M_readRun_137 hl (by decide) rfl (fun ls hl => ?_)
                        refine lv_goto (tgt := 60) hx hb d_M_readRun_139 (by decide) ?_
                        exact ih (j + 1) (by omega) H locs hP hD hS ls (lv_sub hl [1, 4, 0, 2, 3, 5, 6] rfl)
                    · skip
                      have h31 : ¬ 31 ≤ rac pl j := fun q9 => c_22 ((nI_leI (a := 31) (by omega) (by omega)).mpr q9)
                      refine lv_iload_n hx hb d_M_readRun_109 rfl (lv_at hl 4 rfl) ?_
                      refine lv_iconst (v := 1) hx hb d_M_readRun_110 (by decide) ?_
                      refine lv_iadd hx hb d_M_readRun_111 ?_
                      refine tpi (y := nI (rac pl (j + 1))) ((nI_1 _).trans (congrArg nI (show rac pl j + 1 = upp (rac pl j) from (if_pos (by omega)).symm))) ?_
                      refine lv_goto (tgt := 116) hx hb d_M_readRun_112 (by decide) ?_
                      refine lv_istore_n (lv' := [(3, .int (nI (rac pl (j + 1)))), (2, .int (nI (rrc n0 pl (j + 1)))), (6, .int (nI (wdt (rac pl j)))), (5, .int 0), (4, .int 1), (0, .ref y), (1, .int (nI n0))]) hx hb d_M_readRun_116 rfl hl (by decide) rfl (fun ls hl => ?_)
                      refine lv_iload_n hx hb d_M_readRun_117 rfl (lv_at hl 0 rfl) ?_
                      have hPc := hP.sub (ws' := []) [] rfl
                      have hKc := hK.sub (tys' := []) [] rfl
                      refine pci (va_runS (As := [.int (nI (rac pl (j + 1)))]) (rest := []) ⟨hx, hb, hml, hown, hg⟩ (c_M_widthOf l D (rac pl (j + 1)) (rac_lt hpl (j + 1))) (va_cwS 1 hg (gS gw_619 gw_620 gw_7 gw_621) rfl rfl rfl (by decide +kernel) ⟨Nat.le_of_ble_eq_true rfl, Nat.le_of_ble_eq_true rfl⟩) ⟨fun a U g mk q => by obtain ⟨q0, qP, qK⟩ := q; exact ⟨q0, qP, va_K.moved (u := U) (U := U.calling g mk a) (Vm.Alike.refl U.vm) qK⟩, fun U hU hW => ⟨rfl, by rw [hU]; exact hPc, va_K.moved hW.alike hKc⟩⟩ rfl rfl hl.1 rfl (lv_room (Nat.le_of_ble_eq_true rfl)) d_M_readRun_118 (⟨Nat.le_of_ble_eq_true rfl, Nat.le_of_ble_eq_true rfl⟩)) ?_
                      refine lv_istore (lv' := [(6, .int (nI (wdt (rac pl (j + 1))))), (3, .int (nI (rac pl (j + 1)))), (2, .int (nI (rrc n0 pl (j + 1)))), (5, .int 0), (4, .int 1), (0, .ref y), (1, .int (nI n0))]) hx hb d_M_readRun_121 hl (by decide) rfl (fun ls hl => ?_)
                      refine lv_goto (tgt := 128) hx hb d_M_readRun_123 (by decide) ?_
                      refine lv_iload_n hx hb d_M_readRun_128 rfl (lv_at hl 2 rfl) ?_
                      refine lv_if_le (tgt := 136) hx hb d_M_readRun_129 (by decide) (fun c_24 => ?_) (fun c_24 => ?_)
                      · skip
                        exact absurd c_24 (nI_nle (by show 0 < rrc n0 pl j - 2 ^ wdt (rac pl j); omega) (by have := rrc_le n0 pl (j + 1); omega))
                      · skip
                        refine lv_iconst (v := 1) hx hb d_M_readRun_132 (by decide) ?_
                        refine lv_goto (tgt := 137) hx hb d_M_readRun_133 (by decide) ?_
                        refine lv_istore (lv' := [(4, .int 1), (6, .int (nI (wdt (rac pl (j + 1))))), (3, .int (nI (rac pl (j + 1)))), (2, .int (nI (rrc n0 pl (j + 1)))), (5, .int 0), (0, .ref y), (1, .int (nI n0))]) hx hb d_M_readRun_137 hl (by decide) rfl (fun ls hl => ?_)
                        refine lv_goto (tgt := 60) hx hb d_M_readRun_139 (by decide) ?_
                        exact ih (j + 1) (by omega) H locs hP hD hS ls (lv_sub hl [1, 4, 0, 2, 3, 5, 6] rfl)
        exact loop m0 0 (by omega) H locs hP hD hS ls (lv_sub hl [0, 1, 2, 3, 4, 5, 6] rfl)
      · skip
        exact absurd (by decide) c_3
    · skip
      exact absurd (nI_le hn (by omega)) c_2
set_option maxHeartbeats 4000000 in
set_option maxRecDepth 100000 in
theorem c_M_readRunT (l : Launch) (D : va_G) (y ms mw mu mc mn mr mq md bi ne li sp q sz wa : Nat) (th en la at0 lk : Int32) (v0 : Int32) (hbad : v0 < 1 ∨ nI 65535 < v0) : Met l y_M_readRun (WSY y_M_readRun b_M_readRun 8 (some .int)) ({ frames := 2, cells := 0, slots := 0, locals := 50 }) (va_Pc [.ref y, .int v0] (fun U => va_P D CLS [(y, .inr (5, [.int th, .int (nI bi), .int (nI ne), .int (nI li), .int (nI sp), .int (nI q), .ref ms, .ref mw, .ref mu, .ref mc, .ref mn, .int en, .int (nI sz), .ref mr, .int (nI wa), .ref mq, .int la, .ref md, .int at0, .int lk]))] U.heap ∧ va_K D CLS [] U ∧ va_D (fun _ => True) [(y, .inr (5, [.int th, .int (nI bi), .int (nI ne), .int (nI li), .int (nI sp), .int (nI q), .ref ms, .ref mw, .ref mu, .ref mc, .ref mn, .int en, .int (nI sz), .ref mr, .int (nI wa), .ref mq, .int la, .ref md, .int at0, .int lk]))])) (QM (some (.int 0)) [(y, .inr (5, [.int th, .int (nI bi), .int (nI ne), .int (nI li), .int (nI sp), .int (nI q), .ref ms, .ref mw, .ref mu, .ref mc, .ref mn, .int en, .int (nI sz), .ref mr, .int (nI wa), .ref mq, .int la, .ref md, .int at0, .int lk]))] [(y, .inr (5, [.int 1, .int (nI bi), .int (nI ne), .int (nI li), .int (nI sp), .int (nI q), .ref ms, .ref mw, .ref mu, .ref mc, .ref mn, .int en, .int (nI sz), .ref mr, .int (nI wa), .ref mq, .int la, .ref md, .int at0, .int lk]))] D) 0 0 (ad [(y, .inr (5, [.int th, .int (nI bi), .int (nI ne), .int (nI li), .int (nI sp), .int (nI q), .ref ms, .ref mw, .ref mu, .ref mc, .ref mn, .int en, .int (nI sz), .ref mr, .int (nI wa), .ref mq, .int la, .ref md, .int at0, .int lk]))]) := by
  refine Met.ofW (cc := b_M_readRun) (maxL := 8) (ret := (some .int)) (by decide) rfl ?_
  intro p e s m args below meth c s₁ B hml hv
  obtain ⟨rfl, hP, hK, hD0⟩ := hv
  have hx := B.exec
  have hb := B.bytes
  have hr := B.returns
  have hts := atoms_spec (ws := WSY y_M_readRun b_M_readRun 8 (some .int)) B.pre
  have hg : ∀ w ∈ GW, w.before _ s = true := fun w h => hts w (List.mem_cons_of_mem _ h)
  have hown : s.vm.findClass "LineGolombModel" = some m.cls := findClass_of_methodNamed B.named
  have hlocks := B.notSynchronized
  obtain ⟨A, hAe⟩ : ∃ A, A = ad [(y, .inr (5, [.int th, .int (nI bi), .int (nI ne), .int (nI li), .int (nI sp), .int (nI q), .ref ms, .ref mw, .ref mu, .ref mc, .ref mn, .int en, .int (nI sz), .ref mr, .int (nI wa), .ref mq, .int la, .ref md, .int at0, .int lk]))] := ⟨_, rfl⟩
  have hD : va_D A [(y, .inr (5, [.int th, .int (nI bi), .int (nI ne), .int (nI li), .int (nI sp), .int (nI q), .ref ms, .ref mw, .ref mu, .ref mc, .ref mn, .int en, .int (nI sz), .ref mr, .int (nI wa), .ref mq, .int la, .ref md, .int at0, .int lk]))] := by rw [hAe]; exact va_D_ad hD0
  have hS : va_S A s.heap s.heap [] := va_S.rf
  have hl := lv_entry ([.ref y, .int v0]) (n := 8) (Nat.le_of_ble_eq_true rfl)
  rw [lg_entry_eq]
  generalize (lg_sl ([.ref y, .int v0]) ++ List.replicate (8 - (lg_sl ([.ref y, .int v0])).length) Slot.unset).toArray = ls at hl ⊢
  have hl : lv_has ls 8 [(0, .ref y), (1, .int v0)] := hl
  refine lv_aload_n hx hb d_M_readRun_0 rfl (lv_at hl 0 rfl) ?_
  refine lv_iload_n hx hb d_M_readRun_1 rfl (lv_at hl 1 rfl) ?_
  refine lv_iconst (v := 1) hx hb d_M_readRun_2 (by decide) ?_
  refine lv_icmp_lt (tgt := 12) hx hb d_M_readRun_3 (by decide) (fun c_1 => ?_) (fun c_1 => ?_)
  · skip
    refine lv_iconst (v := 1) hx hb d_M_readRun_12 (by decide) ?_
    refine lv_goto (tgt := 17) hx hb d_M_readRun_13 (by decide) ?_
    refine va_put (D := D) (ci := 5) (v := .int 1) (ty := .int) (C := R_M) (T := T_M) (N := 20) hx hb hg in_M ty_M tok_M nm_M hown hK hP hD hS 0 rfl rfl 0 (by decide) (hg _ gw_524) (fun _ h9 => h9) rfl (by decide +kernel) (rfl) (rfl) (Nat.le_of_ble_eq_true rfl) d_M_readRun_17 (fun H locs hP hD hS => ?_)
    have hP : va_P D CLS [(y, .inr (5, [.int 1, .int (nI bi), .int (nI ne), .int (nI li), .int (nI sp), .int (nI q), .ref ms, .ref mw, .ref mu, .ref mc, .ref mn, .int en, .int (nI sz), .ref mr, .int (nI wa), .ref mq, .int la, .ref md, .int at0, .int lk]))] H := hP
    have hD : va_D A [(y, .inr (5, [.int 1, .int (nI bi), .int (nI ne), .int (nI li), .int (nI sp), .int (nI q), .ref ms, .ref mw, .ref mu, .ref mc, .ref mn, .int en, .int (nI sz), .ref mr, .int (nI wa), .ref mq, .int la, .ref md, .int at0, .int lk]))] := hD
    refine lv_aload_n hx hb d_M_readRun_20 rfl (lv_at hl 0 rfl) ?_
    refine va_get (D := D) (ci := 5) (v := .int 1) (C := R_M) (T := T_M) (N := 20) hx hb hg in_M hown hK hP 0 rfl rfl 0 (by decide) (hg _ gw_524) (fun _ h9 => h9) rfl d_M_readRun_21 ?_
    refine lv_if_le (tgt := 29) hx hb d_M_readRun_24 (by decide) (fun c_2 => ?_) (fun c_2 => ?_)
    · skip
      exact absurd c_2 (by decide)
    · skip
      refine lv_iconst (v := 0) hx hb d_M_readRun_27 (by decide) ?_
      exact W.iret (v := 0) hx hb hr (fun t ht hW => ⟨rfl, by rw [ht]; exact hP, (hAe ▸ hS).F ht⟩) (hAe ▸ hS).2.2 d_M_readRun_28
  · skip
    refine lv_iload_n hx hb d_M_readRun_6 rfl (lv_at hl 1 rfl) ?_
    refine lv_ldc (v := 65535) hx hb hown (hg _ gw_618) d_M_readRun_7 ?_
    refine lv_icmp_le (tgt := 16) hx hb d_M_readRun_9 (by decide) (fun c_3 => ?_) (fun c_3 => ?_)
    · skip
      exact absurd hbad (fun q9 => q9.elim c_1 (Int32.not_lt.mpr c_3))
    · skip
      refine lv_iconst (v := 1) hx hb d_M_readRun_12 (by decide) ?_
      refine lv_goto (tgt := 17) hx hb d_M_readRun_13 (by decide) ?_
      refine va_put (D := D) (ci := 5) (v := .int 1) (ty := .int) (C := R_M) (T := T_M) (N := 20) hx hb hg in_M ty_M tok_M nm_M hown hK hP hD hS 0 rfl rfl 0 (by decide) (hg _ gw_524) (fun _ h9 => h9) rfl (by decide +kernel) (rfl) (rfl) (Nat.le_of_ble_eq_true rfl) d_M_readRun_17 (fun H locs hP hD hS => ?_)
      have hP : va_P D CLS [(y, .inr (5, [.int 1, .int (nI bi), .int (nI ne), .int (nI li), .int (nI sp), .int (nI q), .ref ms, .ref mw, .ref mu, .ref mc, .ref mn, .int en, .int (nI sz), .ref mr, .int (nI wa), .ref mq, .int la, .ref md, .int at0, .int lk]))] H := hP
      have hD : va_D A [(y, .inr (5, [.int 1, .int (nI bi), .int (nI ne), .int (nI li), .int (nI sp), .int (nI q), .ref ms, .ref mw, .ref mu, .ref mc, .ref mn, .int en, .int (nI sz), .ref mr, .int (nI wa), .ref mq, .int la, .ref md, .int at0, .int lk]))] := hD
      refine lv_aload_n hx hb d_M_readRun_20 rfl (lv_at hl 0 rfl) ?_
      refine va_get (D := D) (ci := 5) (v := .int 1) (C := R_M) (T := T_M) (N := 20) hx hb hg in_M hown hK hP 0 rfl rfl 0 (by decide) (hg _ gw_524) (fun _ h9 => h9) rfl d_M_readRun_21 ?_
      refine lv_if_le (tgt := 29) hx hb d_M_readRun_24 (by decide) (fun c_4 => ?_) (fun c_4 => ?_)
      · skip
        exact absurd c_4 (by decide)
      · skip
        refine lv_iconst (v := 0) hx hb d_M_readRun_27 (by decide) ?_
        exact W.iret (v := 0) hx hb hr (fun t ht hW => ⟨rfl, by rw [ht]; exact hP, (hAe ▸ hS).F ht⟩) (hAe ▸ hS).2.2 d_M_readRun_28
set_option maxHeartbeats 4000000 in
set_option maxRecDepth 100000 in
theorem c_M_readInterrupt0N (l : Launch) (D : va_G) (y ms mw mu mc mn mr mq md bi ne li sp q sz wa : Nat) (th en la at0 lk : Int32) (cB cI : ClassId) (lw su cu nu wq : Nat → Int32) (rw sm ct ng K z : Nat) (hlw : lw 1 = nI rw) (hsu : su 2 = nI sm) (hcu : cu 2 = nI ct) (hnu : nu 2 = nI ng) (hwa : wa ≤ 1000) (hqb : ∀ j, j < wa → wq j = 0 ∨ wq j = 1) (hc0 : ct ≤ 64) (hn0 : ng ≤ 64) (hs0 : sm < 2 ^ 29) (hKb : K ≤ 29) (hK1 : sm ≤ ct * 2 ^ K) (hK2 : ∀ j, j < K → ct * 2 ^ j < sm) (hsp : sp ≤ 65536) (hq : q ≤ 29) (hli : q + 18 ≤ li) (hlb : li ≤ 200) (hrw : rw ≤ 15) (hz1 : z ≤ (li - 1 - rw - q - 1) + 1) (hz2 : z ≤ wa) (hz3 : ∀ j, j < z → wq j = 0) (hz4 : z = (li - 1 - rw - q - 1) + 1 ∨ z = wa ∨ wq z ≠ 0) (hzN : z = (li - 1 - rw - q - 1) + 1) : Met l y_M_readInterrupt (WSY y_M_readInterrupt b_M_readInterrupt 7 (some .int)) ({ frames := 3, cells := 0, slots := 0, locals := 72 }) (va_Pc [.ref y, .int 0] (fun U => va_P D CLS [(y, .inr (5, [.int th, .int (nI bi), .int (nI ne), .int (nI li), .int (nI sp), .int (nI q), .ref ms, .ref mw, .ref mu, .ref mc, .ref mn, .int en, .int (nI sz), .ref mr, .int (nI wa), .ref mq, .int la, .ref md, .int at0, .int lk])), (mw, .inl (cI, 2, .inl lw)), (mu, .inl (cI, 4, .inl su)), (mc, .inl (cI, 4, .inl cu)), (mn, .inl (cI, 4, .inl nu)), (mq, .inl (cB, 1000, .inl wq))] U.heap ∧ va_K D CLS [(cB, .byte), (cI, .int)] U ∧ va_D (fun _ => True) [(y, .inr (5, [.int th, .int (nI bi), .int (nI ne), .int (nI li), .int (nI sp), .int (nI q), .ref ms, .ref mw, .ref mu, .ref mc, .ref mn, .int en, .int (nI sz), .ref mr, .int (nI wa), .ref mq, .int la, .ref md, .int at0, .int lk])), (mw, .inl (cI, 2, .inl lw)), (mu, .inl (cI, 4, .inl su)), (mc, .inl (cI, 4, .inl cu)), (mn, .inl (cI, 4, .inl nu)), (mq, .inl (cB, 1000, .inl wq))])) (QM (some (.int 2147483647)) [(y, .inr (5, [.int th, .int (nI bi), .int (nI ne), .int (nI li), .int (nI sp), .int (nI q), .ref ms, .ref mw, .ref mu, .ref mc, .ref mn, .int en, .int (nI sz), .ref mr, .int (nI wa), .ref mq, .int la, .ref md, .int at0, .int lk])), (mw, .inl (cI, 2, .inl lw)), (mu, .inl (cI, 4, .inl su)), (mc, .inl (cI, 4, .inl cu)), (mn, .inl (cI, 4, .inl nu)), (mq, .inl (cB, 1000, .inl wq))] [(y, .inr (5, [.int 0, .int (nI bi), .int (nI ne), .int (nI li), .int (nI sp), .int (nI q), .ref ms, .ref mw, .ref mu, .ref mc, .ref mn, .int en, .int (nI sz), .ref mr, .int (nI (wa - ((li - 1 - rw - q - 1) + 1))), .ref mq, .int la, .ref md, .int (nI ((li - 1 - rw - q - 1) + 1)), .int 0])), (mw, .inl (cI, 2, .inl lw)), (mu, .inl (cI, 4, .inl su)), (mc, .inl (cI, 4, .inl cu)), (mn, .inl (cI, 4, .inl nu)), (mq, .inl (cB, 1000, .inl (gof wq ((li - 1 - rw - q - 1) + 1) (wa - ((li - 1 - rw - q - 1) + 1)))))] D) 0 0 (ad [(y, .inr (5, [.int th, .int (nI bi), .int (nI ne), .int (nI li), .int (nI sp), .int (nI q), .ref ms, .ref mw, .ref mu, .ref mc, .ref mn, .int en, .int (nI sz), .ref mr, .int (nI wa), .ref mq, .int la, .ref md, .int at0, .int lk])), (mw, .inl (cI, 2, .inl lw)), (mu, .inl (cI, 4, .inl su)), (mc, .inl (cI, 4, .inl cu)), (mn, .inl (cI, 4, .inl nu)), (mq, .inl (cB, 1000, .inl wq))]) := by
  refine Met.ofW (cc := b_M_readInterrupt) (maxL := 7) (ret := (some .int)) (by decide) rfl ?_
  intro p e s m args below meth c s₁ B hml hv
  obtain ⟨rfl, hP, hK, hD0⟩ := hv
  have hx := B.exec
  have hb := B.bytes
  have hr := B.returns
  have hts := atoms_spec (ws := WSY y_M_readInterrupt b_M_readInterrupt 7 (some .int)) B.pre
  have hg : ∀ w ∈ GW, w.before _ s = true := fun w h => hts w (List.mem_cons_of_mem _ h)
  have hown : s.vm.findClass "LineGolombModel" = some m.cls := findClass_of_methodNamed B.named
  have hlocks := B.notSynchronized
  obtain ⟨A, hAe⟩ : ∃ A, A = ad [(y, .inr (5, [.int th, .int (nI bi), .int (nI ne), .int (nI li), .int (nI sp), .int (nI q), .ref ms, .ref mw, .ref mu, .ref mc, .ref mn, .int en, .int (nI sz), .ref mr, .int (nI wa), .ref mq, .int la, .ref md, .int at0, .int lk])), (mw, .inl (cI, 2, .inl lw)), (mu, .inl (cI, 4, .inl su)), (mc, .inl (cI, 4, .inl cu)), (mn, .inl (cI, 4, .inl nu)), (mq, .inl (cB, 1000, .inl wq))] := ⟨_, rfl⟩
  have hD : va_D A [(y, .inr (5, [.int th, .int (nI bi), .int (nI ne), .int (nI li), .int (nI sp), .int (nI q), .ref ms, .ref mw, .ref mu, .ref mc, .ref mn, .int en, .int (nI sz), .ref mr, .int (nI wa), .ref mq, .int la, .ref md, .int at0, .int lk])), (mw, .inl (cI, 2, .inl lw)), (mu, .inl (cI, 4, .inl su)), (mc, .inl (cI, 4, .inl cu)), (mn, .inl (cI, 4, .inl nu)), (mq, .inl (cB, 1000, .inl wq))] := by rw [hAe]; exact va_D_ad hD0
  have hS : va_S A s.heap s.heap [] := va_S.rf
  have hl := lv_entry ([.ref y, .int 0]) (n := 7) (Nat.le_of_ble_eq_true rfl)
  rw [lg_entry_eq]
  generalize (lg_sl ([.ref y, .int 0]) ++ List.replicate (7 - (lg_sl ([.ref y, .int 0])).length) Slot.unset).toArray = ls at hl ⊢
  have hl : lv_has ls 7 [(0, .ref y), (1, .int 0)] := hl
  refine lv_aload_n hx hb d_M_readInterrupt_0 rfl (lv_at hl 0 rfl) ?_
  refine lv_aload_n hx hb d_M_readInterrupt_1 rfl (lv_at hl 0 rfl) ?_
  refine lv_iload_n hx hb d_M_readInterrupt_2 rfl (lv_at hl 1 rfl) ?_
  have hPc := hP.sub (ws' := [(y, .inr (5, [.int th, .int (nI bi), .int (nI ne), .int (nI li), .int (nI sp), .int (nI q), .ref ms, .ref mw, .ref mu, .ref mc, .ref mn, .int en, .int (nI sz), .ref mr, .int (nI wa), .ref mq, .int la, .ref md, .int at0, .int lk]))]) [0] rfl
  have hKc := hK.sub (tys' := []) [] rfl
  refine pci (va_runV (As := [.int 0]) (rest := [.ref y]) ⟨hx, hb, hml, hown, hg⟩ (c_M_isKind l D y ms mw mu mc mn mr mq md bi ne li sp q sz wa th en la at0 lk 0) (cwV 1 hg (gV gw_626 gw_628 gs_18 gw_7 gw_629) rfl rfl rfl (by decide +kernel) ⟨Nat.le_of_ble_eq_true rfl, Nat.le_of_ble_eq_true rfl⟩) ⟨fun a U g mk q => by obtain ⟨q0, qP, qK⟩ := q; exact ⟨q0, qP, va_K.moved (u := U) (U := U.calling g mk a) (Vm.Alike.refl U.vm) qK⟩, va_recv hKc hPc (ci := 5) (q0 := 0) rfl rfl, fun U hU hW => ⟨rfl, by rw [hU]; exact hPc, va_K.moved hW.alike hKc⟩⟩ rfl rfl hl.1 rfl (lv_room (Nat.le_of_ble_eq_true rfl)) d_M_readInterrupt_3 (⟨Nat.le_of_ble_eq_true rfl, Nat.le_of_ble_eq_true rfl⟩)) ?_
  refine tpi (y := 1) (by decide) ?_
  refine lv_if_eq (tgt := 13) hx hb d_M_readInterrupt_6 (by decide) (fun c_1 => ?_) (fun c_1 => ?_)
  · skip
    exact absurd c_1 (by decide)
  · skip
    refine lv_iconst (v := 0) hx hb d_M_readInterrupt_9 (by decide) ?_
    refine lv_goto (tgt := 14) hx hb d_M_readInterrupt_10 (by decide) ?_
    refine va_put (D := D) (ci := 5) (v := .int 0) (ty := .int) (C := R_M) (T := T_M) (N := 20) hx hb hg in_M ty_M tok_M nm_M hown hK hP hD hS 0 rfl rfl 0 (by decide) (hg _ gw_524) (fun _ h9 => h9) rfl (by decide +kernel) (rfl) (rfl) (Nat.le_of_ble_eq_true rfl) d_M_readInterrupt_14 (fun H locs hP hD hS => ?_)
    have hP : va_P D CLS [(y, .inr (5, [.int 0, .int (nI bi), .int (nI ne), .int (nI li), .int (nI sp), .int (nI q), .ref ms, .ref mw, .ref mu, .ref mc, .ref mn, .int en, .int (nI sz), .ref mr, .int (nI wa), .ref mq, .int la, .ref md, .int at0, .int lk])), (mw, .inl (cI, 2, .inl lw)), (mu, .inl (cI, 4, .inl su)), (mc, .inl (cI, 4, .inl cu)), (mn, .inl (cI, 4, .inl nu)), (mq, .inl (cB, 1000, .inl wq))] H := hP
    have hD : va_D A [(y, .inr (5, [.int 0, .int (nI bi), .int (nI ne), .int (nI li), .int (nI sp), .int (nI q), .ref ms, .ref mw, .ref mu, .ref mc, .ref mn, .int en, .int (nI sz), .ref mr, .int (nI wa), .ref mq, .int la, .ref md, .int at0, .int lk])), (mw, .inl (cI, 2, .inl lw)), (mu, .inl (cI, 4, .inl su)), (mc, .inl (cI, 4, .inl cu)), (mn, .inl (cI, 4, .inl nu)), (mq, .inl (cB, 1000, .inl wq))] := hD
    refine lv_aload_n hx hb d_M_readInterrupt_17 rfl (lv_at hl 0 rfl) ?_
    refine va_get (D := D) (ci := 5) (v := .int 0) (C := R_M) (T := T_M) (N := 20) hx hb hg in_M hown hK hP 0 rfl rfl 0 (by decide) (hg _ gw_524) (fun _ h9 => h9) rfl d_M_readInterrupt_18 ?_
    refine lv_if_le (tgt := 26) hx hb d_M_readInterrupt_21 (by decide) (fun c_2 => ?_) (fun c_2 => ?_)
    · skip
      refine lv_iconst (v := 2) hx hb d_M_readInterrupt_26 (by decide) ?_
      refine lv_iload_n hx hb d_M_readInterrupt_27 rfl (lv_at hl 1 rfl) ?_
      refine lv_iadd hx hb d_M_readInterrupt_28 ?_
      refine tpi (y := 2) (by decide) ?_
      refine lv_istore_n (lv' := [(2, .int 2), (0, .ref y), (1, .int 0)]) hx hb d_M_readInterrupt_29 rfl hl (by decide) rfl (fun ls hl => ?_)
      refine lv_aload_n hx hb d_M_readInterrupt_30 rfl (lv_at hl 1 rfl) ?_
      refine lv_aload_n hx hb d_M_readInterrupt_31 rfl (lv_at hl 1 rfl) ?_
      refine lv_iload_n hx hb d_M_readInterrupt_32 rfl (lv_at hl 0 rfl) ?_
      have hPc := hP.sub (ws' := [(y, .inr (5, [.int 0, .int (nI bi), .int (nI ne), .int (nI li), .int (nI sp), .int (nI q), .ref ms, .ref mw, .ref mu, .ref mc, .ref mn, .int en, .int (nI sz), .ref mr, .int (nI wa), .ref mq, .int la, .ref md, .int at0, .int lk])), (mu, .inl (cI, 4, .inl su)), (mc, .inl (cI, 4, .inl cu)), (mn, .inl (cI, 4, .inl nu))]) [0, 2, 3, 4] rfl
      have hKc := hK.sub (tys' := [(cI, .int)]) [1] rfl
      refine pci (va_runV (As := [.int 2]) (rest := [.ref y]) ⟨hx, hb, hml, hown, hg⟩ (c_M_kOf2 l D y ms mw mu mc mn mr mq md bi ne li sp q sz wa 0 en la at0 lk cI su cu nu sm ct ng K hsu hcu hnu hc0 hn0 (by omega) hKb hK1 hK2) (cwV 1 hg (gV gw_638 gw_640 gs_21 gw_7 gw_641) rfl rfl rfl (by decide +kernel) ⟨Nat.le_of_ble_eq_true rfl, Nat.le_of_ble_eq_true rfl⟩) ⟨fun a U g mk q => by obtain ⟨q0, qP, qK⟩ := q; exact ⟨q0, qP, va_K.moved (u := U) (U := U.calling g mk a) (Vm.Alike.refl U.vm) qK⟩, va_recv hKc hPc (ci := 5) (q0 := 0) rfl rfl, fun U hU hW => ⟨rfl, by rw [hU]; exact hPc, va_K.moved hW.alike hKc⟩⟩ rfl rfl hl.1 rfl (lv_room (Nat.le_of_ble_eq_true rfl)) d_M_readInterrupt_33 (⟨Nat.le_of_ble_eq_true rfl, Nat.le_of_ble_eq_true rfl⟩)) ?_
      refine lv_aload_n hx hb d_M_readInterrupt_36 rfl (lv_at hl 1 rfl) ?_
      refine lv_iconst (v := 1) hx hb d_M_readInterrupt_37 (by decide) ?_
      have hPc := hP.sub (ws' := [(y, .inr (5, [.int 0, .int (nI bi), .int (nI ne), .int (nI li), .int (nI sp), .int (nI q), .ref ms, .ref mw, .ref mu, .ref mc, .ref mn, .int en, .int (nI sz), .ref mr, .int (nI wa), .ref mq, .int la, .ref md, .int at0, .int lk])), (mw, .inl (cI, 2, .inl lw))]) [0, 1] rfl
      have hKc := hK.sub (tys' := [(cI, .int)]) [1] rfl
      refine pci (va_runV (As := [.int 1]) (rest := [.int (nI K), .ref y]) ⟨hx, hb, hml, hown, hg⟩ (c_M_limitFor1 l D y ms mw mu mc mn mr mq md bi ne li sp q sz wa 0 en la at0 lk cI lw rw hlw (by omega)) (cwV 1 hg (gV gw_642 gw_644 gs_22 gw_7 gw_645) rfl rfl rfl (by decide +kernel) ⟨Nat.le_of_ble_eq_true rfl, Nat.le_of_ble_eq_true rfl⟩) ⟨fun a U g mk q => by obtain ⟨q0, qP, qK⟩ := q; exact ⟨q0, qP, va_K.moved (u := U) (U := U.calling g mk a) (Vm.Alike.refl U.vm) qK⟩, va_recv hKc hPc (ci := 5) (q0 := 0) rfl rfl, fun U hU hW => ⟨rfl, by rw [hU]; exact hPc, va_K.moved hW.alike hKc⟩⟩ rfl rfl hl.1 rfl (lv_room (Nat.le_of_ble_eq_true rfl)) d_M_readInterrupt_38 (⟨Nat.le_of_ble_eq_true rfl, Nat.le_of_ble_eq_true rfl⟩)) ?_
      have hPc := hP.sub (ws' := [(y, .inr (5, [.int 0, .int (nI bi), .int (nI ne), .int (nI li), .int (nI sp), .int (nI q), .ref ms, .ref mw, .ref mu, .ref mc, .ref mn, .int en, .int (nI sz), .ref mr, .int (nI wa), .ref mq, .int la, .ref md, .int at0, .int lk])), (mq, .inl (cB, 1000, .inl wq))]) [0, 5] rfl
      have hDc := hD.sub (ws' := [(y, .inr (5, [.int 0, .int (nI bi), .int (nI ne), .int (nI li), .int (nI sp), .int (nI q), .ref ms, .ref mw, .ref mu, .ref mc, .ref mn, .int en, .int (nI sz), .ref mr, .int (nI wa), .ref mq, .int la, .ref md, .int at0, .int lk])), (mq, .inl (cB, 1000, .inl wq))]) [0, 5] (by decide) rfl
      have hKc := hK.sub (tys' := [(cB, .byte)]) [0] rfl
      refine mci (va_runV (As := [.int (nI K), .int (nI (li - 1 - rw))]) (rest := []) ⟨hx, hb, hml, hown, hg⟩ (c_M_lookN l D y ms mw mu mc mn mr mq md bi ne li sp q sz wa 0 en la at0 lk cB wq K (li - 1 - rw) z hwa (by omega) (by omega) (by omega) (by omega) hz1 hz2 hz3 hz4 hzN) (cwV 2 hg (gV gw_674 gw_676 gs_25 gw_7 gw_677) rfl rfl rfl (by decide +kernel) ⟨Nat.le_of_ble_eq_true rfl, Nat.le_of_ble_eq_true rfl⟩) ⟨fun a U g mk q => by obtain ⟨q0, qP, qK, qD⟩ := q; exact ⟨q0, qP, va_K.moved (u := U) (U := U.calling g mk a) (Vm.Alike.refl U.vm) qK, qD⟩, va_recv hKc hPc (ci := 5) (q0 := 0) rfl rfl, fun U hU hW => ⟨rfl, by rw [hU]; exact hPc, va_K.moved hW.alike hKc, hDc.weaken (fun _ _ _ _ => trivial)⟩⟩ rfl rfl hl.1 rfl (lv_room (Nat.le_of_ble_eq_true rfl)) d_M_readInterrupt_41 (⟨Nat.le_of_ble_eq_true rfl, Nat.le_of_ble_eq_true rfl⟩)) hS hP hD [0, 5] rfl rfl rfl (fun H locs hP hD hS => ?_)
      have hP : va_P D CLS [(y, .inr (5, [.int 0, .int (nI bi), .int (nI ne), .int (nI li), .int (nI sp), .int (nI q), .ref ms, .ref mw, .ref mu, .ref mc, .ref mn, .int en, .int (nI sz), .ref mr, .int (nI wa), .ref mq, .int la, .ref md, .int (nI ((li - 1 - rw - q - 1) + 1)), .int 0])), (mw, .inl (cI, 2, .inl lw)), (mu, .inl (cI, 4, .inl su)), (mc, .inl (cI, 4, .inl cu)), (mn, .inl (cI, 4, .inl nu)), (mq, .inl (cB, 1000, .inl wq))] H := hP
      have hD : va_D A [(y, .inr (5, [.int 0, .int (nI bi), .int (nI ne), .int (nI li), .int (nI sp), .int (nI q), .ref ms, .ref mw, .ref mu, .ref mc, .ref mn, .int en, .int (nI sz), .ref mr, .int (nI wa), .ref mq, .int la, .ref md, .int (nI ((li - 1 - rw - q - 1) + 1)), .int 0])), (mw, .inl (cI, 2, .inl lw)), (mu, .inl (cI, 4, .inl su)), (mc, .inl (cI, 4, .inl cu)), (mn, .inl (cI, 4, .inl nu)), (mq, .inl (cB, 1000, .inl wq))] := hD
      refine lv_istore_n (lv' := [(3, .int (-2)), (2, .int 2), (0, .ref y), (1, .int 0)]) hx hb d_M_readInterrupt_44 rfl hl (by decide) rfl (fun ls hl => ?_)
      refine lv_iload_n hx hb d_M_readInterrupt_45 rfl (lv_at hl 0 rfl) ?_
      refine lv_iconst (v := (-1)) hx hb d_M_readInterrupt_46 (by decide) ?_
      refine lv_icmp_ne (tgt := 53) hx hb d_M_readInterrupt_47 (by decide) (fun c_3 => ?_) (fun c_3 => ?_)
      · skip
        refine lv_aload_n hx hb d_M_readInterrupt_53 rfl (lv_at hl 2 rfl) ?_
        refine lv_aload_n hx hb d_M_readInterrupt_54 rfl (lv_at hl 2 rfl) ?_
        refine va_get (D := D) (ci := 5) (v := .int (nI ((li - 1 - rw - q - 1) + 1))) (C := R_M) (T := T_M) (N := 20) hx hb hg in_M hown hK hP 0 rfl rfl 18 (by decide) (hg _ gw_542) (fun _ h9 => h9) rfl d_M_readInterrupt_55 ?_
        have hPc := hP.sub (ws' := [(y, .inr (5, [.int 0, .int (nI bi), .int (nI ne), .int (nI li), .int (nI sp), .int (nI q), .ref ms, .ref mw, .ref mu, .ref mc, .ref mn, .int en, .int (nI sz), .ref mr, .int (nI wa), .ref mq, .int la, .ref md, .int (nI ((li - 1 - rw - q - 1) + 1)), .int 0])), (mq, .inl (cB, 1000, .inl wq))]) [0, 5] rfl
        have hDc := hD.sub (ws' := [(y, .inr (5, [.int 0, .int (nI bi), .int (nI ne), .int (nI li), .int (nI sp), .int (nI q), .ref ms, .ref mw, .ref mu, .ref mc, .ref mn, .int en, .int (nI sz), .ref mr, .int (nI wa), .ref mq, .int la, .ref md, .int (nI ((li - 1 - rw - q - 1) + 1)), .int 0])), (mq, .inl (cB, 1000, .inl wq))]) [0, 5] (by decide) rfl
        have hKc := hK.sub (tys' := [(cB, .byte)]) [0] rfl
        refine mcv (va_runV (As := [.int (nI ((li - 1 - rw - q - 1) + 1))]) (rest := []) ⟨hx, hb, hml, hown, hg⟩ (c_M_go l D y ms mw mu mc mn mr mq md bi ne li sp q sz wa 0 en la (nI ((li - 1 - rw - q - 1) + 1)) 0 cB wq ((li - 1 - rw - q - 1) + 1) hwa (by omega) hqb) (cwV 1 hg (gV gw_686 gw_688 gs_28 gw_7 gw_689) rfl rfl rfl (by decide +kernel) ⟨Nat.le_of_ble_eq_true rfl, Nat.le_of_ble_eq_true rfl⟩) ⟨fun a U g mk q => by obtain ⟨q0, qP, qK, qD⟩ := q; exact ⟨q0, qP, va_K.moved (u := U) (U := U.calling g mk a) (Vm.Alike.refl U.vm) qK, qD⟩, va_recv hKc hPc (ci := 5) (q0 := 0) rfl rfl, fun U hU hW => ⟨rfl, by rw [hU]; exact hPc, va_K.moved hW.alike hKc, hDc.weaken (fun _ _ _ _ => trivial)⟩⟩ rfl rfl hl.1 rfl (lv_room (Nat.le_of_ble_eq_true rfl)) d_M_readInterrupt_58 (⟨Nat.le_of_ble_eq_true rfl, Nat.le_of_ble_eq_true rfl⟩)) hS hP hD [0, 5] rfl rfl rfl (fun H locs hP hD hS => ?_)
        have hP : va_P D CLS [(y, .inr (5, [.int 0, .int (nI bi), .int (nI ne), .int (nI li), .int (nI sp), .int (nI q), .ref ms, .ref mw, .ref mu, .ref mc, .ref mn, .int en, .int (nI sz), .ref mr, .int (nI (wa - ((li - 1 - rw - q - 1) + 1))), .ref mq, .int la, .ref md, .int (nI ((li - 1 - rw - q - 1) + 1)), .int 0])), (mw, .inl (cI, 2, .inl lw)), (mu, .inl (cI, 4, .inl su)), (mc, .inl (cI, 4, .inl cu)), (mn, .inl (cI, 4, .inl nu)), (mq, .inl (cB, 1000, .inl (gof wq ((li - 1 - rw - q - 1) + 1) (wa - ((li - 1 - rw - q - 1) + 1)))))] H := hP
        have hD : va_D A [(y, .inr (5, [.int 0, .int (nI bi), .int (nI ne), .int (nI li), .int (nI sp), .int (nI q), .ref ms, .ref mw, .ref mu, .ref mc, .ref mn, .int en, .int (nI sz), .ref mr, .int (nI (wa - ((li - 1 - rw - q - 1) + 1))), .ref mq, .int la, .ref md, .int (nI ((li - 1 - rw - q - 1) + 1)), .int 0])), (mw, .inl (cI, 2, .inl lw)), (mu, .inl (cI, 4, .inl su)), (mc, .inl (cI, 4, .inl cu)), (mn, .inl (cI, 4, .inl nu)), (mq, .inl (cB, 1000, .inl (gof wq ((li - 1 - rw - q - 1) + 1) (wa - ((li - 1 - rw - q - 1) + 1)))))] := hD
        refine lv_iload_n hx hb d_M_readInterrupt_61 rfl (lv_at hl 0 rfl) ?_
        refine lv_bipush (v := (-2)) hx hb d_M_readInterrupt_62 (by decide) ?_
        refine lv_icmp_ne (tgt := 70) hx hb d_M_readInterrupt_64 (by decide) (fun c_4 => ?_) (fun c_4 => ?_)
        · skip
          exact absurd rfl c_4
        · skip
          refine lv_ldc (v := 2147483647) hx hb hown (hg _ gw_698) d_M_readInterrupt_67 ?_
          exact W.iret (v := 2147483647) hx hb hr (fun t ht hW => ⟨rfl, by rw [ht]; exact hP, (hAe ▸ hS).F ht⟩) (hAe ▸ hS).2.2 d_M_readInterrupt_69
      · skip
        exact absurd c_3 (by decide)
    · skip
      exact absurd (by decide) c_2
set_option maxHeartbeats 4000000 in
set_option maxRecDepth 100000 in
theorem c_M_readInterrupt0W (l : Launch) (D : va_G) (y ms mw mu mc mn mr mq md bi ne li sp q sz wa : Nat) (th en la at0 lk : Int32) (cB cI : ClassId) (lw su cu nu wq : Nat → Int32) (rw sm ct ng K z : Nat) (hlw : lw 1 = nI rw) (hsu : su 2 = nI sm) (hcu : cu 2 = nI ct) (hnu : nu 2 = nI ng) (hwa : wa ≤ 1000) (hqb : ∀ j, j < wa → wq j = 0 ∨ wq j = 1) (hc0 : ct ≤ 64) (hn0 : ng ≤ 64) (hs0 : sm < 2 ^ 29) (hKb : K ≤ 29) (hK1 : sm ≤ ct * 2 ^ K) (hK2 : ∀ j, j < K → ct * 2 ^ j < sm) (hsp : sp ≤ 65536) (hq : q ≤ 29) (hli : q + 18 ≤ li) (hlb : li ≤ 200) (hrw : rw ≤ 15) (hz1 : z ≤ (li - 1 - rw - q - 1) + 1) (hz2 : z ≤ wa) (hz3 : ∀ j, j < z → wq j = 0) (hz4 : z = (li - 1 - rw - q - 1) + 1 ∨ z = wa ∨ wq z ≠ 0) (hzm : z ≤ (li - 1 - rw - q - 1)) (hw : wa < z + 1 + tln q K (li - 1 - rw - q - 1) z) : Met l y_M_readInterrupt (WSY y_M_readInterrupt b_M_readInterrupt 7 (some .int)) ({ frames := 3, cells := 0, slots := 0, locals := 72 }) (va_Pc [.ref y, .int 0] (fun U => va_P D CLS [(y, .inr (5, [.int th, .int (nI bi), .int (nI ne), .int (nI li), .int (nI sp), .int (nI q), .ref ms, .ref mw, .ref mu, .ref mc, .ref mn, .int en, .int (nI sz), .ref mr, .int (nI wa), .ref mq, .int la, .ref md, .int at0, .int lk])), (mw, .inl (cI, 2, .inl lw)), (mu, .inl (cI, 4, .inl su)), (mc, .inl (cI, 4, .inl cu)), (mn, .inl (cI, 4, .inl nu)), (mq, .inl (cB, 1000, .inl wq))] U.heap ∧ va_K D CLS [(cB, .byte), (cI, .int)] U ∧ va_D (fun _ => True) [(y, .inr (5, [.int th, .int (nI bi), .int (nI ne), .int (nI li), .int (nI sp), .int (nI q), .ref ms, .ref mw, .ref mu, .ref mc, .ref mn, .int en, .int (nI sz), .ref mr, .int (nI wa), .ref mq, .int la, .ref md, .int at0, .int lk])), (mw, .inl (cI, 2, .inl lw)), (mu, .inl (cI, 4, .inl su)), (mc, .inl (cI, 4, .inl cu)), (mn, .inl (cI, 4, .inl nu)), (mq, .inl (cB, 1000, .inl wq))])) (QM (some (.int 2147483647)) [(y, .inr (5, [.int th, .int (nI bi), .int (nI ne), .int (nI li), .int (nI sp), .int (nI q), .ref ms, .ref mw, .ref mu, .ref mc, .ref mn, .int en, .int (nI sz), .ref mr, .int (nI wa), .ref mq, .int la, .ref md, .int at0, .int lk])), (mw, .inl (cI, 2, .inl lw)), (mu, .inl (cI, 4, .inl su)), (mc, .inl (cI, 4, .inl cu)), (mn, .inl (cI, 4, .inl nu)), (mq, .inl (cB, 1000, .inl wq))] [(y, .inr (5, [.int 0, .int (nI bi), .int (nI ne), .int (nI li), .int (nI sp), .int (nI q), .ref ms, .ref mw, .ref mu, .ref mc, .ref mn, .int en, .int (nI sz), .ref mr, .int (nI wa), .ref mq, .int la, .ref md, .int (nI wa), .int 1])), (mw, .inl (cI, 2, .inl lw)), (mu, .inl (cI, 4, .inl su)), (mc, .inl (cI, 4, .inl cu)), (mn, .inl (cI, 4, .inl nu)), (mq, .inl (cB, 1000, .inl wq))] D) 0 0 (ad [(y, .inr (5, [.int th, .int (nI bi), .int (nI ne), .int (nI li), .int (nI sp), .int (nI q), .ref ms, .ref mw, .ref mu, .ref mc, .ref mn, .int en, .int (nI sz), .ref mr, .int (nI wa), .ref mq, .int la, .ref md, .int at0, .int lk])), (mw, .inl (cI, 2, .inl lw)), (mu, .inl (cI, 4, .inl su)), (mc, .inl (cI, 4, .inl cu)), (mn, .inl (cI, 4, .inl nu)), (mq, .inl (cB, 1000, .inl wq))]) := by
  refine Met.ofW (cc := b_M_readInterrupt) (maxL := 7) (ret := (some .int)) (by decide) rfl ?_
  intro p e s m args below meth c s₁ B hml hv
  obtain ⟨rfl, hP, hK, hD0⟩ := hv
  have hx := B.exec
  have hb := B.bytes
  have hr := B.returns
  have hts := atoms_spec (ws := WSY y_M_readInterrupt b_M_readInterrupt 7 (some .int)) B.pre
  have hg : ∀ w ∈ GW, w.before _ s = true := fun w h => hts w (List.mem_cons_of_mem _ h)
  have hown : s.vm.findClass "LineGolombModel" = some m.cls := findClass_of_methodNamed B.named
  have hlocks := B.notSynchronized
  obtain ⟨A, hAe⟩ : ∃ A, A = ad [(y, .inr (5, [.int th, .int (nI bi), .int (nI ne), .int (nI li), .int (nI sp), .int (nI q), .ref ms, .ref mw, .ref mu, .ref mc, .ref mn, .int en, .int (nI sz), .ref mr, .int (nI wa), .ref mq, .int la, .ref md, .int at0, .int lk])), (mw, .inl (cI, 2, .inl lw)), (mu, .inl (cI, 4, .inl su)), (mc, .inl (cI, 4, .inl cu)), (mn, .inl (cI, 4, .inl nu)), (mq, .inl (cB, 1000, .inl wq))] := ⟨_, rfl⟩
  have hD : va_D A [(y, .inr (5, [.int th, .int (nI bi), .int (nI ne), .int (nI li), .int (nI sp), .int (nI q), .ref ms, .ref mw, .ref mu, .ref mc, .ref mn, .int en, .int (nI sz), .ref mr, .int (nI wa), .ref mq, .int la, .ref md, .int at0, .int lk])), (mw, .inl (cI, 2, .inl lw)), (mu, .inl (cI, 4, .inl su)), (mc, .inl (cI, 4, .inl cu)), (mn, .inl (cI, 4, .inl nu)), (mq, .inl (cB, 1000, .inl wq))] := by rw [hAe]; exact va_D_ad hD0
  have hS : va_S A s.heap s.heap [] := va_S.rf
  have hl := lv_entry ([.ref y, .int 0]) (n := 7) (Nat.le_of_ble_eq_true rfl)
  rw [lg_entry_eq]
  generalize (lg_sl ([.ref y, .int 0]) ++ List.replicate (7 - (lg_sl ([.ref y, .int 0])).length) Slot.unset).toArray = ls at hl ⊢
  have hl : lv_has ls 7 [(0, .ref y), (1, .int 0)] := hl
  refine lv_aload_n hx hb d_M_readInterrupt_0 rfl (lv_at hl 0 rfl) ?_
  refine lv_aload_n hx hb d_M_readInterrupt_1 rfl (lv_at hl 0 rfl) ?_
  refine lv_iload_n hx hb d_M_readInterrupt_2 rfl (lv_at hl 1 rfl) ?_
  have hPc := hP.sub (ws' := [(y, .inr (5, [.int th, .int (nI bi), .int (nI ne), .int (nI li), .int (nI sp), .int (nI q), .ref ms, .ref mw, .ref mu, .ref mc, .ref mn, .int en, .int (nI sz), .ref mr, .int (nI wa), .ref mq, .int la, .ref md, .int at0, .int lk]))]) [0] rfl
  have hKc := hK.sub (tys' := []) [] rfl
  refine pci (va_runV (As := [.int 0]) (rest := [.ref y]) ⟨hx, hb, hml, hown, hg⟩ (c_M_isKind l D y ms mw mu mc mn mr mq md bi ne li sp q sz wa th en la at0 lk 0) (cwV 1 hg (gV gw_626 gw_628 gs_18 gw_7 gw_629) rfl rfl rfl (by decide +kernel) ⟨Nat.le_of_ble_eq_true rfl, Nat.le_of_ble_eq_true rfl⟩) ⟨fun a U g mk q => by obtain ⟨q0, qP, qK⟩ := q; exact ⟨q0, qP, va_K.moved (u := U) (U := U.calling g mk a) (Vm.Alike.refl U.vm) qK⟩, va_recv hKc hPc (ci := 5) (q0 := 0) rfl rfl, fun U hU hW => ⟨rfl, by rw [hU]; exact hPc, va_K.moved hW.alike hKc⟩⟩ rfl rfl hl.1 rfl (lv_room (Nat.le_of_ble_eq_true rfl)) d_M_readInterrupt_3 (⟨Nat.le_of_ble_eq_true rfl, Nat.le_of_ble_eq_true rfl⟩)) ?_
  refine tpi (y := 1) (by decide) ?_
  refine lv_if_eq (tgt := 13) hx hb d_M_readInterrupt_6 (by decide) (fun c_1 => ?_) (fun c_1 => ?_)
  · skip
    exact absurd c_1 (by decide)
  · skip
    refine lv_iconst (v := 0) hx hb d_M_readInterrupt_9 (by decide) ?_
    refine lv_goto (tgt := 14) hx hb d_M_readInterrupt_10 (by decide) ?_
    refine va_put (D := D) (ci := 5) (v := .int 0) (ty := .int) (C := R_M) (T := T_M) (N := 20) hx hb hg in_M ty_M tok_M nm_M hown hK hP hD hS 0 rfl rfl 0 (by decide) (hg _ gw_524) (fun _ h9 => h9) rfl (by decide +kernel) (rfl) (rfl) (Nat.le_of_ble_eq_true rfl) d_M_readInterrupt_14 (fun H locs hP hD hS => ?_)
    have hP : va_P D CLS [(y, .inr (5, [.int 0, .int (nI bi), .int (nI ne), .int (nI li), .int (nI sp), .int (nI q), .ref ms, .ref mw, .ref mu, .ref mc, .ref mn, .int en, .int (nI sz), .ref mr, .int (nI wa), .ref mq, .int la, .ref md, .int at0, .int lk])), (mw, .inl (cI, 2, .inl lw)), (mu, .inl (cI, 4, .inl su)), (mc, .inl (cI, 4, .inl cu)), (mn, .inl (cI, 4, .inl nu)), (mq, .inl (cB, 1000, .inl wq))] H := hP
    have hD : va_D A [(y, .inr (5, [.int 0, .int (nI bi), .int (nI ne), .int (nI li), .int (nI sp), .int (nI q), .ref ms, .ref mw, .ref mu, .ref mc, .ref mn, .int en, .int (nI sz), .ref mr, .int (nI wa), .ref mq, .int la, .ref md, .int at0, .int lk])), (mw, .inl (cI, 2, .inl lw)), (mu, .inl (cI, 4, .inl su)), (mc, .inl (cI, 4, .inl cu)), (mn, .inl (cI, 4, .inl nu)), (mq, .inl (cB, 1000, .inl wq))] := hD
    refine lv_aload_n hx hb d_M_readInterrupt_17 rfl (lv_at hl 0 rfl) ?_
    refine va_get (D := D) (ci := 5) (v := .int 0) (C := R_M) (T := T_M) (N := 20) hx hb hg in_M hown hK hP 0 rfl rfl 0 (by decide) (hg _ gw_524) (fun _ h9 => h9) rfl d_M_readInterrupt_18 ?_
    refine lv_if_le (tgt := 26) hx hb d_M_readInterrupt_21 (by decide) (fun c_2 => ?_) (fun c_2 => ?_)
    · skip
      refine lv_iconst (v := 2) hx hb d_M_readInterrupt_26 (by decide) ?_
      refine lv_iload_n hx hb d_M_readInterrupt_27 rfl (lv_at hl 1 rfl) ?_
      refine lv_iadd hx hb d_M_readInterrupt_28 ?_
      refine tpi (y := 2) (by decide) ?_
      refine lv_istore_n (lv' := [(2, .int 2), (0, .ref y), (1, .int 0)]) hx hb d_M_readInterrupt_29 rfl hl (by decide) rfl (fun ls hl => ?_)
      refine lv_aload_n hx hb d_M_readInterrupt_30 rfl (lv_at hl 1 rfl) ?_
      refine lv_aload_n hx hb d_M_readInterrupt_31 rfl (lv_at hl 1 rfl) ?_
      refine lv_iload_n hx hb d_M_readInterrupt_32 rfl (lv_at hl 0 rfl) ?_
      have hPc := hP.sub (ws' := [(y, .inr (5, [.int 0, .int (nI bi), .int (nI ne), .int (nI li), .int (nI sp), .int (nI q), .ref ms, .ref mw, .ref mu, .ref mc, .ref mn, .int en, .int (nI sz), .ref mr, .int (nI wa), .ref mq, .int la, .ref md, .int at0, .int lk])), (mu, .inl (cI, 4, .inl su)), (mc, .inl (cI, 4, .inl cu)), (mn, .inl (cI, 4, .inl nu))]) [0, 2, 3, 4] rfl
      have hKc := hK.sub (tys' := [(cI, .int)]) [1] rfl
      refine pci (va_runV (As := [.int 2]) (rest := [.ref y]) ⟨hx, hb, hml, hown, hg⟩ (c_M_kOf2 l D y ms mw mu mc mn mr mq md bi ne li sp q sz wa 0 en la at0 lk cI su cu nu sm ct ng K hsu hcu hnu hc0 hn0 (by omega) hKb hK1 hK2) (cwV 1 hg (gV gw_638 gw_640 gs_21 gw_7 gw_641) rfl rfl rfl (by decide +kernel) ⟨Nat.le_of_ble_eq_true rfl, Nat.le_of_ble_eq_true rfl⟩) ⟨fun a U g mk q => by obtain ⟨q0, qP, qK⟩ := q; exact ⟨q0, qP, va_K.moved (u := U) (U := U.calling g mk a) (Vm.Alike.refl U.vm) qK⟩, va_recv hKc hPc (ci := 5) (q0 := 0) rfl rfl, fun U hU hW => ⟨rfl, by rw [hU]; exact hPc, va_K.moved hW.alike hKc⟩⟩ rfl rfl hl.1 rfl (lv_room (Nat.le_of_ble_eq_true rfl)) d_M_readInterrupt_33 (⟨Nat.le_of_ble_eq_true rfl, Nat.le_of_ble_eq_true rfl⟩)) ?_
      refine lv_aload_n hx hb d_M_readInterrupt_36 rfl (lv_at hl 1 rfl) ?_
      refine lv_iconst (v := 1) hx hb d_M_readInterrupt_37 (by decide) ?_
      have hPc := hP.sub (ws' := [(y, .inr (5, [.int 0, .int (nI bi), .int (nI ne), .int (nI li), .int (nI sp), .int (nI q), .ref ms, .ref mw, .ref mu, .ref mc, .ref mn, .int en, .int (nI sz), .ref mr, .int (nI wa), .ref mq, .int la, .ref md, .int at0, .int lk])), (mw, .inl (cI, 2, .inl lw))]) [0, 1] rfl
      have hKc := hK.sub (tys' := [(cI, .int)]) [1] rfl
      refine pci (va_runV (As := [.int 1]) (rest := [.int (nI K), .ref y]) ⟨hx, hb, hml, hown, hg⟩ (c_M_limitFor1 l D y ms mw mu mc mn mr mq md bi ne li sp q sz wa 0 en la at0 lk cI lw rw hlw (by omega)) (cwV 1 hg (gV gw_642 gw_644 gs_22 gw_7 gw_645) rfl rfl rfl (by decide +kernel) ⟨Nat.le_of_ble_eq_true rfl, Nat.le_of_ble_eq_true rfl⟩) ⟨fun a U g mk q => by obtain ⟨q0, qP, qK⟩ := q; exact ⟨q0, qP, va_K.moved (u := U) (U := U.calling g mk a) (Vm.Alike.refl U.vm) qK⟩, va_recv hKc hPc (ci := 5) (q0 := 0) rfl rfl, fun U hU hW => ⟨rfl, by rw [hU]; exact hPc, va_K.moved hW.alike hKc⟩⟩ rfl rfl hl.1 rfl (lv_room (Nat.le_of_ble_eq_true rfl)) d_M_readInterrupt_38 (⟨Nat.le_of_ble_eq_true rfl, Nat.le_of_ble_eq_true rfl⟩)) ?_
      have hPc := hP.sub (ws' := [(y, .inr (5, [.int 0, .int (nI bi), .int (nI ne), .int (nI li), .int (nI sp), .int (nI q), .ref ms, .ref mw, .ref mu, .ref mc, .ref mn, .int en, .int (nI sz), .ref mr, .int (nI wa), .ref mq, .int la, .ref md, .int at0, .int lk])), (mq, .inl (cB, 1000, .inl wq))]) [0, 5] rfl
      have hDc := hD.sub (ws' := [(y, .inr (5, [.int 0, .int (nI bi), .int (nI ne), .int (nI li), .int (nI sp), .int (nI q), .ref ms, .ref mw, .ref mu, .ref mc, .ref mn, .int en, .int (nI sz), .ref mr, .int (nI wa), .ref mq, .int la, .ref md, .int at0, .int lk])), (mq, .inl (cB, 1000, .inl wq))]) [0, 5] (by decide) rfl
      have hKc := hK.sub (tys' := [(cB, .byte)]) [0] rfl
      refine mci (va_runV (As := [.int (nI K), .int (nI (li - 1 - rw))]) (rest := []) ⟨hx, hb, hml, hown, hg⟩ (c_M_lookW l D y ms mw mu mc mn mr mq md bi ne li sp q sz wa 0 en la at0 lk cB wq K (li - 1 - rw) z hwa (by omega) (by omega) (by omega) (by omega) hz1 hz2 hz3 hz4 hzm hw) (cwV 2 hg (gV gw_674 gw_676 gs_25 gw_7 gw_677) rfl rfl rfl (by decide +kernel) ⟨Nat.le_of_ble_eq_true rfl, Nat.le_of_ble_eq_true rfl⟩) ⟨fun a U g mk q => by obtain ⟨q0, qP, qK, qD⟩ := q; exact ⟨q0, qP, va_K.moved (u := U) (U := U.calling g mk a) (Vm.Alike.refl U.vm) qK, qD⟩, va_recv hKc hPc (ci := 5) (q0 := 0) rfl rfl, fun U hU hW => ⟨rfl, by rw [hU]; exact hPc, va_K.moved hW.alike hKc, hDc.weaken (fun _ _ _ _ => trivial)⟩⟩ rfl rfl hl.1 rfl (lv_room (Nat.le_of_ble_eq_true rfl)) d_M_readInterrupt_41 (⟨Nat.le_of_ble_eq_true rfl, Nat.le_of_ble_eq_true rfl⟩)) hS hP hD [0, 5] rfl rfl rfl (fun H locs hP hD hS => ?_)
      have hP : va_P D CLS [(y, .inr (5, [.int 0, .int (nI bi), .int (nI ne), .int (nI li), .int (nI sp), .int (nI q), .ref ms, .ref mw, .ref mu, .ref mc, .ref mn, .int en, .int (nI sz), .ref mr, .int (nI wa), .ref mq, .int la, .ref md, .int (nI (wa)), .int 1])), (mw, .inl (cI, 2, .inl lw)), (mu, .inl (cI, 4, .inl su)), (mc, .inl (cI, 4, .inl cu)), (mn, .inl (cI, 4, .inl nu)), (mq, .inl (cB, 1000, .inl wq))] H := hP
      have hD : va_D A [(y, .inr (5, [.int 0, .int (nI bi), .int (nI ne), .int (nI li), .int (nI sp), .int (nI q), .ref ms, .ref mw, .ref mu, .ref mc, .ref mn, .int en, .int (nI sz), .ref mr, .int (nI wa), .ref mq, .int la, .ref md, .int (nI (wa)), .int 1])), (mw, .inl (cI, 2, .inl lw)), (mu, .inl (cI, 4, .inl su)), (mc, .inl (cI, 4, .inl cu)), (mn, .inl (cI, 4, .inl nu)), (mq, .inl (cB, 1000, .inl wq))] := hD
      refine lv_istore_n (lv' := [(3, .int (-1)), (2, .int 2), (0, .ref y), (1, .int 0)]) hx hb d_M_readInterrupt_44 rfl hl (by decide) rfl (fun ls hl => ?_)
      refine lv_iload_n hx hb d_M_readInterrupt_45 rfl (lv_at hl 0 rfl) ?_
      refine lv_iconst (v := (-1)) hx hb d_M_readInterrupt_46 (by decide) ?_
      refine lv_icmp_ne (tgt := 53) hx hb d_M_readInterrupt_47 (by decide) (fun c_3 => ?_) (fun c_3 => ?_)
      · skip
        exact absurd rfl c_3
      · skip
        refine lv_ldc (v := 2147483647) hx hb hown (hg _ gw_698) d_M_readInterrupt_50 ?_
        exact W.iret (v := 2147483647) hx hb hr (fun t ht hW => ⟨rfl, by rw [ht]; exact hP, (hAe ▸ hS).F ht⟩) (hAe ▸ hS).2.2 d_M_readInterrupt_52
    · skip
      exact absurd (by decide) c_2
set_option maxHeartbeats 4000000 in
set_option maxRecDepth 100000 in
theorem c_M_readInterrupt0B (l : Launch) (D : va_G) (y ms mw mu mc mn mr mq md bi ne li sp q sz wa : Nat) (th en la at0 lk : Int32) (cB cI : ClassId) (lw su cu nu wq : Nat → Int32) (rw sm ct ng K z : Nat) (hlw : lw 1 = nI rw) (hsu : su 2 = nI sm) (hcu : cu 2 = nI ct) (hnu : nu 2 = nI ng) (hwa : wa ≤ 1000) (hqb : ∀ j, j < wa → wq j = 0 ∨ wq j = 1) (hc0 : ct ≤ 64) (hn0 : ng ≤ 64) (hs0 : sm < 2 ^ 29) (hKb : K ≤ 29) (hK1 : sm ≤ ct * 2 ^ K) (hK2 : ∀ j, j < K → ct * 2 ^ j < sm) (hsp : sp ≤ 65536) (hq : q ≤ 29) (hli : q + 18 ≤ li) (hlb : li ≤ 200) (hrw : rw ≤ 15) (hz1 : z ≤ (li - 1 - rw - q - 1) + 1) (hz2 : z ≤ wa) (hz3 : ∀ j, j < z → wq j = 0) (hz4 : z = (li - 1 - rw - q - 1) + 1 ∨ z = wa ∨ wq z ≠ 0) (hzm : z ≤ (li - 1 - rw - q - 1)) (hw : z + 1 + tln q K (li - 1 - rw - q - 1) z ≤ wa) (hzk : z * 2 ^ K < 2 ^ 31) (N : Nat) (hN : rnum (mbt wq wa) q K (li - 1 - rw - q - 1) z = nI N) (hNb : N < 2 ^ 29) (eb : Int32) (heb : eb = if ((N + 0) % 2 = 1 ↔ (K = 0 ∧ 2 * ng < ct)) then nI ((N + 0 + 1) / 2) else -nI ((N + 0 + 1) / 2)) (hbad : ¬ (-((sp / 2 : Nat) : Int) ≤ eb.toInt ∧ eb.toInt ≤ ((sp / 2 : Nat) : Int) ∧ (¬ eb = 0 ∨ (0 : Int32) = 0))) : Met l y_M_readInterrupt (WSY y_M_readInterrupt b_M_readInterrupt 7 (some .int)) ({ frames := 3, cells := 0, slots := 0, locals := 72 }) (va_Pc [.ref y, .int 0] (fun U => va_P D CLS [(y, .inr (5, [.int th, .int (nI bi), .int (nI ne), .int (nI li), .int (nI sp), .int (nI q), .ref ms, .ref mw, .ref mu, .ref mc, .ref mn, .int en, .int (nI sz), .ref mr, .int (nI wa), .ref mq, .int la, .ref md, .int at0, .int lk])), (mw, .inl (cI, 2, .inl lw)), (mu, .inl (cI, 4, .inl su)), (mc, .inl (cI, 4, .inl cu)), (mn, .inl (cI, 4, .inl nu)), (mq, .inl (cB, 1000, .inl wq))] U.heap ∧ va_K D CLS [(cB, .byte), (cI, .int)] U ∧ va_D (fun _ => True) [(y, .inr (5, [.int th, .int (nI bi), .int (nI ne), .int (nI li), .int (nI sp), .int (nI q), .ref ms, .ref mw, .ref mu, .ref mc, .ref mn, .int en, .int (nI sz), .ref mr, .int (nI wa), .ref mq, .int la, .ref md, .int at0, .int lk])), (mw, .inl (cI, 2, .inl lw)), (mu, .inl (cI, 4, .inl su)), (mc, .inl (cI, 4, .inl cu)), (mn, .inl (cI, 4, .inl nu)), (mq, .inl (cB, 1000, .inl wq))])) (QM (some (.int 2147483647)) [(y, .inr (5, [.int th, .int (nI bi), .int (nI ne), .int (nI li), .int (nI sp), .int (nI q), .ref ms, .ref mw, .ref mu, .ref mc, .ref mn, .int en, .int (nI sz), .ref mr, .int (nI wa), .ref mq, .int la, .ref md, .int at0, .int lk])), (mw, .inl (cI, 2, .inl lw)), (mu, .inl (cI, 4, .inl su)), (mc, .inl (cI, 4, .inl cu)), (mn, .inl (cI, 4, .inl nu)), (mq, .inl (cB, 1000, .inl wq))] [(y, .inr (5, [.int 0, .int (nI bi), .int (nI ne), .int (nI li), .int (nI sp), .int (nI q), .ref ms, .ref mw, .ref mu, .ref mc, .ref mn, .int en, .int (nI sz), .ref mr, .int (nI (wa - (z + 1 + tln q K (li - 1 - rw - q - 1) z))), .ref mq, .int la, .ref md, .int (nI (z + 1 + tln q K (li - 1 - rw - q - 1) z)), .int 0])), (mw, .inl (cI, 2, .inl lw)), (mu, .inl (cI, 4, .inl su)), (mc, .inl (cI, 4, .inl cu)), (mn, .inl (cI, 4, .inl nu)), (mq, .inl (cB, 1000, .inl (gof wq (z + 1 + tln q K (li - 1 - rw - q - 1) z) (wa - (z + 1 + tln q K (li - 1 - rw - q - 1) z)))))] D) 0 0 (ad [(y, .inr (5, [.int th, .int (nI bi), .int (nI ne), .int (nI li), .int (nI sp), .int (nI q), .ref ms, .ref mw, .ref mu, .ref mc, .ref mn, .int en, .int (nI sz), .ref mr, .int (nI wa), .ref mq, .int la, .ref md, .int at0, .int lk])), (mw, .inl (cI, 2, .inl lw)), (mu, .inl (cI, 4, .inl su)), (mc, .inl (cI, 4, .inl cu)), (mn, .inl (cI, 4, .inl nu)), (mq, .inl (cB, 1000, .inl wq))]) := by
  refine Met.ofW (cc := b_M_readInterrupt) (maxL := 7) (ret := (some .int)) (by decide) rfl ?_
  intro p e s m args below meth c s₁ B hml hv
  obtain ⟨rfl, hP, hK, hD0⟩ := hv
  have hx := B.exec
  have hb := B.bytes
  have hr := B.returns
  have hts := atoms_spec (ws := WSY y_M_readInterrupt b_M_readInterrupt 7 (some .int)) B.pre
  have hg : ∀ w ∈ GW, w.before _ s = true := fun w h => hts w (List.mem_cons_of_mem _ h)
  have hown : s.vm.findClass "LineGolombModel" = some m.cls := findClass_of_methodNamed B.named
  have hlocks := B.notSynchronized
  obtain ⟨A, hAe⟩ : ∃ A, A = ad [(y, .inr (5, [.int th, .int (nI bi), .int (nI ne), .int (nI li), .int (nI sp), .int (nI q), .ref ms, .ref mw, .ref mu, .ref mc, .ref mn, .int en, .int (nI sz), .ref mr, .int (nI wa), .ref mq, .int la, .ref md, .int at0, .int lk])), (mw, .inl (cI, 2, .inl lw)), (mu, .inl (cI, 4, .inl su)), (mc, .inl (cI, 4, .inl cu)), (mn, .inl (cI, 4, .inl nu)), (mq, .inl (cB, 1000, .inl wq))] := ⟨_, rfl⟩
  have hD : va_D A [(y, .inr (5, [.int th, .int (nI bi), .int (nI ne), .int (nI li), .int (nI sp), .int (nI q), .ref ms, .ref mw, .ref mu, .ref mc, .ref mn, .int en, .int (nI sz), .ref mr, .int (nI wa), .ref mq, .int la, .ref md, .int at0, .int lk])), (mw, .inl (cI, 2, .inl lw)), (mu, .inl (cI, 4, .inl su)), (mc, .inl (cI, 4, .inl cu)), (mn, .inl (cI, 4, .inl nu)), (mq, .inl (cB, 1000, .inl wq))] := by rw [hAe]; exact va_D_ad hD0
  have hS : va_S A s.heap s.heap [] := va_S.rf
  have hl := lv_entry ([.ref y, .int 0]) (n := 7) (Nat.le_of_ble_eq_true rfl)
  rw [lg_entry_eq]
  generalize (lg_sl ([.ref y, .int 0]) ++ List.replicate (7 - (lg_sl ([.ref y, .int 0])).length) Slot.unset).toArray = ls at hl ⊢
  have hl : lv_has ls 7 [(0, .ref y), (1, .int 0)] := hl
  refine lv_aload_n hx hb d_M_readInterrupt_0 rfl (lv_at hl 0 rfl) ?_
  refine lv_aload_n hx hb d_M_readInterrupt_1 rfl (lv_at hl 0 rfl) ?_
  refine lv_iload_n hx hb d_M_readInterrupt_2 rfl (lv_at hl 1 rfl) ?_
  have hPc := hP.sub (ws' := [(y, .inr (5, [.int th, .int (nI bi), .int (nI ne), .int (nI li), .int (nI sp), .int (nI q), .ref ms, .ref mw, .ref mu, .ref mc, .ref mn, .int en, .int (nI sz), .ref mr, .int (nI wa), .ref mq, .int la, .ref md, .int at0, .int lk]))]) [0] rfl
  have hKc := hK.sub (tys' := []) [] rfl
  refine pci (va_runV (As := [.int 0]) (rest := [.ref y]) ⟨hx, hb, hml, hown, hg⟩ (c_M_isKind l D y ms mw mu mc mn mr mq md bi ne li sp q sz wa th en la at0 lk 0) (cwV 1 hg (gV gw_626 gw_628 gs_18 gw_7 gw_629) rfl rfl rfl (by decide +kernel) ⟨Nat.le_of_ble_eq_true rfl, Nat.le_of_ble_eq_true rfl⟩) ⟨fun a U g mk q => by obtain ⟨q0, qP, qK⟩ := q; exact ⟨q0, qP, va_K.moved (u := U) (U := U.calling g mk a) (Vm.Alike.refl U.vm) qK⟩, va_recv hKc hPc (ci := 5) (q0 := 0) rfl rfl, fun U hU hW => ⟨rfl, by rw [hU]; exact hPc, va_K.moved hW.alike hKc⟩⟩ rfl rfl hl.1 rfl (lv_room (Nat.le_of_ble_eq_true rfl)) d_M_readInterrupt_3 (⟨Nat.le_of_ble_eq_true rfl, Nat.le_of_ble_eq_true rfl⟩)) ?_
  refine tpi (y := 1) (by decide) ?_
  refine lv_if_eq (tgt := 13) hx hb d_M_readInterrupt_6 (by decide) (fun c_1 => ?_) (fun c_1 => ?_)
  · skip
    exact absurd c_1 (by decide)
  · skip
    refine lv_iconst (v := 0) hx hb d_M_readInterrupt_9 (by decide) ?_
    refine lv_goto (tgt := 14) hx hb d_M_readInterrupt_10 (by decide) ?_
    refine va_put (D := D) (ci := 5) (v := .int 0) (ty := .int) (C := R_M) (T := T_M) (N := 20) hx hb hg in_M ty_M tok_M nm_M hown hK hP hD hS 0 rfl rfl 0 (by decide) (hg _ gw_524) (fun _ h9 => h9) rfl (by decide +kernel) (rfl) (rfl) (Nat.le_of_ble_eq_true rfl) d_M_readInterrupt_14 (fun H locs hP hD hS => ?_)
    have hP : va_P D CLS [(y, .inr (5, [.int 0, .int (nI bi), .int (nI ne), .int (nI li), .int (nI sp), .int (nI q), .ref ms, .ref mw, .ref mu, .ref mc, .ref mn, .int en, .int (nI sz), .ref mr, .int (nI wa), .ref mq, .int la, .ref md, .int at0, .int lk])), (mw, .inl (cI, 2, .inl lw)), (mu, .inl (cI, 4, .inl su)), (mc, .inl (cI, 4, .inl cu)), (mn, .inl (cI, 4, .inl nu)), (mq, .inl (cB, 1000, .inl wq))] H := hP
    have hD : va_D A [(y, .inr (5, [.int 0, .int (nI bi), .int (nI ne), .int (nI li), .int (nI sp), .int (nI q), .ref ms, .ref mw, .ref mu, .ref mc, .ref mn, .int en, .int (nI sz), .ref mr, .int (nI wa), .ref mq, .int la, .ref md, .int at0, .int lk])), (mw, .inl (cI, 2, .inl lw)), (mu, .inl (cI, 4, .inl su)), (mc, .inl (cI, 4, .inl cu)), (mn, .inl (cI, 4, .inl nu)), (mq, .inl (cB, 1000, .inl wq))] := hD
    refine lv_aload_n hx hb d_M_readInterrupt_17 rfl (lv_at hl 0 rfl) ?_
    refine va_get (D := D) (ci := 5) (v := .int 0) (C := R_M) (T := T_M) (N := 20) hx hb hg in_M hown hK hP 0 rfl rfl 0 (by decide) (hg _ gw_524) (fun _ h9 => h9) rfl d_M_readInterrupt_18 ?_
    refine lv_if_le (tgt := 26) hx hb d_M_readInterrupt_21 (by decide) (fun c_2 => ?_) (fun c_2 => ?_)
    · skip
      refine lv_iconst (v := 2) hx hb d_M_readInterrupt_26 (by decide) ?_
      refine lv_iload_n hx hb d_M_readInterrupt_27 rfl (lv_at hl 1 rfl) ?_
      refine lv_iadd hx hb d_M_readInterrupt_28 ?_
      refine tpi (y := 2) (by decide) ?_
      refine lv_istore_n (lv' := [(2, .int 2), (0, .ref y), (1, .int 0)]) hx hb d_M_readInterrupt_29 rfl hl (by decide) rfl (fun ls hl => ?_)
      refine lv_aload_n hx hb d_M_readInterrupt_30 rfl (lv_at hl 1 rfl) ?_
      refine lv_aload_n hx hb d_M_readInterrupt_31 rfl (lv_at hl 1 rfl) ?_
      refine lv_iload_n hx hb d_M_readInterrupt_32 rfl (lv_at hl 0 rfl) ?_
      have hPc := hP.sub (ws' := [(y, .inr (5, [.int 0, .int (nI bi), .int (nI ne), .int (nI li), .int (nI sp), .int (nI q), .ref ms, .ref mw, .ref mu, .ref mc, .ref mn, .int en, .int (nI sz), .ref mr, .int (nI wa), .ref mq, .int la, .ref md, .int at0, .int lk])), (mu, .inl (cI, 4, .inl su)), (mc, .inl (cI, 4, .inl cu)), (mn, .inl (cI, 4, .inl nu))]) [0, 2, 3, 4] rfl
      have hKc := hK.sub (tys' := [(cI, .int)]) [1] rfl
      refine pci (va_runV (As := [.int 2]) (rest := [.ref y]) ⟨hx, hb, hml, hown, hg⟩ (c_M_kOf2 l D y ms mw mu mc mn mr mq md bi ne li sp q sz wa 0 en la at0 lk cI su cu nu sm ct ng K hsu hcu hnu hc0 hn0 (by omega) hKb hK1 hK2) (cwV 1 hg (gV gw_638 gw_640 gs_21 gw_7 gw_641) rfl rfl rfl (by decide +kernel) ⟨Nat.le_of_ble_eq_true rfl, Nat.le_of_ble_eq_true rfl⟩) ⟨fun a U g mk q => by obtain ⟨q0, qP, qK⟩ := q; exact ⟨q0, qP, va_K.moved (u := U) (U := U.calling g mk a) (Vm.Alike.refl U.vm) qK⟩, va_recv hKc hPc (ci := 5) (q0 := 0) rfl rfl, fun U hU hW => ⟨rfl, by rw [hU]; exact hPc, va_K.moved hW.alike hKc⟩⟩ rfl rfl hl.1 rfl (lv_room (Nat.le_of_ble_eq_true rfl)) d_M_readInterrupt_33 (⟨Nat.le_of_ble_eq_true rfl, Nat.le_of_ble_eq_true rfl⟩)) ?_
      refine lv_aload_n hx hb d_M_readInterrupt_36 rfl (lv_at hl 1 rfl) ?_
      refine lv_iconst (v := 1) hx hb d_M_readInterrupt_37 (by decide) ?_
      have hPc := hP.sub (ws' := [(y, .inr (5, [.int 0, .int (nI bi), .int (nI ne), .int (nI li), .int (nI sp), .int (nI q), .ref ms, .ref mw, .ref mu, .ref mc, .ref mn, .int en, .int (nI sz), .ref mr, .int (nI wa), .ref mq, .int la, .ref md, .int at0, .int lk])), (mw, .inl (cI, 2, .inl lw))]) [0, 1] rfl
      have hKc := hK.sub (tys' := [(cI, .int)]) [1] rfl
      refine pci (va_runV (As := [.int 1]) (rest := [.int (nI K), .ref y]) ⟨hx, hb, hml, hown, hg⟩ (c_M_limitFor1 l D y ms mw mu mc mn mr mq md bi ne li sp q sz wa 0 en la at0 lk cI lw rw hlw (by omega)) (cwV 1 hg (gV gw_642 gw_644 gs_22 gw_7 gw_645) rfl rfl rfl (by decide +kernel) ⟨Nat.le_of_ble_eq_true rfl, Nat.le_of_ble_eq_true rfl⟩) ⟨fun a U g mk q => by obtain ⟨q0, qP, qK⟩ := q; exact ⟨q0, qP, va_K.moved (u := U) (U := U.calling g mk a) (Vm.Alike.refl U.vm) qK⟩, va_recv hKc hPc (ci := 5) (q0 := 0) rfl rfl, fun U hU hW => ⟨rfl, by rw [hU]; exact hPc, va_K.moved hW.alike hKc⟩⟩ rfl rfl hl.1 rfl (lv_room (Nat.le_of_ble_eq_true rfl)) d_M_readInterrupt_38 (⟨Nat.le_of_ble_eq_true rfl, Nat.le_of_ble_eq_true rfl⟩)) ?_
      have hPc := hP.sub (ws' := [(y, .inr (5, [.int 0, .int (nI bi), .int (nI ne), .int (nI li), .int (nI sp), .int (nI q), .ref ms, .ref mw, .ref mu, .ref mc, .ref mn, .int en, .int (nI sz), .ref mr, .int (nI wa), .ref mq, .int la, .ref md, .int at0, .int lk])), (mq, .inl (cB, 1000, .inl wq))]) [0, 5] rfl
      have hDc := hD.sub (ws' := [(y, .inr (5, [.int 0, .int (nI bi), .int (nI ne), .int (nI li), .int (nI sp), .int (nI q), .ref ms, .ref mw, .ref mu, .ref mc, .ref mn, .int en, .int (nI sz), .ref mr, .int (nI wa), .ref mq, .int la, .ref md, .int at0, .int lk])), (mq, .inl (cB, 1000, .inl wq))]) [0, 5] (by decide) rfl
      have hKc := hK.sub (tys' := [(cB, .byte)]) [0] rfl
      refine mci (va_runV (As := [.int (nI K), .int (nI (li - 1 - rw))]) (rest := []) ⟨hx, hb, hml, hown, hg⟩ (c_M_lookG l D y ms mw mu mc mn mr mq md bi ne li sp q sz wa 0 en la at0 lk cB wq K (li - 1 - rw) z hwa (by omega) (by omega) (by omega) (by omega) hz1 hz2 hz3 hz4 hzm hw hzk) (cwV 2 hg (gV gw_674 gw_676 gs_25 gw_7 gw_677) rfl rfl rfl (by decide +kernel) ⟨Nat.le_of_ble_eq_true rfl, Nat.le_of_ble_eq_true rfl⟩) ⟨fun a U g mk q => by obtain ⟨q0, qP, qK, qD⟩ := q; exact ⟨q0, qP, va_K.moved (u := U) (U := U.calling g mk a) (Vm.Alike.refl U.vm) qK, qD⟩, va_recv hKc hPc (ci := 5) (q0 := 0) rfl rfl, fun U hU hW => ⟨rfl, by rw [hU]; exact hPc, va_K.moved hW.alike hKc, hDc.weaken (fun _ _ _ _ => trivial)⟩⟩ rfl rfl hl.1 rfl (lv_room (Nat.le_of_ble_eq_true rfl)) d_M_readInterrupt_41 (⟨Nat.le_of_ble_eq_true rfl, Nat.le_of_ble_eq_true rfl⟩)) hS hP hD [0, 5] rfl rfl rfl (fun H locs hP hD hS => ?_)
      have hP : va_P D CLS [(y, .inr (5, [.int 0, .int (nI bi), .int (nI ne), .int (nI li), .int (nI sp), .int (nI q), .ref ms, .ref mw, .ref mu, .ref mc, .ref mn, .int en, .int (nI sz), .ref mr, .int (nI wa), .ref mq, .int la, .ref md, .int (nI (z + 1 + tln q K (li - 1 - rw - q - 1) z)), .int 0])), (mw, .inl (cI, 2, .inl lw)), (mu, .inl (cI, 4, .inl su)), (mc, .inl (cI, 4, .inl cu)), (mn, .inl (cI, 4, .inl nu)), (mq, .inl (cB, 1000, .inl wq))] H := hP
      have hD : va_D A [(y, .inr (5, [.int 0, .int (nI bi), .int (nI ne), .int (nI li), .int (nI sp), .int (nI q), .ref ms, .ref mw, .ref mu, .ref mc, .ref mn, .int en, .int (nI sz), .ref mr, .int (nI wa), .ref mq, .int la, .ref md, .int (nI (z + 1 + tln q K (li - 1 - rw - q - 1) z)), .int 0])), (mw, .inl (cI, 2, .inl lw)), (mu, .inl (cI, 4, .inl su)), (mc, .inl (cI, 4, .inl cu)), (mn, .inl (cI, 4, .inl nu)), (mq, .inl (cB, 1000, .inl wq))] := hD
      refine tpi (y := nI N) (hN) ?_
      refine lv_istore_n (lv' := [(3, .int (nI N)), (2, .int 2), (0, .ref y), (1, .int 0)]) hx hb d_M_readInterrupt_44 rfl hl (by decide) rfl (fun ls hl => ?_)
      refine lv_iload_n hx hb d_M_readInterrupt_45 rfl (lv_at hl 0 rfl) ?_
      refine lv_iconst (v := (-1)) hx hb d_M_readInterrupt_46 (by decide) ?_
      refine lv_icmp_ne (tgt := 53) hx hb d_M_readInterrupt_47 (by decide) (fun c_3 => ?_) (fun c_3 => ?_)
      · skip
        refine lv_aload_n hx hb d_M_readInterrupt_53 rfl (lv_at hl 2 rfl) ?_
        refine lv_aload_n hx hb d_M_readInterrupt_54 rfl (lv_at hl 2 rfl) ?_
        refine va_get (D := D) (ci := 5) (v := .int (nI (z + 1 + tln q K (li - 1 - rw - q - 1) z))) (C := R_M) (T := T_M) (N := 20) hx hb hg in_M hown hK hP 0 rfl rfl 18 (by decide) (hg _ gw_542) (fun _ h9 => h9) rfl d_M_readInterrupt_55 ?_
        have hPc := hP.sub (ws' := [(y, .inr (5, [.int 0, .int (nI bi), .int (nI ne), .int (nI li), .int (nI sp), .int (nI q), .ref ms, .ref mw, .ref mu, .ref mc, .ref mn, .int en, .int (nI sz), .ref mr, .int (nI wa), .ref mq, .int la, .ref md, .int (nI (z + 1 + tln q K (li - 1 - rw - q - 1) z)), .int 0])), (mq, .inl (cB, 1000, .inl wq))]) [0, 5] rfl
        have hDc := hD.sub (ws' := [(y, .inr (5, [.int 0, .int (nI bi), .int (nI ne), .int (nI li), .int (nI sp), .int (nI q), .ref ms, .ref mw, .ref mu, .ref mc, .ref mn, .int en, .int (nI sz), .ref mr, .int (nI wa), .ref mq, .int la, .ref md, .int (nI (z + 1 + tln q K (li - 1 - rw - q - 1) z)), .int 0])), (mq, .inl (cB, 1000, .inl wq))]) [0, 5] (by decide) rfl
        have hKc := hK.sub (tys' := [(cB, .byte)]) [0] rfl
        refine mcv (va_runV (As := [.int (nI (z + 1 + tln q K (li - 1 - rw - q - 1) z))]) (rest := []) ⟨hx, hb, hml, hown, hg⟩ (c_M_go l D y ms mw mu mc mn mr mq md bi ne li sp q sz wa 0 en la (nI (z + 1 + tln q K (li - 1 - rw - q - 1) z)) 0 cB wq (z + 1 + tln q K (li - 1 - rw - q - 1) z) hwa (by omega) hqb) (cwV 1 hg (gV gw_686 gw_688 gs_28 gw_7 gw_689) rfl rfl rfl (by decide +kernel) ⟨Nat.le_of_ble_eq_true rfl, Nat.le_of_ble_eq_true rfl⟩) ⟨fun a U g mk q => by obtain ⟨q0, qP, qK, qD⟩ := q; exact ⟨q0, qP, va_K.moved (u := U) (U := U.calling g mk a) (Vm.Alike.refl U.vm) qK, qD⟩, va_recv hKc hPc (ci := 5) (q0 := 0) rfl rfl, fun U hU hW => ⟨rfl, by rw [hU]; exact hPc, va_K.moved hW.alike hKc, hDc.weaken (fun _ _ _ _ => trivial)⟩⟩ rfl rfl hl.1 rfl (lv_room (Nat.le_of_ble_eq_true rfl)) d_M_readInterrupt_58 (⟨Nat.le_of_ble_eq_true rfl, Nat.le_of_ble_eq_true rfl⟩)) hS hP hD [0, 5] rfl rfl rfl (fun H locs hP hD hS => ?_)
        have hP : va_P D CLS [(y, .inr (5, [.int 0, .int (nI bi), .int (nI ne), .int (nI li), .int (nI sp), .int (nI q), .ref ms, .ref mw, .ref mu, .ref mc, .ref mn, .int en, .int (nI sz), .ref mr, .int (nI (wa - (z + 1 + tln q K (li - 1 - rw - q - 1) z))), .ref mq, .int la, .ref md, .int (nI (z + 1 + tln q K (li - 1 - rw - q - 1) z)), .int 0])), (mw, .inl (cI, 2, .inl lw)), (mu, .inl (cI, 4, .inl su)), (mc, .inl (cI, 4, .inl cu)), (mn, .inl (cI, 4, .inl nu)), (mq, .inl (cB, 1000, .inl (gof wq (z + 1 + tln q K (li - 1 - rw - q - 1) z) (wa - (z + 1 + tln q K (li - 1 - rw - q - 1) z)))))] H := hP
        have hD : va_D A [(y, .inr (5, [.int 0, .int (nI bi), .int (nI ne), .int (nI li), .int (nI sp), .int (nI q), .ref ms, .ref mw, .ref mu, .ref mc, .ref mn, .int en, .int (nI sz), .ref mr, .int (nI (wa - (z + 1 + tln q K (li - 1 - rw - q - 1) z))), .ref mq, .int la, .ref md, .int (nI (z + 1 + tln q K (li - 1 - rw - q - 1) z)), .int 0])), (mw, .inl (cI, 2, .inl lw)), (mu, .inl (cI, 4, .inl su)), (mc, .inl (cI, 4, .inl cu)), (mn, .inl (cI, 4, .inl nu)), (mq, .inl (cB, 1000, .inl (gof wq (z + 1 + tln q K (li - 1 - rw - q - 1) z) (wa - (z + 1 + tln q K (li - 1 - rw - q - 1) z)))))] := hD
        refine lv_iload_n hx hb d_M_readInterrupt_61 rfl (lv_at hl 0 rfl) ?_
        refine lv_bipush (v := (-2)) hx hb d_M_readInterrupt_62 (by decide) ?_
        refine lv_icmp_ne (tgt := 70) hx hb d_M_readInterrupt_64 (by decide) (fun c_4 => ?_) (fun c_4 => ?_)
        · skip
          refine lv_iload_n hx hb d_M_readInterrupt_70 rfl (lv_at hl 0 rfl) ?_
          refine lv_iload_n hx hb d_M_readInterrupt_71 rfl (lv_at hl 3 rfl) ?_
          refine lv_iadd hx hb d_M_readInterrupt_72 ?_
          refine tpi (y := nI (N + 0)) (nI_add _ 0) ?_
          refine lv_iconst (v := 2) hx hb d_M_readInterrupt_73 (by decide) ?_
          refine lv_irem hx hb d_M_readInterrupt_74 (by decide) ?_
          refine tpi (y := nI ((N + 0) % 2)) (rem2 (by omega)) ?_
          refine lv_iconst (v := 1) hx hb d_M_readInterrupt_75 (by decide) ?_
          refine lv_icmp_ne (tgt := 83) hx hb d_M_readInterrupt_76 (by decide) (fun c_5 => ?_) (fun c_5 => ?_)
          · skip
            have hodd : ¬ (N + 0) % 2 = 1 := fun q9 => c_5 (by rw [q9]; rfl)
            refine lv_iconst (v := 0) hx hb d_M_readInterrupt_83 (by decide) ?_
            refine lv_istore (lv' := [(4, .int 0), (3, .int (nI N)), (2, .int 2), (0, .ref y), (1, .int 0)]) hx hb d_M_readInterrupt_84 hl (by decide) rfl (fun ls hl => ?_)
            refine lv_iload_n hx hb d_M_readInterrupt_86 rfl (lv_at hl 1 rfl) ?_
            refine lv_iload_n hx hb d_M_readInterrupt_87 rfl (lv_at hl 4 rfl) ?_
            refine lv_iadd hx hb d_M_readInterrupt_88 ?_
            refine tpi (y := nI (N + 0)) (nI_add _ 0) ?_
            refine lv_iload hx hb d_M_readInterrupt_89 (lv_at hl 0 rfl) ?_
            refine lv_if_eq (tgt := 98) hx hb d_M_readInterrupt_91 (by decide) (fun c_6 => ?_) (fun c_6 => ?_)
            · skip
              refine lv_iconst (v := 0) hx hb d_M_readInterrupt_98 (by decide) ?_
              refine lv_iadd hx hb d_M_readInterrupt_99 ?_
              refine tpi (y := nI (N + 0 + 0)) (nI_add _ 0) ?_
              refine lv_iconst (v := 2) hx hb d_M_readInterrupt_100 (by decide) ?_
              refine lv_idiv hx hb d_M_readInterrupt_101 (by decide) ?_
              refine tpi (y := nI ((N + 0 + 1) / 2)) ((div2 (by omega)).trans (congrArg nI (by omega))) ?_
              refine lv_istore (lv' := [(5, .int (nI ((N + 0 + 1) / 2))), (4, .int 0), (3, .int (nI N)), (2, .int 2), (0, .ref y), (1, .int 0)]) hx hb d_M_readInterrupt_102 hl (by decide) rfl (fun ls hl => ?_)
              refine lv_aload_n hx hb d_M_readInterrupt_104 rfl (lv_at hl 4 rfl) ?_
              refine lv_iload_n hx hb d_M_readInterrupt_105 rfl (lv_at hl 3 rfl) ?_
              have hPc := hP.sub (ws' := [(y, .inr (5, [.int 0, .int (nI bi), .int (nI ne), .int (nI li), .int (nI sp), .int (nI q), .ref ms, .ref mw, .ref mu, .ref mc, .ref mn, .int en, .int (nI sz), .ref mr, .int (nI (wa - (z + 1 + tln q K (li - 1 - rw - q - 1) z))), .ref mq, .int la, .ref md, .int (nI (z + 1 + tln q K (li - 1 - rw - q - 1) z)), .int 0])), (mu, .inl (cI, 4, .inl su)), (mc, .inl (cI, 4, .inl cu)), (mn, .inl (cI, 4, .inl nu))]) [0, 2, 3, 4] rfl
              have hKc := hK.sub (tys' := [(cI, .int)]) [1] rfl
              refine pci (va_runV (As := [.int 2]) (rest := []) ⟨hx, hb, hml, hown, hg⟩ (c_M_isUp2 l D y ms mw mu mc mn mr mq md bi ne li sp q sz (wa - (z + 1 + tln q K (li - 1 - rw - q - 1) z)) 0 en la (nI (z + 1 + tln q K (li - 1 - rw - q - 1) z)) 0 cI su cu nu sm ct ng K hsu hcu hnu hc0 hn0 (by omega) hKb hK1 hK2) (cwV 1 hg (gV gw_634 gw_636 gs_20 gw_7 gw_637) rfl rfl rfl (by decide +kernel) ⟨Nat.le_of_ble_eq_true rfl, Nat.le_of_ble_eq_true rfl⟩) ⟨fun a U g mk q => by obtain ⟨q0, qP, qK⟩ := q; exact ⟨q0, qP, va_K.moved (u := U) (U := U.calling g mk a) (Vm.Alike.refl U.vm) qK⟩, va_recv hKc hPc (ci := 5) (q0 := 0) rfl rfl, fun U hU hW => ⟨rfl, by rw [hU]; exact hPc, va_K.moved hW.alike hKc⟩⟩ rfl rfl hl.1 rfl (lv_room (Nat.le_of_ble_eq_true rfl)) d_M_readInterrupt_106 (⟨Nat.le_of_ble_eq_true rfl, Nat.le_of_ble_eq_true rfl⟩)) ?_
              by_cases hup : (K = 0 ∧ 2 * ng < ct)
              · skip
                refine tpi (y := 1) (if_pos hup) ?_
                have hcn : ¬ ((N + 0) % 2 = 1 ↔ (K = 0 ∧ 2 * ng < ct)) := fun q9 => hodd (q9.mpr hup)
                refine lv_iload hx hb d_M_readInterrupt_109 (lv_at hl 1 rfl) ?_
                refine lv_icmp_ne (tgt := 119) hx hb d_M_readInterrupt_111 (by decide) (fun c_7 => ?_) (fun c_7 => ?_)
                · skip
                  refine lv_iload hx hb d_M_readInterrupt_119 (lv_at hl 0 rfl) ?_
                  refine lv_ineg hx hb d_M_readInterrupt_121 ?_
                  refine tpi (y := eb) (by rw [heb, if_neg hcn]) ?_
                  refine lv_istore (lv' := [(6, .int eb), (5, .int (nI ((N + 0 + 1) / 2))), (4, .int 0), (3, .int (nI N)), (2, .int 2), (0, .ref y), (1, .int 0)]) hx hb d_M_readInterrupt_122 hl (by decide) rfl (fun ls hl => ?_)
                  refine lv_aload_n hx hb d_M_readInterrupt_124 rfl (lv_at hl 5 rfl) ?_
                  refine lv_iload_n hx hb d_M_readInterrupt_125 rfl (lv_at hl 6 rfl) ?_
                  refine lv_iload hx hb d_M_readInterrupt_126 (lv_at hl 0 rfl) ?_
                  have hPc := hP.sub (ws' := [(y, .inr (5, [.int 0, .int (nI bi), .int (nI ne), .int (nI li), .int (nI sp), .int (nI q), .ref ms, .ref mw, .ref mu, .ref mc, .ref mn, .int en, .int (nI sz), .ref mr, .int (nI (wa - (z + 1 + tln q K (li - 1 - rw - q - 1) z))), .ref mq, .int la, .ref md, .int (nI (z + 1 + tln q K (li - 1 - rw - q - 1) z)), .int 0]))]) [0] rfl
                  have hKc := hK.sub (tys' := []) [] rfl
                  refine pci (va_runV (As := [.int 0, .int eb]) (rest := []) ⟨hx, hb, hml, hown, hg⟩ (c_M_isError l D y ms mw mu mc mn mr mq md bi ne li sp q sz (wa - (z + 1 + tln q K (li - 1 - rw - q - 1) z)) 0 en la (nI (z + 1 + tln q K (li - 1 - rw - q - 1) z)) 0 0 eb (by omega)) (cwV 2 hg (gV gw_630 gw_632 gs_19 gw_7 gw_633) rfl rfl rfl (by decide +kernel) ⟨Nat.le_of_ble_eq_true rfl, Nat.le_of_ble_eq_true rfl⟩) ⟨fun a U g mk q => by obtain ⟨q0, qP, qK⟩ := q; exact ⟨q0, qP, va_K.moved (u := U) (U := U.calling g mk a) (Vm.Alike.refl U.vm) qK⟩, va_recv hKc hPc (ci := 5) (q0 := 0) rfl rfl, fun U hU hW => ⟨rfl, by rw [hU]; exact hPc, va_K.moved hW.alike hKc⟩⟩ rfl rfl hl.1 rfl (lv_room (Nat.le_of_ble_eq_true rfl)) d_M_readInterrupt_128 (⟨Nat.le_of_ble_eq_true rfl, Nat.le_of_ble_eq_true rfl⟩)) ?_
                  refine tpi (y := 0) (if_neg hbad) ?_
                  refine lv_if_ne (tgt := 137) hx hb d_M_readInterrupt_131 (by decide) (fun c_8 => ?_) (fun c_8 => ?_)
                  · skip
                    exact absurd rfl c_8
                  · skip
                    refine lv_ldc (v := 2147483647) hx hb hown (hg _ gw_698) d_M_readInterrupt_134 ?_
                    exact W.iret (v := 2147483647) hx hb hr (fun t ht hW => ⟨rfl, by rw [ht]; exact hP, (hAe ▸ hS).F ht⟩) (hAe ▸ hS).2.2 d_M_readInterrupt_136
                · skip
                  exact absurd c_7 (by decide)
              · skip
                refine tpi (y := 0) (if_neg hup) ?_
                have hcn : ((N + 0) % 2 = 1 ↔ (K = 0 ∧ 2 * ng < ct)) := ⟨fun q9 => absurd q9 hodd, fun q9 => absurd q9 hup⟩
                refine lv_iload hx hb d_M_readInterrupt_109 (lv_at hl 1 rfl) ?_
                refine lv_icmp_ne (tgt := 119) hx hb d_M_readInterrupt_111 (by decide) (fun c_9 => ?_) (fun c_9 => ?_)
                · skip
                  exact absurd rfl c_9
                · skip
                  refine lv_iload hx hb d_M_readInterrupt_114 (lv_at hl 0 rfl) ?_
                  refine lv_goto (tgt := 122) hx hb d_M_readInterrupt_116 (by decide) ?_
                  refine tpi (y := eb) (by rw [heb, if_pos hcn]) ?_
                  refine lv_istore (lv' := [(6, .int eb), (5, .int (nI ((N + 0 + 1) / 2))), (4, .int 0), (3, .int (nI N)), (2, .int 2), (0, .ref y), (1, .int 0)]) hx hb d_M_readInterrupt_122 hl (by decide) rfl (fun ls hl => ?_)
                  refine lv_aload_n hx hb d_M_readInterrupt_124 rfl (lv_at hl 5 rfl) ?_
                  refine lv_iload_n hx hb d_M_readInterrupt_125 rfl (lv_at hl 6 rfl) ?_
                  refine lv_iload hx hb d_M_readInterrupt_126 (lv_at hl 0 rfl) ?_
                  have hPc := hP.sub (ws' := [(y, .inr (5, [.int 0, .int (nI bi), .int (nI ne), .int (nI li), .int (nI sp), .int (nI q), .ref ms, .ref mw, .ref mu, .ref mc, .ref mn, .int en, .int (nI sz), .ref mr, .int (nI (wa - (z + 1 + tln q K (li - 1 - rw - q - 1) z))), .ref mq, .int la, .ref md, .int (nI (z + 1 + tln q K (li - 1 - rw - q - 1) z)), .int 0]))]) [0] rfl
                  have hKc := hK.sub (tys' := []) [] rfl
                  refine pci (va_runV (As := [.int 0, .int eb]) (rest := []) ⟨hx, hb, hml, hown, hg⟩ (c_M_isError l D y ms mw mu mc mn mr mq md bi ne li sp q sz (wa - (z + 1 + tln q K (li - 1 - rw - q - 1) z)) 0 en la (nI (z + 1 + tln q K (li - 1 - rw - q - 1) z)) 0 0 eb (by omega)) (cwV 2 hg (gV gw_630 gw_632 gs_19 gw_7 gw_633) rfl rfl rfl (by decide +kernel) ⟨Nat.le_of_ble_eq_true rfl, Nat.le_of_ble_eq_true rfl⟩) ⟨fun a U g mk q => by obtain ⟨q0, qP, qK⟩ := q; exact ⟨q0, qP, va_K.moved (u := U) (U := U.calling g mk a) (Vm.Alike.refl U.vm) qK⟩, va_recv hKc hPc (ci := 5) (q0 := 0) rfl rfl, fun U hU hW => ⟨rfl, by rw [hU]; exact hPc, va_K.moved hW.alike hKc⟩⟩ rfl rfl hl.1 rfl (lv_room (Nat.le_of_ble_eq_true rfl)) d_M_readInterrupt_128 (⟨Nat.le_of_ble_eq_true rfl, Nat.le_of_ble_eq_true rfl⟩)) ?_
                  refine tpi (y := 0) (if_neg hbad) ?_
                  refine lv_if_ne (tgt := 137) hx hb d_M_readInterrupt_131 (by decide) (fun c_10 => ?_) (fun c_10 => ?_)
                  · skip
                    exact absurd rfl c_10
                  · skip
                    refine lv_ldc (v := 2147483647) hx hb hown (hg _ gw_698) d_M_readInterrupt_134 ?_
                    exact W.iret (v := 2147483647) hx hb hr (fun t ht hW => ⟨rfl, by rw [ht]; exact hP, (hAe ▸ hS).F ht⟩) (hAe ▸ hS).2.2 d_M_readInterrupt_136
            · skip
              exact absurd rfl c_6
          · skip
            have hodd : (N + 0) % 2 = 1 := (nI_eq (b := 1) (by omega) (by omega)).mp c_5
            refine lv_iconst (v := 1) hx hb d_M_readInterrupt_79 (by decide) ?_
            refine lv_goto (tgt := 84) hx hb d_M_readInterrupt_80 (by decide) ?_
            refine lv_istore (lv' := [(4, .int 1), (3, .int (nI N)), (2, .int 2), (0, .ref y), (1, .int 0)]) hx hb d_M_readInterrupt_84 hl (by decide) rfl (fun ls hl => ?_)
            refine lv_iload_n hx hb d_M_readInterrupt_86 rfl (lv_at hl 1 rfl) ?_
            refine lv_iload_n hx hb d_M_readInterrupt_87 rfl (lv_at hl 4 rfl) ?_
            refine lv_iadd hx hb d_M_readInterrupt_88 ?_
            refine tpi (y := nI (N + 0)) (nI_add _ 0) ?_
            refine lv_iload hx hb d_M_readInterrupt_89 (lv_at hl 0 rfl) ?_
            refine lv_if_eq (tgt := 98) hx hb d_M_readInterrupt_91 (by decide) (fun c_11 => ?_) (fun c_11 => ?_)
            · skip
              exact absurd c_11 (by decide)
            · skip
              refine lv_iconst (v := 1) hx hb d_M_readInterrupt_94 (by decide) ?_
              refine lv_goto (tgt := 99) hx hb d_M_readInterrupt_95 (by decide) ?_
              refine lv_iadd hx hb d_M_readInterrupt_99 ?_
              refine tpi (y := nI (N + 0 + 1)) (nI_add _ 1) ?_
              refine lv_iconst (v := 2) hx hb d_M_readInterrupt_100 (by decide) ?_
              refine lv_idiv hx hb d_M_readInterrupt_101 (by decide) ?_
              refine tpi (y := nI ((N + 0 + 1) / 2)) ((div2 (by omega)).trans (congrArg nI (by omega))) ?_
              refine lv_istore (lv' := [(5, .int (nI ((N + 0 + 1) / 2))), (4, .int 1), (3, .int (nI N)), (2, .int 2), (0, .ref y), (1, .int 0)]) hx hb d_M_readInterrupt_102 hl (by decide) rfl (fun ls hl => ?_)
              refine lv_aload_n hx hb d_M_readInterrupt_104 rfl (lv_at hl 4 rfl) ?_
              refine lv_iload_n hx hb d_M_readInterrupt_105 rfl (lv_at hl 3 rfl) ?_
              have hPc := hP.sub (ws' := [(y, .inr (5, [.int 0, .int (nI bi), .int (nI ne), .int (nI li), .int (nI sp), .int (nI q), .ref ms, .ref mw, .ref mu, .ref mc, .ref mn, .int en, .int (nI sz), .ref mr, .int (nI (wa - (z + 1 + tln q K (li - 1 - rw - q - 1) z))), .ref mq, .int la, .ref md, .int (nI (z + 1 + tln q K (li - 1 - rw - q - 1) z)), .int 0])), (mu, .inl (cI, 4, .inl su)), (mc, .inl (cI, 4, .inl cu)), (mn, .inl (cI, 4, .inl nu))]) [0, 2, 3, 4] rfl
              have hKc := hK.sub (tys' := [(cI, .int)]) [1] rfl
              refine pci (va_runV (As := [.int 2]) (rest := []) ⟨hx, hb, hml, hown, hg⟩ (c_M_isUp2 l D y ms mw mu mc mn mr mq md bi ne li sp q sz (wa - (z + 1 + tln q K (li - 1 - rw - q - 1) z)) 0 en la (nI (z + 1 + tln q K (li - 1 - rw - q - 1) z)) 0 cI su cu nu sm ct ng K hsu hcu hnu hc0 hn0 (by omega) hKb hK1 hK2) (cwV 1 hg (gV gw_634 gw_636 gs_20 gw_7 gw_637) rfl rfl rfl (by decide +kernel) ⟨Nat.le_of_ble_eq_true rfl, Nat.le_of_ble_eq_true rfl⟩) ⟨fun a U g mk q => by obtain ⟨q0, qP, qK⟩ := q; exact ⟨q0, qP, va_K.moved (u := U) (U := U.calling g mk a) (Vm.Alike.refl U.vm) qK⟩, va_recv hKc hPc (ci := 5) (q0 := 0) rfl rfl, fun U hU hW => ⟨rfl, by rw [hU]; exact hPc, va_K.moved hW.alike hKc⟩⟩ rfl rfl hl.1 rfl (lv_room (Nat.le_of_ble_eq_true rfl)) d_M_readInterrupt_106 (⟨Nat.le_of_ble_eq_true rfl, Nat.le_of_ble_eq_true rfl⟩)) ?_
              by_cases hup : (K = 0 ∧ 2 * ng < ct)
              · skip
                refine tpi (y := 1) (if_pos hup) ?_
                have hcn : ((N + 0) % 2 = 1 ↔ (K = 0 ∧ 2 * ng < ct)) := ⟨fun _ => hup, fun _ => hodd⟩
                refine lv_iload hx hb d_M_readInterrupt_109 (lv_at hl 1 rfl) ?_
                refine lv_icmp_ne (tgt := 119) hx hb d_M_readInterrupt_111 (by decide) (fun c_12 => ?_) (fun c_12 => ?_)
                · skip
                  exact absurd rfl c_12
                · skip
                  refine lv_iload hx hb d_M_readInterrupt_114 (lv_at hl 0 rfl) ?_
                  refine lv_goto (tgt := 122) hx hb d_M_readInterrupt_116 (by decide) ?_
                  refine tpi (y := eb) (by rw [heb, if_pos hcn]) ?_
                  refine lv_istore (lv' := [(6, .int eb), (5, .int (nI ((N + 0 + 1) / 2))), (4, .int 1), (3, .int (nI N)), (2, .int 2), (0, .ref y), (1, .int 0)]) hx hb d_M_readInterrupt_122 hl (by decide) rfl (fun ls hl => ?_)
                  refine lv_aload_n hx hb d_M_readInterrupt_124 rfl (lv_at hl 5 rfl) ?_
                  refine lv_iload_n hx hb d_M_readInterrupt_125 rfl (lv_at hl 6 rfl) ?_
                  refine lv_iload hx hb d_M_readInterrupt_126 (lv_at hl 0 rfl) ?_
                  have hPc := hP.sub (ws' := [(y, .inr (5, [.int 0, .int (nI bi), .int (nI ne), .int (nI li), .int (nI sp), .int (nI q), .ref ms, .ref mw, .ref mu, .ref mc, .ref mn, .int en, .int (nI sz), .ref mr, .int (nI (wa - (z + 1 + tln q K (li - 1 - rw - q - 1) z))), .ref mq, .int la, .ref md, .int (nI (z + 1 + tln q K (li - 1 - rw - q - 1) z)), .int 0]))]) [0] rfl
                  have hKc := hK.sub (tys' := []) [] rfl
                  refine pci (va_runV (As := [.int 0, .int eb]) (rest := []) ⟨hx, hb, hml, hown, hg⟩ (c_M_isError l D y ms mw mu mc mn mr mq md bi ne li sp q sz (wa - (z + 1 + tln q K (li - 1 - rw - q - 1) z)) 0 en la (nI (z + 1 + tln q K (li - 1 - rw - q - 1) z)) 0 0 eb (by omega)) (cwV 2 hg (gV gw_630 gw_632 gs_19 gw_7 gw_633) rfl rfl rfl (by decide +kernel) ⟨Nat.le_of_ble_eq_true rfl, Nat.le_of_ble_eq_true rfl⟩) ⟨fun a U g mk q => by obtain ⟨q0, qP, qK⟩ := q; exact ⟨q0, qP, va_K.moved (u := U) (U := U.calling g mk a) (Vm.Alike.refl U.vm) qK⟩, va_recv hKc hPc (ci := 5) (q0 := 0) rfl rfl, fun U hU hW => ⟨rfl, by rw [hU]; exact hPc, va_K.moved hW.alike hKc⟩⟩ rfl rfl hl.1 rfl (lv_room (Nat.le_of_ble_eq_true rfl)) d_M_readInterrupt_128 (⟨Nat.le_of_ble_eq_true rfl, Nat.le_of_ble_eq_true rfl⟩)) ?_
                  refine tpi (y := 0) (if_neg hbad) ?_
                  refine lv_if_ne (tgt := 137) hx hb d_M_readInterrupt_131 (by decide) (fun c_13 => ?_) (fun c_13 => ?_)
                  · skip
                    exact absurd rfl c_13
                  · skip
                    refine lv_ldc (v := 2147483647) hx hb hown (hg _ gw_698) d_M_readInterrupt_134 ?_
                    exact W.iret (v := 2147483647) hx hb hr (fun t ht hW => ⟨rfl, by rw [ht]; exact hP, (hAe ▸ hS).F ht⟩) (hAe ▸ hS).2.2 d_M_readInterrupt_136
              · skip
                refine tpi (y := 0) (if_neg hup) ?_
                have hcn : ¬ ((N + 0) % 2 = 1 ↔ (K = 0 ∧ 2 * ng < ct)) := fun q9 => hup (q9.mp hodd)
                refine lv_iload hx hb d_M_readInterrupt_109 (lv_at hl 1 rfl) ?_
                refine lv_icmp_ne (tgt := 119) hx hb d_M_readInterrupt_111 (by decide) (fun c_14 => ?_) (fun c_14 => ?_)
                · skip
                  refine lv_iload hx hb d_M_readInterrupt_119 (lv_at hl 0 rfl) ?_
                  refine lv_ineg hx hb d_M_readInterrupt_121 ?_
                  refine tpi (y := eb) (by rw [heb, if_neg hcn]) ?_
                  refine lv_istore (lv' := [(6, .int eb), (5, .int (nI ((N + 0 + 1) / 2))), (4, .int 1), (3, .int (nI N)), (2, .int 2), (0, .ref y), (1, .int 0)]) hx hb d_M_readInterrupt_122 hl (by decide) rfl (fun ls hl => ?_)
                  refine lv_aload_n hx hb d_M_readInterrupt_124 rfl (lv_at hl 5 rfl) ?_
                  refine lv_iload_n hx hb d_M_readInterrupt_125 rfl (lv_at hl 6 rfl) ?_
                  refine lv_iload hx hb d_M_readInterrupt_126 (lv_at hl 0 rfl) ?_
                  have hPc := hP.sub (ws' := [(y, .inr (5, [.int 0, .int (nI bi), .int (nI ne), .int (nI li), .int (nI sp), .int (nI q), .ref ms, .ref mw, .ref mu, .ref mc, .ref mn, .int en, .int (nI sz), .ref mr, .int (nI (wa - (z + 1 + tln q K (li - 1 - rw - q - 1) z))), .ref mq, .int la, .ref md, .int (nI (z + 1 + tln q K (li - 1 - rw - q - 1) z)), .int 0]))]) [0] rfl
                  have hKc := hK.sub (tys' := []) [] rfl
                  refine pci (va_runV (As := [.int 0, .int eb]) (rest := []) ⟨hx, hb, hml, hown, hg⟩ (c_M_isError l D y ms mw mu mc mn mr mq md bi ne li sp q sz (wa - (z + 1 + tln q K (li - 1 - rw - q - 1) z)) 0 en la (nI (z + 1 + tln q K (li - 1 - rw - q - 1) z)) 0 0 eb (by omega)) (cwV 2 hg (gV gw_630 gw_632 gs_19 gw_7 gw_633) rfl rfl rfl (by decide +kernel) ⟨Nat.le_of_ble_eq_true rfl, Nat.le_of_ble_eq_true rfl⟩) ⟨fun a U g mk q => by obtain ⟨q0, qP, qK⟩ := q; exact ⟨q0, qP, va_K.moved (u := U) (U := U.calling g mk a) (Vm.Alike.refl U.vm) qK⟩, va_recv hKc hPc (ci := 5) (q0 := 0) rfl rfl, fun U hU hW => ⟨rfl, by rw [hU]; exact hPc, va_K.moved hW.alike hKc⟩⟩ rfl rfl hl.1 rfl (lv_room (Nat.le_of_ble_eq_true rfl)) d_M_readInterrupt_128 (⟨Nat.le_of_ble_eq_true rfl, Nat.le_of_ble_eq_true rfl⟩)) ?_
                  refine tpi (y := 0) (if_neg hbad) ?_
                  refine lv_if_ne (tgt := 137) hx hb d_M_readInterrupt_131 (by decide) (fun c_15 => ?_) (fun c_15 => ?_)
                  · skip
                    exact absurd rfl c_15
                  · skip
                    refine lv_ldc (v := 2147483647) hx hb hown (hg _ gw_698) d_M_readInterrupt_134 ?_
                    exact W.iret (v := 2147483647) hx hb hr (fun t ht hW => ⟨rfl, by rw [ht]; exact hP, (hAe ▸ hS).F ht⟩) (hAe ▸ hS).2.2 d_M_readInterrupt_136
                · skip
                  exact absurd c_14 (by decide)
        · skip
          exact absurd c_4 (nm2 (by omega))
      · skip
        exact absurd c_3 (nm1 (by omega))
    · skip
      exact absurd (by decide) c_2
set_option maxHeartbeats 4000000 in
set_option maxRecDepth 100000 in
theorem c_M_readInterrupt0P (l : Launch) (D : va_G) (y ms mw mu mc mn mr mq md bi ne li sp q sz wa : Nat) (th en la at0 lk : Int32) (cB cI : ClassId) (lw su cu nu wq : Nat → Int32) (rw sm ct ng K z : Nat) (hlw : lw 1 = nI rw) (hsu : su 2 = nI sm) (hcu : cu 2 = nI ct) (hnu : nu 2 = nI ng) (hwa : wa ≤ 1000) (hqb : ∀ j, j < wa → wq j = 0 ∨ wq j = 1) (hc0 : ct ≤ 64) (hn0 : ng ≤ 64) (hs0 : sm < 2 ^ 29) (hKb : K ≤ 29) (hK1 : sm ≤ ct * 2 ^ K) (hK2 : ∀ j, j < K → ct * 2 ^ j < sm) (hsp : sp ≤ 65536) (hq : q ≤ 29) (hli : q + 18 ≤ li) (hlb : li ≤ 200) (hrw : rw ≤ 15) (hz1 : z ≤ (li - 1 - rw - q - 1) + 1) (hz2 : z ≤ wa) (hz3 : ∀ j, j < z → wq j = 0) (hz4 : z = (li - 1 - rw - q - 1) + 1 ∨ z = wa ∨ wq z ≠ 0) (hzm : z ≤ (li - 1 - rw - q - 1)) (hw : z + 1 + tln q K (li - 1 - rw - q - 1) z ≤ wa) (hzk : z * 2 ^ K < 2 ^ 31) (N : Nat) (hN : rnum (mbt wq wa) q K (li - 1 - rw - q - 1) z = nI N) (hNb : N < 2 ^ 29) (hs2 : ((N + 0) % 2 = 1 ↔ (K = 0 ∧ 2 * ng < ct)) ∨ ((N + 0 + 1) / 2) = 0) (hn : ((N + 0 + 1) / 2) ≤ sp / 2) : Met l y_M_readInterrupt (WSY y_M_readInterrupt b_M_readInterrupt 7 (some .int)) ({ frames := 3, cells := 0, slots := 0, locals := 72 }) (va_Pc [.ref y, .int 0] (fun U => va_P D CLS [(y, .inr (5, [.int th, .int (nI bi), .int (nI ne), .int (nI li), .int (nI sp), .int (nI q), .ref ms, .ref mw, .ref mu, .ref mc, .ref mn, .int en, .int (nI sz), .ref mr, .int (nI wa), .ref mq, .int la, .ref md, .int at0, .int lk])), (mw, .inl (cI, 2, .inl lw)), (mu, .inl (cI, 4, .inl su)), (mc, .inl (cI, 4, .inl cu)), (mn, .inl (cI, 4, .inl nu)), (mq, .inl (cB, 1000, .inl wq))] U.heap ∧ va_K D CLS [(cB, .byte), (cI, .int)] U ∧ va_D (fun _ => True) [(y, .inr (5, [.int th, .int (nI bi), .int (nI ne), .int (nI li), .int (nI sp), .int (nI q), .ref ms, .ref mw, .ref mu, .ref mc, .ref mn, .int en, .int (nI sz), .ref mr, .int (nI wa), .ref mq, .int la, .ref md, .int at0, .int lk])), (mw, .inl (cI, 2, .inl lw)), (mu, .inl (cI, 4, .inl su)), (mc, .inl (cI, 4, .inl cu)), (mn, .inl (cI, 4, .inl nu)), (mq, .inl (cB, 1000, .inl wq))])) (QM (some (.int (nI ((N + 0 + 1) / 2)))) [(y, .inr (5, [.int th, .int (nI bi), .int (nI ne), .int (nI li), .int (nI sp), .int (nI q), .ref ms, .ref mw, .ref mu, .ref mc, .ref mn, .int en, .int (nI sz), .ref mr, .int (nI wa), .ref mq, .int la, .ref md, .int at0, .int lk])), (mw, .inl (cI, 2, .inl lw)), (mu, .inl (cI, 4, .inl su)), (mc, .inl (cI, 4, .inl cu)), (mn, .inl (cI, 4, .inl nu)), (mq, .inl (cB, 1000, .inl wq))] [(y, .inr (5, [.int 0, .int (nI bi), .int (nI ne), .int (nI li), .int (nI sp), .int (nI q), .ref ms, .ref mw, .ref mu, .ref mc, .ref mn, .int en, .int (nI sz), .ref mr, .int (nI (wa - (z + 1 + tln q K (li - 1 - rw - q - 1) z))), .ref mq, .int la, .ref md, .int (nI (z + 1 + tln q K (li - 1 - rw - q - 1) z)), .int 0])), (mw, .inl (cI, 2, .inl lw)), (mu, .inl (cI, 4, .inl (upd su 2 (nI (hvd ct (sm + (N + 1 - 0) / 2)))))), (mc, .inl (cI, 4, .inl (upd cu 2 (nI (hvd ct ct + 1))))), (mn, .inl (cI, 4, .inl (upd nu 2 (nI (hvd ct ng))))), (mq, .inl (cB, 1000, .inl (gof wq (z + 1 + tln q K (li - 1 - rw - q - 1) z) (wa - (z + 1 + tln q K (li - 1 - rw - q - 1) z)))))] D) 0 0 (ad [(y, .inr (5, [.int th, .int (nI bi), .int (nI ne), .int (nI li), .int (nI sp), .int (nI q), .ref ms, .ref mw, .ref mu, .ref mc, .ref mn, .int en, .int (nI sz), .ref mr, .int (nI wa), .ref mq, .int la, .ref md, .int at0, .int lk])), (mw, .inl (cI, 2, .inl lw)), (mu, .inl (cI, 4, .inl su)), (mc, .inl (cI, 4, .inl cu)), (mn, .inl (cI, 4, .inl nu)), (mq, .inl (cB, 1000, .inl wq))]) := by
  refine Met.ofW (cc := b_M_readInterrupt) (maxL := 7) (ret := (some .int)) (by decide) rfl ?_
  intro p e s m args below meth c s₁ B hml hv
  obtain ⟨rfl, hP, hK, hD0⟩ := hv
  have hx := B.exec
  have hb := B.bytes
  have hr := B.returns
  have hts := atoms_spec (ws := WSY y_M_readInterrupt b_M_readInterrupt 7 (some .int)) B.pre
  have hg : ∀ w ∈ GW, w.before _ s = true := fun w h => hts w (List.mem_cons_of_mem _ h)
  have hown : s.vm.findClass "LineGolombModel" = some m.cls := findClass_of_methodNamed B.named
  have hlocks := B.notSynchronized
  obtain ⟨A, hAe⟩ : ∃ A, A = ad [(y, .inr (5, [.int th, .int (nI bi), .int (nI ne), .int (nI li), .int (nI sp), .int (nI q), .ref ms, .ref mw, .ref mu, .ref mc, .ref mn, .int en, .int (nI sz), .ref mr, .int (nI wa), .ref mq, .int la, .ref md, .int at0, .int lk])), (mw, .inl (cI, 2, .inl lw)), (mu, .inl (cI, 4, .inl su)), (mc, .inl (cI, 4, .inl cu)), (mn, .inl (cI, 4, .inl nu)), (mq, .inl (cB, 1000, .inl wq))] := ⟨_, rfl⟩
  have hD : va_D A [(y, .inr (5, [.int th, .int (nI bi), .int (nI ne), .int (nI li), .int (nI sp), .int (nI q), .ref ms, .ref mw, .ref mu, .ref mc, .ref mn, .int en, .int (nI sz), .ref mr, .int (nI wa), .ref mq, .int la, .ref md, .int at0, .int lk])), (mw, .inl (cI, 2, .inl lw)), (mu, .inl (cI, 4, .inl su)), (mc, .inl (cI, 4, .inl cu)), (mn, .inl (cI, 4, .inl nu)), (mq, .inl (cB, 1000, .inl wq))] := by rw [hAe]; exact va_D_ad hD0
  have hS : va_S A s.heap s.heap [] := va_S.rf
  have hl := lv_entry ([.ref y, .int 0]) (n := 7) (Nat.le_of_ble_eq_true rfl)
  rw [lg_entry_eq]
  generalize (lg_sl ([.ref y, .int 0]) ++ List.replicate (7 - (lg_sl ([.ref y, .int 0])).length) Slot.unset).toArray = ls at hl ⊢
  have hl : lv_has ls 7 [(0, .ref y), (1, .int 0)] := hl
  refine lv_aload_n hx hb d_M_readInterrupt_0 rfl (lv_at hl 0 rfl) ?_
  refine lv_aload_n hx hb d_M_readInterrupt_1 rfl (lv_at hl 0 rfl) ?_
  refine lv_iload_n hx hb d_M_readInterrupt_2 rfl (lv_at hl 1 rfl) ?_
  have hPc := hP.sub (ws' := [(y, .inr (5, [.int th, .int (nI bi), .int (nI ne), .int (nI li), .int (nI sp), .int (nI q), .ref ms, .ref mw, .ref mu, .ref mc, .ref mn, .int en, .int (nI sz), .ref mr, .int (nI wa), .ref mq, .int la, .ref md, .int at0, .int lk]))]) [0] rfl
  have hKc := hK.sub (tys' := []) [] rfl
  refine pci (va_runV (As := [.int 0]) (rest := [.ref y]) ⟨hx, hb, hml, hown, hg⟩ (c_M_isKind l D y ms mw mu mc mn mr mq md bi ne li sp q sz wa th en la at0 lk 0) (cwV 1 hg (gV gw_626 gw_628 gs_18 gw_7 gw_629) rfl rfl rfl (by decide +kernel) ⟨Nat.le_of_ble_eq_true rfl, Nat.le_of_ble_eq_true rfl⟩) ⟨fun a U g mk q => by obtain ⟨q0, qP, qK⟩ := q; exact ⟨q0, qP, va_K.moved (u := U) (U := U.calling g mk a) (Vm.Alike.refl U.vm) qK⟩, va_recv hKc hPc (ci := 5) (q0 := 0) rfl rfl, fun U hU hW => ⟨rfl, by rw [hU]; exact hPc, va_K.moved hW.alike hKc⟩⟩ rfl rfl hl.1 rfl (lv_room (Nat.le_of_ble_eq_true rfl)) d_M_readInterrupt_3 (⟨Nat.le_of_ble_eq_true rfl, Nat.le_of_ble_eq_true rfl⟩)) ?_
  refine tpi (y := 1) (by decide) ?_
  refine lv_if_eq (tgt := 13) hx hb d_M_readInterrupt_6 (by decide) (fun c_1 => ?_) (fun c_1 => ?_)
  · skip
    exact absurd c_1 (by decide)
  · skip
    refine lv_iconst (v := 0) hx hb d_M_readInterrupt_9 (by decide) ?_
    refine lv_goto (tgt := 14) hx hb d_M_readInterrupt_10 (by decide) ?_
    refine va_put (D := D) (ci := 5) (v := .int 0) (ty := .int) (C := R_M) (T := T_M) (N := 20) hx hb hg in_M ty_M tok_M nm_M hown hK hP hD hS 0 rfl rfl 0 (by decide) (hg _ gw_524) (fun _ h9 => h9) rfl (by decide +kernel) (rfl) (rfl) (Nat.le_of_ble_eq_true rfl) d_M_readInterrupt_14 (fun H locs hP hD hS => ?_)
    have hP : va_P D CLS [(y, .inr (5, [.int 0, .int (nI bi), .int (nI ne), .int (nI li), .int (nI sp), .int (nI q), .ref ms, .ref mw, .ref mu, .ref mc, .ref mn, .int en, .int (nI sz), .ref mr, .int (nI wa), .ref mq, .int la, .ref md, .int at0, .int lk])), (mw, .inl (cI, 2, .inl lw)), (mu, .inl (cI, 4, .inl su)), (mc, .inl (cI, 4, .inl cu)), (mn, .inl (cI, 4, .inl nu)), (mq, .inl (cB, 1000, .inl wq))] H := hP
    have hD : va_D A [(y, .inr (5, [.int 0, .int (nI bi), .int (nI ne), .int (nI li), .int (nI sp), .int (nI q), .ref ms, .ref mw, .ref mu, .ref mc, .ref mn, .int en, .int (nI sz), .ref mr, .int (nI wa), .ref mq, .int la, .ref md, .int at0, .int lk])), (mw, .inl (cI, 2, .inl lw)), (mu, .inl (cI, 4, .inl su)), (mc, .inl (cI, 4, .inl cu)), (mn, .inl (cI, 4, .inl nu)), (mq, .inl (cB, 1000, .inl wq))] := hD
    refine lv_aload_n hx hb d_M_readInterrupt_17 rfl (lv_at hl 0 rfl) ?_
    refine va_get (D := D) (ci := 5) (v := .int 0) (C := R_M) (T := T_M) (N := 20) hx hb hg in_M hown hK hP 0 rfl rfl 0 (by decide) (hg _ gw_524) (fun _ h9 => h9) rfl d_M_readInterrupt_18 ?_
    refine lv_if_le (tgt := 26) hx hb d_M_readInterrupt_21 (by decide) (fun c_2 => ?_) (fun c_2 => ?_)
    · skip
      refine lv_iconst (v := 2) hx hb d_M_readInterrupt_26 (by decide) ?_
      refine lv_iload_n hx hb d_M_readInterrupt_27 rfl (lv_at hl 1 rfl) ?_
      refine lv_iadd hx hb d_M_readInterrupt_28 ?_
      refine tpi (y := 2) (by decide) ?_
      refine lv_istore_n (lv' := [(2, .int 2), (0, .ref y), (1, .int 0)]) hx hb d_M_readInterrupt_29 rfl hl (by decide) rfl (fun ls hl => ?_)
      refine lv_aload_n hx hb d_M_readInterrupt_30 rfl (lv_at hl 1 rfl) ?_
      refine lv_aload_n hx hb d_M_readInterrupt_31 rfl (lv_at hl 1 rfl) ?_
      refine lv_iload_n hx hb d_M_readInterrupt_32 rfl (lv_at hl 0 rfl) ?_
      have hPc := hP.sub (ws' := [(y, .inr (5, [.int 0, .int (nI bi), .int (nI ne), .int (nI li), .int (nI sp), .int (nI q), .ref ms, .ref mw, .ref mu, .ref mc, .ref mn, .int en, .int (nI sz), .ref mr, .int (nI wa), .ref mq, .int la, .ref md, .int at0, .int lk])), (mu, .inl (cI, 4, .inl su)), (mc, .inl (cI, 4, .inl cu)), (mn, .inl (cI, 4, .inl nu))]) [0, 2, 3, 4] rfl
      have hKc := hK.sub (tys' := [(cI, .int)]) [1] rfl
      refine pci (va_runV (As := [.int 2]) (rest := [.ref y]) ⟨hx, hb, hml, hown, hg⟩ (c_M_kOf2 l D y ms mw mu mc mn mr mq md bi ne li sp q sz wa 0 en la at0 lk cI su cu nu sm ct ng K hsu hcu hnu hc0 hn0 (by omega) hKb hK1 hK2) (cwV 1 hg (gV gw_638 gw_640 gs_21 gw_7 gw_641) rfl rfl rfl (by decide +kernel) ⟨Nat.le_of_ble_eq_true rfl, Nat.le_of_ble_eq_true rfl⟩) ⟨fun a U g mk q => by obtain ⟨q0, qP, qK⟩ := q; exact ⟨q0, qP, va_K.moved (u := U) (U := U.calling g mk a) (Vm.Alike.refl U.vm) qK⟩, va_recv hKc hPc (ci := 5) (q0 := 0) rfl rfl, fun U hU hW => ⟨rfl, by rw [hU]; exact hPc, va_K.moved hW.alike hKc⟩⟩ rfl rfl hl.1 rfl (lv_room (Nat.le_of_ble_eq_true rfl)) d_M_readInterrupt_33 (⟨Nat.le_of_ble_eq_true rfl, Nat.le_of_ble_eq_true rfl⟩)) ?_
      refine lv_aload_n hx hb d_M_readInterrupt_36 rfl (lv_at hl 1 rfl) ?_
      refine lv_iconst (v := 1) hx hb d_M_readInterrupt_37 (by decide) ?_
      have hPc := hP.sub (ws' := [(y, .inr (5, [.int 0, .int (nI bi), .int (nI ne), .int (nI li), .int (nI sp), .int (nI q), .ref ms, .ref mw, .ref mu, .ref mc, .ref mn, .int en, .int (nI sz), .ref mr, .int (nI wa), .ref mq, .int la, .ref md, .int at0, .int lk])), (mw, .inl (cI, 2, .inl lw))]) [0, 1] rfl
      have hKc := hK.sub (tys' := [(cI, .int)]) [1] rfl
      refine pci (va_runV (As := [.int 1]) (rest := [.int (nI K), .ref y]) ⟨hx, hb, hml, hown, hg⟩ (c_M_limitFor1 l D y ms mw mu mc mn mr mq md bi ne li sp q sz wa 0 en la at0 lk cI lw rw hlw (by omega)) (cwV 1 hg (gV gw_642 gw_644 gs_22 gw_7 gw_645) rfl rfl rfl (by decide +kernel) ⟨Nat.le_of_ble_eq_true rfl, Nat.le_of_ble_eq_true rfl⟩) ⟨fun a U g mk q => by obtain ⟨q0, qP, qK⟩ := q; exact ⟨q0, qP, va_K.moved (u := U) (U := U.calling g mk a) (Vm.Alike.refl U.vm) qK⟩, va_recv hKc hPc (ci := 5) (q0 := 0) rfl rfl, fun U hU hW => ⟨rfl, by rw [hU]; exact hPc, va_K.moved hW.alike hKc⟩⟩ rfl rfl hl.1 rfl (lv_room (Nat.le_of_ble_eq_true rfl)) d_M_readInterrupt_38 (⟨Nat.le_of_ble_eq_true rfl, Nat.le_of_ble_eq_true rfl⟩)) ?_
      have hPc := hP.sub (ws' := [(y, .inr (5, [.int 0, .int (nI bi), .int (nI ne), .int (nI li), .int (nI sp), .int (nI q), .ref ms, .ref mw, .ref mu, .ref mc, .ref mn, .int en, .int (nI sz), .ref mr, .int (nI wa), .ref mq, .int la, .ref md, .int at0, .int lk])), (mq, .inl (cB, 1000, .inl wq))]) [0, 5] rfl
      have hDc := hD.sub (ws' := [(y, .inr (5, [.int 0, .int (nI bi), .int (nI ne), .int (nI li), .int (nI sp), .int (nI q), .ref ms, .ref mw, .ref mu, .ref mc, .ref mn, .int en, .int (nI sz), .ref mr, .int (nI wa), .ref mq, .int la, .ref md, .int at0, .int lk])), (mq, .inl (cB, 1000, .inl wq))]) [0, 5] (by decide) rfl
      have hKc := hK.sub (tys' := [(cB, .byte)]) [0] rfl
      refine mci (va_runV (As := [.int (nI K), .int (nI (li - 1 - rw))]) (rest := []) ⟨hx, hb, hml, hown, hg⟩ (c_M_lookG l D y ms mw mu mc mn mr mq md bi ne li sp q sz wa 0 en la at0 lk cB wq K (li - 1 - rw) z hwa (by omega) (by omega) (by omega) (by omega) hz1 hz2 hz3 hz4 hzm hw hzk) (cwV 2 hg (gV gw_674 gw_676 gs_25 gw_7 gw_677) rfl rfl rfl (by decide +kernel) ⟨Nat.le_of_ble_eq_true rfl, Nat.le_of_ble_eq_true rfl⟩) ⟨fun a U g mk q => by obtain ⟨q0, qP, qK, qD⟩ := q; exact ⟨q0, qP, va_K.moved (u := U) (U := U.calling g mk a) (Vm.Alike.refl U.vm) qK, qD⟩, va_recv hKc hPc (ci := 5) (q0 := 0) rfl rfl, fun U hU hW => ⟨rfl, by rw [hU]; exact hPc, va_K.moved hW.alike hKc, hDc.weaken (fun _ _ _ _ => trivial)⟩⟩ rfl rfl hl.1 rfl (lv_room (Nat.le_of_ble_eq_true rfl)) d_M_readInterrupt_41 (⟨Nat.le_of_ble_eq_true rfl, Nat.le_of_ble_eq_true rfl⟩)) hS hP hD [0, 5] rfl rfl rfl (fun H locs hP hD hS => ?_)
      have hP : va_P D CLS [(y, .inr (5, [.int 0, .int (nI bi), .int (nI ne), .int (nI li), .int (nI sp), .int (nI q), .ref ms, .ref mw, .ref mu, .ref mc, .ref mn, .int en, .int (nI sz), .ref mr, .int (nI wa), .ref mq, .int la, .ref md, .int (nI (z + 1 + tln q K (li - 1 - rw - q - 1) z)), .int 0])), (mw, .inl (cI, 2, .inl lw)), (mu, .inl (cI, 4, .inl su)), (mc, .inl (cI, 4, .inl cu)), (mn, .inl (cI, 4, .inl nu)), (mq, .inl (cB, 1000, .inl wq))] H := hP
      have hD : va_D A [(y, .inr (5, [.int 0, .int (nI bi), .int (nI ne), .int (nI li), .int (nI sp), .int (nI q), .ref ms, .ref mw, .ref mu, .ref mc, .ref mn, .int en, .int (nI sz), .ref mr, .int (nI wa), .ref mq, .int la, .ref md, .int (nI (z + 1 + tln q K (li - 1 - rw - q - 1) z)), .int 0])), (mw, .inl (cI, 2, .inl lw)), (mu, .inl (cI, 4, .inl su)), (mc, .inl (cI, 4, .inl cu)), (mn, .inl (cI, 4, .inl nu)), (mq, .inl (cB, 1000, .inl wq))] := hD
      refine tpi (y := nI N) (hN) ?_
      refine lv_istore_n (lv' := [(3, .int (nI N)), (2, .int 2), (0, .ref y), (1, .int 0)]) hx hb d_M_readInterrupt_44 rfl hl (by decide) rfl (fun ls hl => ?_)
      refine lv_iload_n hx hb d_M_readInterrupt_45 rfl (lv_at hl 0 rfl) ?_
      refine lv_iconst (v := (-1)) hx hb d_M_readInterrupt_46 (by decide) ?_
      refine lv_icmp_ne (tgt := 53) hx hb d_M_readInterrupt_47 (by decide) (fun c_3 => ?_) (fun c_3 => ?_)
      · skip
        refine lv_aload_n hx hb d_M_readInterrupt_53 rfl (lv_at hl 2 rfl) ?_
        refine lv_aload_n hx hb d_M_readInterrupt_54 rfl (lv_at hl 2 rfl) ?_
        refine va_get (D := D) (ci := 5) (v := .int (nI (z + 1 + tln q K (li - 1 - rw - q - 1) z))) (C := R_M) (T := T_M) (N := 20) hx hb hg in_M hown hK hP 0 rfl rfl 18 (by decide) (hg _ gw_542) (fun _ h9 => h9) rfl d_M_readInterrupt_55 ?_
        have hPc := hP.sub (ws' := [(y, .inr (5, [.int 0, .int (nI bi), .int (nI ne), .int (nI li), .int (nI sp), .int (nI q), .ref ms, .ref mw, .ref mu, .ref mc, .ref mn, .int en, .int (nI sz), .ref mr, .int (nI wa), .ref mq, .int la, .ref md, .int (nI (z + 1 + tln q K (li - 1 - rw - q - 1) z)), .int 0])), (mq, .inl (cB, 1000, .inl wq))]) [0, 5] rfl
        have hDc := hD.sub (ws' := [(y, .inr (5, [.int 0, .int (nI bi), .int (nI ne), .int (nI li), .int (nI sp), .int (nI q), .ref ms, .ref mw, .ref mu, .ref mc, .ref mn, .int en, .int (nI sz), .ref mr, .int (nI wa), .ref mq, .int la, .ref md, .int (nI (z + 1 + tln q K (li - 1 - rw - q - 1) z)), .int 0])), (mq, .inl (cB, 1000, .inl wq))]) [0, 5] (by decide) rfl
        have hKc := hK.sub (tys' := [(cB, .byte)]) [0] rfl
        refine mcv (va_runV (As := [.int (nI (z + 1 + tln q K (li - 1 - rw - q - 1) z))]) (rest := []) ⟨hx, hb, hml, hown, hg⟩ (c_M_go l D y ms mw mu mc mn mr mq md bi ne li sp q sz wa 0 en la (nI (z + 1 + tln q K (li - 1 - rw - q - 1) z)) 0 cB wq (z + 1 + tln q K (li - 1 - rw - q - 1) z) hwa (by omega) hqb) (cwV 1 hg (gV gw_686 gw_688 gs_28 gw_7 gw_689) rfl rfl rfl (by decide +kernel) ⟨Nat.le_of_ble_eq_true rfl, Nat.le_of_ble_eq_true rfl⟩) ⟨fun a U g mk q => by obtain ⟨q0, qP, qK, qD⟩ := q; exact ⟨q0, qP, va_K.moved (u := U) (U := U.calling g mk a) (Vm.Alike.refl U.vm) qK, qD⟩, va_recv hKc hPc (ci := 5) (q0 := 0) rfl rfl, fun U hU hW => ⟨rfl, by rw [hU]; exact hPc, va_K.moved hW.alike hKc, hDc.weaken (fun _ _ _ _ => trivial)⟩⟩ rfl rfl hl.1 rfl (lv_room (Nat.le_of_ble_eq_true rfl)) d_M_readInterrupt_58 (⟨Nat.le_of_ble_eq_true rfl, Nat.le_of_ble_eq_true rfl⟩)) hS hP hD [0, 5] rfl rfl rfl (fun H locs hP hD hS => ?_)
        have hP : va_P D CLS [(y, .inr (5, [.int 0, .int (nI bi), .int (nI ne), .int (nI li), .int (nI sp), .int (nI q), .ref ms, .ref mw, .ref mu, .ref mc, .ref mn, .int en, .int (nI sz), .ref mr, .int (nI (wa - (z + 1 + tln q K (li - 1 - rw - q - 1) z))), .ref mq, .int la, .ref md, .int (nI (z + 1 + tln q K (li - 1 - rw - q - 1) z)), .int 0])), (mw, .inl (cI, 2, .inl lw)), (mu, .inl (cI, 4, .inl su)), (mc, .inl (cI, 4, .inl cu)), (mn, .inl (cI, 4, .inl nu)), (mq, .inl (cB, 1000, .inl (gof wq (z + 1 + tln q K (li - 1 - rw - q - 1) z) (wa - (z + 1 + tln q K (li - 1 - rw - q - 1) z)))))] H := hP
        have hD : va_D A [(y, .inr (5, [.int 0, .int (nI bi), .int (nI ne), .int (nI li), .int (nI sp), .int (nI q), .ref ms, .ref mw, .ref mu, .ref mc, .ref mn, .int en, .int (nI sz), .ref mr, .int (nI (wa - (z + 1 + tln q K (li - 1 - rw - q - 1) z))), .ref mq, .int la, .ref md, .int (nI (z + 1 + tln q K (li - 1 - rw - q - 1) z)), .int 0])), (mw, .inl (cI, 2, .inl lw)), (mu, .inl (cI, 4, .inl su)), (mc, .inl (cI, 4, .inl cu)), (mn, .inl (cI, 4, .inl nu)), (mq, .inl (cB, 1000, .inl (gof wq (z + 1 + tln q K (li - 1 - rw - q - 1) z) (wa - (z + 1 + tln q K (li - 1 - rw - q - 1) z)))))] := hD
        refine lv_iload_n hx hb d_M_readInterrupt_61 rfl (lv_at hl 0 rfl) ?_
        refine lv_bipush (v := (-2)) hx hb d_M_readInterrupt_62 (by decide) ?_
        refine lv_icmp_ne (tgt := 70) hx hb d_M_readInterrupt_64 (by decide) (fun c_4 => ?_) (fun c_4 => ?_)
        · skip
          refine lv_iload_n hx hb d_M_readInterrupt_70 rfl (lv_at hl 0 rfl) ?_
          refine lv_iload_n hx hb d_M_readInterrupt_71 rfl (lv_at hl 3 rfl) ?_
          refine lv_iadd hx hb d_M_readInterrupt_72 ?_
          refine tpi (y := nI (N + 0)) (nI_add _ 0) ?_
          refine lv_iconst (v := 2) hx hb d_M_readInterrupt_73 (by decide) ?_
          refine lv_irem hx hb d_M_readInterrupt_74 (by decide) ?_
          refine tpi (y := nI ((N + 0) % 2)) (rem2 (by omega)) ?_
          refine lv_iconst (v := 1) hx hb d_M_readInterrupt_75 (by decide) ?_
          refine lv_icmp_ne (tgt := 83) hx hb d_M_readInterrupt_76 (by decide) (fun c_5 => ?_) (fun c_5 => ?_)
          · skip
            have hodd : ¬ (N + 0) % 2 = 1 := fun q9 => c_5 (by rw [q9]; rfl)
            refine lv_iconst (v := 0) hx hb d_M_readInterrupt_83 (by decide) ?_
            refine lv_istore (lv' := [(4, .int 0), (3, .int (nI N)), (2, .int 2), (0, .ref y), (1, .int 0)]) hx hb d_M_readInterrupt_84 hl (by decide) rfl (fun ls hl => ?_)
            refine lv_iload_n hx hb d_M_readInterrupt_86 rfl (lv_at hl 1 rfl) ?_
            refine lv_iload_n hx hb d_M_readInterrupt_87 rfl (lv_at hl 4 rfl) ?_
            refine lv_iadd hx hb d_M_readInterrupt_88 ?_
            refine tpi (y := nI (N + 0)) (nI_add _ 0) ?_
            refine lv_iload hx hb d_M_readInterrupt_89 (lv_at hl 0 rfl) ?_
            refine lv_if_eq (tgt := 98) hx hb d_M_readInterrupt_91 (by decide) (fun c_6 => ?_) (fun c_6 => ?_)
            · skip
              refine lv_iconst (v := 0) hx hb d_M_readInterrupt_98 (by decide) ?_
              refine lv_iadd hx hb d_M_readInterrupt_99 ?_
              refine tpi (y := nI (N + 0 + 0)) (nI_add _ 0) ?_
              refine lv_iconst (v := 2) hx hb d_M_readInterrupt_100 (by decide) ?_
              refine lv_idiv hx hb d_M_readInterrupt_101 (by decide) ?_
              refine tpi (y := nI ((N + 0 + 1) / 2)) ((div2 (by omega)).trans (congrArg nI (by omega))) ?_
              refine lv_istore (lv' := [(5, .int (nI ((N + 0 + 1) / 2))), (4, .int 0), (3, .int (nI N)), (2, .int 2), (0, .ref y), (1, .int 0)]) hx hb d_M_readInterrupt_102 hl (by decide) rfl (fun ls hl => ?_)
              refine lv_aload_n hx hb d_M_readInterrupt_104 rfl (lv_at hl 4 rfl) ?_
              refine lv_iload_n hx hb d_M_readInterrupt_105 rfl (lv_at hl 3 rfl) ?_
              have hPc := hP.sub (ws' := [(y, .inr (5, [.int 0, .int (nI bi), .int (nI ne), .int (nI li), .int (nI sp), .int (nI q), .ref ms, .ref mw, .ref mu, .ref mc, .ref mn, .int en, .int (nI sz), .ref mr, .int (nI (wa - (z + 1 + tln q K (li - 1 - rw - q - 1) z))), .ref mq, .int la, .ref md, .int (nI (z + 1 + tln q K (li - 1 - rw - q - 1) z)), .int 0])), (mu, .inl (cI, 4, .inl su)), (mc, .inl (cI, 4, .inl cu)), (mn, .inl (cI, 4, .inl nu))]) [0, 2, 3, 4] rfl
              have hKc := hK.sub (tys' := [(cI, .int)]) [1] rfl
              refine pci (va_runV (As := [.int 2]) (rest := []) ⟨hx, hb, hml, hown, hg⟩ (c_M_isUp2 l D y ms mw mu mc mn mr mq md bi ne li sp q sz (wa - (z + 1 + tln q K (li - 1 - rw - q - 1) z)) 0 en la (nI (z + 1 + tln q K (li - 1 - rw - q - 1) z)) 0 cI su cu nu sm ct ng K hsu hcu hnu hc0 hn0 (by omega) hKb hK1 hK2) (cwV 1 hg (gV gw_634 gw_636 gs_20 gw_7 gw_637) rfl rfl rfl (by decide +kernel) ⟨Nat.le_of_ble_eq_true rfl, Nat.le_of_ble_eq_true rfl⟩) ⟨fun a U g mk q => by obtain ⟨q0, qP, qK⟩ := q; exact ⟨q0, qP, va_K.moved (u := U) (U := U.calling g mk a) (Vm.Alike.refl U.vm) qK⟩, va_recv hKc hPc (ci := 5) (q0 := 0) rfl rfl, fun U hU hW => ⟨rfl, by rw [hU]; exact hPc, va_K.moved hW.alike hKc⟩⟩ rfl rfl hl.1 rfl (lv_room (Nat.le_of_ble_eq_true rfl)) d_M_readInterrupt_106 (⟨Nat.le_of_ble_eq_true rfl, Nat.le_of_ble_eq_true rfl⟩)) ?_
              by_cases hup : (K = 0 ∧ 2 * ng < ct)
              · skip
                refine tpi (y := 1) (if_pos hup) ?_
                have hcn : ¬ ((N + 0) % 2 = 1 ↔ (K = 0 ∧ 2 * ng < ct)) := fun q9 => hodd (q9.mpr hup)
                refine lv_iload hx hb d_M_readInterrupt_109 (lv_at hl 1 rfl) ?_
                refine lv_icmp_ne (tgt := 119) hx hb d_M_readInterrupt_111 (by decide) (fun c_7 => ?_) (fun c_7 => ?_)
                · skip
                  refine lv_iload hx hb d_M_readInterrupt_119 (lv_at hl 0 rfl) ?_
                  refine lv_ineg hx hb d_M_readInterrupt_121 ?_
                  refine tpi (y := nI ((N + 0 + 1) / 2)) (by rw [hs2.resolve_left hcn]; rfl) ?_
                  refine lv_istore (lv' := [(6, .int (nI ((N + 0 + 1) / 2))), (5, .int (nI ((N + 0 + 1) / 2))), (4, .int 0), (3, .int (nI N)), (2, .int 2), (0, .ref y), (1, .int 0)]) hx hb d_M_readInterrupt_122 hl (by decide) rfl (fun ls hl => ?_)
                  refine lv_aload_n hx hb d_M_readInterrupt_124 rfl (lv_at hl 5 rfl) ?_
                  refine lv_iload_n hx hb d_M_readInterrupt_125 rfl (lv_at hl 6 rfl) ?_
                  refine lv_iload hx hb d_M_readInterrupt_126 (lv_at hl 0 rfl) ?_
                  have hPc := hP.sub (ws' := [(y, .inr (5, [.int 0, .int (nI bi), .int (nI ne), .int (nI li), .int (nI sp), .int (nI q), .ref ms, .ref mw, .ref mu, .ref mc, .ref mn, .int en, .int (nI sz), .ref mr, .int (nI (wa - (z + 1 + tln q K (li - 1 - rw - q - 1) z))), .ref mq, .int la, .ref md, .int (nI (z + 1 + tln q K (li - 1 - rw - q - 1) z)), .int 0]))]) [0] rfl
                  have hKc := hK.sub (tys' := []) [] rfl
                  refine pci (va_runV (As := [.int 0, .int (nI ((N + 0 + 1) / 2))]) (rest := []) ⟨hx, hb, hml, hown, hg⟩ (c_M_isError l D y ms mw mu mc mn mr mq md bi ne li sp q sz (wa - (z + 1 + tln q K (li - 1 - rw - q - 1) z)) 0 en la (nI (z + 1 + tln q K (li - 1 - rw - q - 1) z)) 0 0 (nI ((N + 0 + 1) / 2)) (by omega)) (cwV 2 hg (gV gw_630 gw_632 gs_19 gw_7 gw_633) rfl rfl rfl (by decide +kernel) ⟨Nat.le_of_ble_eq_true rfl, Nat.le_of_ble_eq_true rfl⟩) ⟨fun a U g mk q => by obtain ⟨q0, qP, qK⟩ := q; exact ⟨q0, qP, va_K.moved (u := U) (U := U.calling g mk a) (Vm.Alike.refl U.vm) qK⟩, va_recv hKc hPc (ci := 5) (q0 := 0) rfl rfl, fun U hU hW => ⟨rfl, by rw [hU]; exact hPc, va_K.moved hW.alike hKc⟩⟩ rfl rfl hl.1 rfl (lv_room (Nat.le_of_ble_eq_true rfl)) d_M_readInterrupt_128 (⟨Nat.le_of_ble_eq_true rfl, Nat.le_of_ble_eq_true rfl⟩)) ?_
                  refine tpi (y := 1) (if_pos ⟨by rw [nI_toInt (by omega)]; omega, by rw [nI_toInt (by omega)]; omega, Or.inr rfl⟩) ?_
                  refine lv_if_ne (tgt := 137) hx hb d_M_readInterrupt_131 (by decide) (fun c_8 => ?_) (fun c_8 => ?_)
                  · skip
                    refine lv_aload_n hx hb d_M_readInterrupt_137 rfl (lv_at hl 5 rfl) ?_
                    refine lv_iload_n hx hb d_M_readInterrupt_138 rfl (lv_at hl 4 rfl) ?_
                    refine lv_iload_n hx hb d_M_readInterrupt_139 rfl (lv_at hl 6 rfl) ?_
                    refine lv_iload_n hx hb d_M_readInterrupt_140 rfl (lv_at hl 3 rfl) ?_
                    refine lv_iload hx hb d_M_readInterrupt_141 (lv_at hl 0 rfl) ?_
                    have hPc := hP.sub (ws' := [(y, .inr (5, [.int 0, .int (nI bi), .int (nI ne), .int (nI li), .int (nI sp), .int (nI q), .ref ms, .ref mw, .ref mu, .ref mc, .ref mn, .int en, .int (nI sz), .ref mr, .int (nI (wa - (z + 1 + tln q K (li - 1 - rw - q - 1) z))), .ref mq, .int la, .ref md, .int (nI (z + 1 + tln q K (li - 1 - rw - q - 1) z)), .int 0])), (mu, .inl (cI, 4, .inl su)), (mc, .inl (cI, 4, .inl cu)), (mn, .inl (cI, 4, .inl nu))]) [0, 2, 3, 4] rfl
                    have hDc := hD.sub (ws' := [(y, .inr (5, [.int 0, .int (nI bi), .int (nI ne), .int (nI li), .int (nI sp), .int (nI q), .ref ms, .ref mw, .ref mu, .ref mc, .ref mn, .int en, .int (nI sz), .ref mr, .int (nI (wa - (z + 1 + tln q K (li - 1 - rw - q - 1) z))), .ref mq, .int la, .ref md, .int (nI (z + 1 + tln q K (li - 1 - rw - q - 1) z)), .int 0])), (mu, .inl (cI, 4, .inl su)), (mc, .inl (cI, 4, .inl cu)), (mn, .inl (cI, 4, .inl nu))]) [0, 2, 3, 4] (by decide) rfl
                    have hKc := hK.sub (tys' := [(cI, .int)]) [1] rfl
                    refine mcv (va_runV (As := [.int 2, .int 0, .int (nI N), .int (nI ((N + 0 + 1) / 2))]) (rest := []) ⟨hx, hb, hml, hown, hg⟩ (c_M_learn2P l D y ms mw mu mc mn mr mq md bi ne li sp q sz (wa - (z + 1 + tln q K (li - 1 - rw - q - 1) z)) 0 en la (nI (z + 1 + tln q K (li - 1 - rw - q - 1) z)) 0 cI su cu nu sm ct ng ((N + 0 + 1) / 2) N hsu hcu hnu hc0 hn0 hs0 (by omega) (by omega)) (cwV 4 hg (gV gw_646 gw_648 gs_23 gw_7 gw_649) rfl rfl rfl (by decide +kernel) ⟨Nat.le_of_ble_eq_true rfl, Nat.le_of_ble_eq_true rfl⟩) ⟨fun a U g mk q => by obtain ⟨q0, qP, qK, qD⟩ := q; exact ⟨q0, qP, va_K.moved (u := U) (U := U.calling g mk a) (Vm.Alike.refl U.vm) qK, qD⟩, va_recv hKc hPc (ci := 5) (q0 := 0) rfl rfl, fun U hU hW => ⟨rfl, by rw [hU]; exact hPc, va_K.moved hW.alike hKc, hDc.weaken (fun _ _ _ _ => trivial)⟩⟩ rfl rfl hl.1 rfl (lv_room (Nat.le_of_ble_eq_true rfl)) d_M_readInterrupt_143 (⟨Nat.le_of_ble_eq_true rfl, Nat.le_of_ble_eq_true rfl⟩)) hS hP hD [0, 2, 3, 4] rfl rfl rfl (fun H locs hP hD hS => ?_)
                    have hP : va_P D CLS [(y, .inr (5, [.int 0, .int (nI bi), .int (nI ne), .int (nI li), .int (nI sp), .int (nI q), .ref ms, .ref mw, .ref mu, .ref mc, .ref mn, .int en, .int (nI sz), .ref mr, .int (nI (wa - (z + 1 + tln q K (li - 1 - rw - q - 1) z))), .ref mq, .int la, .ref md, .int (nI (z + 1 + tln q K (li - 1 - rw - q - 1) z)), .int 0])), (mw, .inl (cI, 2, .inl lw)), (mu, .inl (cI, 4, .inl (upd su 2 (nI (hvd ct (sm + (N + 1 - 0) / 2)))))), (mc, .inl (cI, 4, .inl (upd cu 2 (nI (hvd ct ct + 1))))), (mn, .inl (cI, 4, .inl (upd nu 2 (nI (hvd ct ng))))), (mq, .inl (cB, 1000, .inl (gof wq (z + 1 + tln q K (li - 1 - rw - q - 1) z) (wa - (z + 1 + tln q K (li - 1 - rw - q - 1) z)))))] H := hP
                    have hD : va_D A [(y, .inr (5, [.int 0, .int (nI bi), .int (nI ne), .int (nI li), .int (nI sp), .int (nI q), .ref ms, .ref mw, .ref mu, .ref mc, .ref mn, .int en, .int (nI sz), .ref mr, .int (nI (wa - (z + 1 + tln q K (li - 1 - rw - q - 1) z))), .ref mq, .int la, .ref md, .int (nI (z + 1 + tln q K (li - 1 - rw - q - 1) z)), .int 0])), (mw, .inl (cI, 2, .inl lw)), (mu, .inl (cI, 4, .inl (upd su 2 (nI (hvd ct (sm + (N + 1 - 0) / 2)))))), (mc, .inl (cI, 4, .inl (upd cu 2 (nI (hvd ct ct + 1))))), (mn, .inl (cI, 4, .inl (upd nu 2 (nI (hvd ct ng))))), (mq, .inl (cB, 1000, .inl (gof wq (z + 1 + tln q K (li - 1 - rw - q - 1) z) (wa - (z + 1 + tln q K (li - 1 - rw - q - 1) z)))))] := hD
                    refine lv_iload hx hb d_M_readInterrupt_146 (lv_at hl 0 rfl) ?_
                    exact W.iret (v := nI ((N + 0 + 1) / 2)) hx hb hr (fun t ht hW => ⟨rfl, by rw [ht]; exact hP, (hAe ▸ hS).F ht⟩) (hAe ▸ hS).2.2 d_M_readInterrupt_148
                  · skip
                    exact absurd c_8 (by decide)
                · skip
                  exact absurd c_7 (by decide)
              · skip
                refine tpi (y := 0) (if_neg hup) ?_
                have hcn : ((N + 0) % 2 = 1 ↔ (K = 0 ∧ 2 * ng < ct)) := ⟨fun q9 => absurd q9 hodd, fun q9 => absurd q9 hup⟩
                refine lv_iload hx hb d_M_readInterrupt_109 (lv_at hl 1 rfl) ?_
                refine lv_icmp_ne (tgt := 119) hx hb d_M_readInterrupt_111 (by decide) (fun c_9 => ?_) (fun c_9 => ?_)
                · skip
                  exact absurd rfl c_9
                · skip
                  refine lv_iload hx hb d_M_readInterrupt_114 (lv_at hl 0 rfl) ?_
                  refine lv_goto (tgt := 122) hx hb d_M_readInterrupt_116 (by decide) ?_
                  refine lv_istore (lv' := [(6, .int (nI ((N + 0 + 1) / 2))), (5, .int (nI ((N + 0 + 1) / 2))), (4, .int 0), (3, .int (nI N)), (2, .int 2), (0, .ref y), (1, .int 0)]) hx hb d_M_readInterrupt_122 hl (by decide) rfl (fun ls hl => ?_)
                  refine lv_aload_n hx hb d_M_readInterrupt_124 rfl (lv_at hl 5 rfl) ?_
                  refine lv_iload_n hx hb d_M_readInterrupt_125 rfl (lv_at hl 6 rfl) ?_
                  refine lv_iload hx hb d_M_readInterrupt_126 (lv_at hl 0 rfl) ?_
                  have hPc := hP.sub (ws' := [(y, .inr (5, [.int 0, .int (nI bi), .int (nI ne), .int (nI li), .int (nI sp), .int (nI q), .ref ms, .ref mw, .ref mu, .ref mc, .ref mn, .int en, .int (nI sz), .ref mr, .int (nI (wa - (z + 1 + tln q K (li - 1 - rw - q - 1) z))), .ref mq, .int la, .ref md, .int (nI (z + 1 + tln q K (li - 1 - rw - q - 1) z)), .int 0]))]) [0] rfl
                  have hKc := hK.sub (tys' := []) [] rfl
                  refine pci (va_runV (As := [.int 0, .int (nI ((N + 0 + 1) / 2))]) (rest := []) ⟨hx, hb, hml, hown, hg⟩ (c_M_isError l D y ms mw mu mc mn mr mq md bi ne li sp q sz (wa - (z + 1 + tln q K (li - 1 - rw - q - 1) z)) 0 en la (nI (z + 1 + tln q K (li - 1 - rw - q - 1) z)) 0 0 (nI ((N + 0 + 1) / 2)) (by omega)) (cwV 2 hg (gV gw_630 gw_632 gs_19 gw_7 gw_633) rfl rfl rfl (by decide +kernel) ⟨Nat.le_of_ble_eq_true rfl, Nat.le_of_ble_eq_true rfl⟩) ⟨fun a U g mk q => by obtain ⟨q0, qP, qK⟩ := q; exact ⟨q0, qP, va_K.moved (u := U) (U := U.calling g mk a) (Vm.Alike.refl U.vm) qK⟩, va_recv hKc hPc (ci := 5) (q0 := 0) rfl rfl, fun U hU hW => ⟨rfl, by rw [hU]; exact hPc, va_K.moved hW.alike hKc⟩⟩ rfl rfl hl.1 rfl (lv_room (Nat.le_of_ble_eq_true rfl)) d_M_readInterrupt_128 (⟨Nat.le_of_ble_eq_true rfl, Nat.le_of_ble_eq_true rfl⟩)) ?_
                  refine tpi (y := 1) (if_pos ⟨by rw [nI_toInt (by omega)]; omega, by rw [nI_toInt (by omega)]; omega, Or.inr rfl⟩) ?_
                  refine lv_if_ne (tgt := 137) hx hb d_M_readInterrupt_131 (by decide) (fun c_10 => ?_) (fun c_10 => ?_)
                  · skip
                    refine lv_aload_n hx hb d_M_readInterrupt_137 rfl (lv_at hl 5 rfl) ?_
                    refine lv_iload_n hx hb d_M_readInterrupt_138 rfl (lv_at hl 4 rfl) ?_
                    refine lv_iload_n hx hb d_M_readInterrupt_139 rfl (lv_at hl 6 rfl) ?_
                    refine lv_iload_n hx hb d_M_readInterrupt_140 rfl (lv_at hl 3 rfl) ?_
                    refine lv_iload hx hb d_M_readInterrupt_141 (lv_at hl 0 rfl) ?_
                    have hPc := hP.sub (ws' := [(y, .inr (5, [.int 0, .int (nI bi), .int (nI ne), .int (nI li), .int (nI sp), .int (nI q), .ref ms, .ref mw, .ref mu, .ref mc, .ref mn, .int en, .int (nI sz), .ref mr, .int (nI (wa - (z + 1 + tln q K (li - 1 - rw - q - 1) z))), .ref mq, .int la, .ref md, .int (nI (z + 1 + tln q K (li - 1 - rw - q - 1) z)), .int 0])), (mu, .inl (cI, 4, .inl su)), (mc, .inl (cI, 4, .inl cu)), (mn, .inl (cI, 4, .inl nu))]) [0, 2, 3, 4] rfl
                    have hDc := hD.sub (ws' := [(y, .inr (5, [.int 0, .int (nI bi), .int (nI ne), .int (nI li), .int (nI sp), .int (nI q), .ref ms, .ref mw, .ref mu, .ref mc, .ref mn, .int en, .int (nI sz), .ref mr, .int (nI (wa - (z + 1 + tln q K (li - 1 - rw - q - 1) z))), .ref mq, .int la, .ref md, .int (nI (z + 1 + tln q K (li - 1 - rw - q - 1) z)), .int 0])), (mu, .inl (cI, 4, .inl su)), (mc, .inl (cI, 4, .inl cu)), (mn, .inl (cI, 4, .inl nu))]) [0, 2, 3, 4] (by decide) rfl
                    have hKc := hK.sub (tys' := [(cI, .int)]) [1] rfl
                    refine mcv (va_runV (As := [.int 2, .int 0, .int (nI N), .int (nI ((N + 0 + 1) / 2))]) (rest := []) ⟨hx, hb, hml, hown, hg⟩ (c_M_learn2P l D y ms mw mu mc mn mr mq md bi ne li sp q sz (wa - (z + 1 + tln q K (li - 1 - rw - q - 1) z)) 0 en la (nI (z + 1 + tln q K (li - 1 - rw - q - 1) z)) 0 cI su cu nu sm ct ng ((N + 0 + 1) / 2) N hsu hcu hnu hc0 hn0 hs0 (by omega) (by omega)) (cwV 4 hg (gV gw_646 gw_648 gs_23 gw_7 gw_649) rfl rfl rfl (by decide +kernel) ⟨Nat.le_of_ble_eq_true rfl, Nat.le_of_ble_eq_true rfl⟩) ⟨fun a U g mk q => by obtain ⟨q0, qP, qK, qD⟩ := q; exact ⟨q0, qP, va_K.moved (u := U) (U := U.calling g mk a) (Vm.Alike.refl U.vm) qK, qD⟩, va_recv hKc hPc (ci := 5) (q0 := 0) rfl rfl, fun U hU hW => ⟨rfl, by rw [hU]; exact hPc, va_K.moved hW.alike hKc, hDc.weaken (fun _ _ _ _ => trivial)⟩⟩ rfl rfl hl.1 rfl (lv_room (Nat.le_of_ble_eq_true rfl)) d_M_readInterrupt_143 (⟨Nat.le_of_ble_eq_true rfl, Nat.le_of_ble_eq_true rfl⟩)) hS hP hD [0, 2, 3, 4] rfl rfl rfl (fun H locs hP hD hS => ?_)
                    have hP : va_P D CLS [(y, .inr (5, [.int 0, .int (nI bi), .int (nI ne), .int (nI li), .int (nI sp), .int (nI q), .ref ms, .ref mw, .ref mu, .ref mc, .ref mn, .int en, .int (nI sz), .ref mr, .int (nI (wa - (z + 1 + tln q K (li - 1 - rw - q - 1) z))), .ref mq, .int la, .ref md, .int (nI (z + 1 + tln q K (li - 1 - rw - q - 1) z)), .int 0])), (mw, .inl (cI, 2, .inl lw)), (mu, .inl (cI, 4, .inl (upd su 2 (nI (hvd ct (sm + (N + 1 - 0) / 2)))))), (mc, .inl (cI, 4, .inl (upd cu 2 (nI (hvd ct ct + 1))))), (mn, .inl (cI, 4, .inl (upd nu 2 (nI (hvd ct ng))))), (mq, .inl (cB, 1000, .inl (gof wq (z + 1 + tln q K (li - 1 - rw - q - 1) z) (wa - (z + 1 + tln q K (li - 1 - rw - q - 1) z)))))] H := hP
                    have hD : va_D A [(y, .inr (5, [.int 0, .int (nI bi), .int (nI ne), .int (nI li), .int (nI sp), .int (nI q), .ref ms, .ref mw, .ref mu, .ref mc, .ref mn, .int en, .int (nI sz), .ref mr, .int (nI (wa - (z + 1 + tln q K (li - 1 - rw - q - 1) z))), .ref mq, .int la, .ref md, .int (nI (z + 1 + tln q K (li - 1 - rw - q - 1) z)), .int 0])), (mw, .inl (cI, 2, .inl lw)), (mu, .inl (cI, 4, .inl (upd su 2 (nI (hvd ct (sm + (N + 1 - 0) / 2)))))), (mc, .inl (cI, 4, .inl (upd cu 2 (nI (hvd ct ct + 1))))), (mn, .inl (cI, 4, .inl (upd nu 2 (nI (hvd ct ng))))), (mq, .inl (cB, 1000, .inl (gof wq (z + 1 + tln q K (li - 1 - rw - q - 1) z) (wa - (z + 1 + tln q K (li - 1 - rw - q - 1) z)))))] := hD
                    refine lv_iload hx hb d_M_readInterrupt_146 (lv_at hl 0 rfl) ?_
                    exact W.iret (v := nI ((N + 0 + 1) / 2)) hx hb hr (fun t ht hW => ⟨rfl, by rw [ht]; exact hP, (hAe ▸ hS).F ht⟩) (hAe ▸ hS).2.2 d_M_readInterrupt_148
                  · skip
                    exact absurd c_10 (by decide)
            · skip
              exact absurd rfl c_6
          · skip
            have hodd : (N + 0) % 2 = 1 := (nI_eq (b := 1) (by omega) (by omega)).mp c_5
            refine lv_iconst (v := 1) hx hb d_M_readInterrupt_79 (by decide) ?_
            refine lv_goto (tgt := 84) hx hb d_M_readInterrupt_80 (by decide) ?_
            refine lv_istore (lv' := [(4, .int 1), (3, .int (nI N)), (2, .int 2), (0, .ref y), (1, .int 0)]) hx hb d_M_readInterrupt_84 hl (by decide) rfl (fun ls hl => ?_)
            refine lv_iload_n hx hb d_M_readInterrupt_86 rfl (lv_at hl 1 rfl) ?_
            refine lv_iload_n hx hb d_M_readInterrupt_87 rfl (lv_at hl 4 rfl) ?_
            refine lv_iadd hx hb d_M_readInterrupt_88 ?_
            refine tpi (y := nI (N + 0)) (nI_add _ 0) ?_
            refine lv_iload hx hb d_M_readInterrupt_89 (lv_at hl 0 rfl) ?_
            refine lv_if_eq (tgt := 98) hx hb d_M_readInterrupt_91 (by decide) (fun c_11 => ?_) (fun c_11 => ?_)
            · skip
              exact absurd c_11 (by decide)
            · skip
              refine lv_iconst (v := 1) hx hb d_M_readInterrupt_94 (by decide) ?_
              refine lv_goto (tgt := 99) hx hb d_M_readInterrupt_95 (by decide) ?_
              refine lv_iadd hx hb d_M_readInterrupt_99 ?_
              refine tpi (y := nI (N + 0 + 1)) (nI_add _ 1) ?_
              refine lv_iconst (v := 2) hx hb d_M_readInterrupt_100 (by decide) ?_
              refine lv_idiv hx hb d_M_readInterrupt_101 (by decide) ?_
              refine tpi (y := nI ((N + 0 + 1) / 2)) ((div2 (by omega)).trans (congrArg nI (by omega))) ?_
              refine lv_istore (lv' := [(5, .int (nI ((N + 0 + 1) / 2))), (4, .int 1), (3, .int (nI N)), (2, .int 2), (0, .ref y), (1, .int 0)]) hx hb d_M_readInterrupt_102 hl (by decide) rfl (fun ls hl => ?_)
              refine lv_aload_n hx hb d_M_readInterrupt_104 rfl (lv_at hl 4 rfl) ?_
              refine lv_iload_n hx hb d_M_readInterrupt_105 rfl (lv_at hl 3 rfl) ?_
              have hPc := hP.sub (ws' := [(y, .inr (5, [.int 0, .int (nI bi), .int (nI ne), .int (nI li), .int (nI sp), .int (nI q), .ref ms, .ref mw, .ref mu, .ref mc, .ref mn, .int en, .int (nI sz), .ref mr, .int (nI (wa - (z + 1 + tln q K (li - 1 - rw - q - 1) z))), .ref mq, .int la, .ref md, .int (nI (z + 1 + tln q K (li - 1 - rw - q - 1) z)), .int 0])), (mu, .inl (cI, 4, .inl su)), (mc, .inl (cI, 4, .inl cu)), (mn, .inl (cI, 4, .inl nu))]) [0, 2, 3, 4] rfl
              have hKc := hK.sub (tys' := [(cI, .int)]) [1] rfl
              refine pci (va_runV (As := [.int 2]) (rest := []) ⟨hx, hb, hml, hown, hg⟩ (c_M_isUp2 l D y ms mw mu mc mn mr mq md bi ne li sp q sz (wa - (z + 1 + tln q K (li - 1 - rw - q - 1) z)) 0 en la (nI (z + 1 + tln q K (li - 1 - rw - q - 1) z)) 0 cI su cu nu sm ct ng K hsu hcu hnu hc0 hn0 (by omega) hKb hK1 hK2) (cwV 1 hg (gV gw_634 gw_636 gs_20 gw_7 gw_637) rfl rfl rfl (by decide +kernel) ⟨Nat.le_of_ble_eq_true rfl, Nat.le_of_ble_eq_true rfl⟩) ⟨fun a U g mk q => by obtain ⟨q0, qP, qK⟩ := q; exact ⟨q0, qP, va_K.moved (u := U) (U := U.calling g mk a) (Vm.Alike.refl U.vm) qK⟩, va_recv hKc hPc (ci := 5) (q0 := 0) rfl rfl, fun U hU hW => ⟨rfl, by rw [hU]; exact hPc, va_K.moved hW.alike hKc⟩⟩ rfl rfl hl.1 rfl (lv_room (Nat.le_of_ble_eq_true rfl)) d_M_readInterrupt_106 (⟨Nat.le_of_ble_eq_true rfl, Nat.le_of_ble_eq_true rfl⟩)) ?_
              by_cases hup : (K = 0 ∧ 2 * ng < ct)
              · skip
                refine tpi (y := 1) (if_pos hup) ?_
                have hcn : ((N + 0) % 2 = 1 ↔ (K = 0 ∧ 2 * ng < ct)) := ⟨fun _ => hup, fun _ => hodd⟩
                refine lv_iload hx hb d_M_readInterrupt_109 (lv_at hl 1 rfl) ?_
                refine lv_icmp_ne (tgt := 119) hx hb d_M_readInterrupt_111 (by decide) (fun c_12 => ?_) (fun c_12 => ?_)
                · skip
                  exact absurd rfl c_12
                · skip
                  refine lv_iload hx hb d_M_readInterrupt_114 (lv_at hl 0 rfl) ?_
                  refine lv_goto (tgt := 122) hx hb d_M_readInterrupt_116 (by decide) ?_
                  refine lv_istore (lv' := [(6, .int (nI ((N + 0 + 1) / 2))), (5, .int (nI ((N + 0 + 1) / 2))), (4, .int 1), (3, .int (nI N)), (2, .int 2), (0, .ref y), (1, .int 0)]) hx hb d_M_readInterrupt_122 hl (by decide) rfl (fun ls hl => ?_)
                  refine lv_aload_n hx hb d_M_readInterrupt_124 rfl (lv_at hl 5 rfl) ?_
                  refine lv_iload_n hx hb d_M_readInterrupt_125 rfl (lv_at hl 6 rfl) ?_
                  refine lv_iload hx hb d_M_readInterrupt_126 (lv_at hl 0 rfl) ?_
                  have hPc := hP.sub (ws' := [(y, .inr (5, [.int 0, .int (nI bi), .int (nI ne), .int (nI li), .int (nI sp), .int (nI q), .ref ms, .ref mw, .ref mu, .ref mc, .ref mn, .int en, .int (nI sz), .ref mr, .int (nI (wa - (z + 1 + tln q K (li - 1 - rw - q - 1) z))), .ref mq, .int la, .ref md, .int (nI (z + 1 + tln q K (li - 1 - rw - q - 1) z)), .int 0]))]) [0] rfl
                  have hKc := hK.sub (tys' := []) [] rfl
                  refine pci (va_runV (As := [.int 0, .int (nI ((N + 0 + 1) / 2))]) (rest := []) ⟨hx, hb, hml, hown, hg⟩ (c_M_isError l D y ms mw mu mc mn mr mq md bi ne li sp q sz (wa - (z + 1 + tln q K (li - 1 - rw - q - 1) z)) 0 en la (nI (z + 1 + tln q K (li - 1 - rw - q - 1) z)) 0 0 (nI ((N + 0 + 1) / 2)) (by omega)) (cwV 2 hg (gV gw_630 gw_632 gs_19 gw_7 gw_633) rfl rfl rfl (by decide +kernel) ⟨Nat.le_of_ble_eq_true rfl, Nat.le_of_ble_eq_true rfl⟩) ⟨fun a U g mk q => by obtain ⟨q0, qP, qK⟩ := q; exact ⟨q0, qP, va_K.moved (u := U) (U := U.calling g mk a) (Vm.Alike.refl U.vm) qK⟩, va_recv hKc hPc (ci := 5) (q0 := 0) rfl rfl, fun U hU hW => ⟨rfl, by rw [hU]; exact hPc, va_K.moved hW.alike hKc⟩⟩ rfl rfl hl.1 rfl (lv_room (Nat.le_of_ble_eq_true rfl)) d_M_readInterrupt_128 (⟨Nat.le_of_ble_eq_true rfl, Nat.le_of_ble_eq_true rfl⟩)) ?_
                  refine tpi (y := 1) (if_pos ⟨by rw [nI_toInt (by omega)]; omega, by rw [nI_toInt (by omega)]; omega, Or.inr rfl⟩) ?_
                  refine lv_if_ne (tgt := 137) hx hb d_M_readInterrupt_131 (by decide) (fun c_13 => ?_) (fun c_13 => ?_)
                  · skip
                    refine lv_aload_n hx hb d_M_readInterrupt_137 rfl (lv_at hl 5 rfl) ?_
                    refine lv_iload_n hx hb d_M_readInterrupt_138 rfl (lv_at hl 4 rfl) ?_
                    refine lv_iload_n hx hb d_M_readInterrupt_139 rfl (lv_at hl 6 rfl) ?_
                    refine lv_iload_n hx hb d_M_readInterrupt_140 rfl (lv_at hl 3 rfl) ?_
                    refine lv_iload hx hb d_M_readInterrupt_141 (lv_at hl 0 rfl) ?_
                    have hPc := hP.sub (ws' := [(y, .inr (5, [.int 0, .int (nI bi), .int (nI ne), .int (nI li), .int (nI sp), .int (nI q), .ref ms, .ref mw, .ref mu, .ref mc, .ref mn, .int en, .int (nI sz), .ref mr, .int (nI (wa - (z + 1 + tln q K (li - 1 - rw - q - 1) z))), .ref mq, .int la, .ref md, .int (nI (z + 1 + tln q K (li - 1 - rw - q - 1) z)), .int 0])), (mu, .inl (cI, 4, .inl su)), (mc, .inl (cI, 4, .inl cu)), (mn, .inl (cI, 4, .inl nu))]) [0, 2, 3, 4] rfl
                    have hDc := hD.sub (ws' := [(y, .inr (5, [.int 0, .int (nI bi), .int (nI ne), .int (nI li), .int (nI sp), .int (nI q), .ref ms, .ref mw, .ref mu, .ref mc, .ref mn, .int en, .int (nI sz), .ref mr, .int (nI (wa - (z + 1 + tln q K (li - 1 - rw - q - 1) z))), .ref mq, .int la, .ref md, .int (nI (z + 1 + tln q K (li - 1 - rw - q - 1) z)), .int 0])), (mu, .inl (cI, 4, .inl su)), (mc, .inl (cI, 4, .inl cu)), (mn, .inl (cI, 4, .inl nu))]) [0, 2, 3, 4] (by decide) rfl
                    have hKc := hK.sub (tys' := [(cI, .int)]) [1] rfl
                    refine mcv (va_runV (As := [.int 2, .int 0, .int (nI N), .int (nI ((N + 0 + 1) / 2))]) (rest := []) ⟨hx, hb, hml, hown, hg⟩ (c_M_learn2P l D y ms mw mu mc mn mr mq md bi ne li sp q sz (wa - (z + 1 + tln q K (li - 1 - rw - q - 1) z)) 0 en la (nI (z + 1 + tln q K (li - 1 - rw - q - 1) z)) 0 cI su cu nu sm ct ng ((N + 0 + 1) / 2) N hsu hcu hnu hc0 hn0 hs0 (by omega) (by omega)) (cwV 4 hg (gV gw_646 gw_648 gs_23 gw_7 gw_649) rfl rfl rfl (by decide +kernel) ⟨Nat.le_of_ble_eq_true rfl, Nat.le_of_ble_eq_true rfl⟩) ⟨fun a U g mk q => by obtain ⟨q0, qP, qK, qD⟩ := q; exact ⟨q0, qP, va_K.moved (u := U) (U := U.calling g mk a) (Vm.Alike.refl U.vm) qK, qD⟩, va_recv hKc hPc (ci := 5) (q0 := 0) rfl rfl, fun U hU hW => ⟨rfl, by rw [hU]; exact hPc, va_K.moved hW.alike hKc, hDc.weaken (fun _ _ _ _ => trivial)⟩⟩ rfl rfl hl.1 rfl (lv_room (Nat.le_of_ble_eq_true rfl)) d_M_readInterrupt_143 (⟨Nat.le_of_ble_eq_true rfl, Nat.le_of_ble_eq_true rfl⟩)) hS hP hD [0, 2, 3, 4] rfl rfl rfl (fun H locs hP hD hS => ?_)
                    have hP : va_P D CLS [(y, .inr (5, [.int 0, .int (nI bi), .int (nI ne), .int (nI li), .int (nI sp), .int (nI q), .ref ms, .ref mw, .ref mu, .ref mc, .ref mn, .int en, .int (nI sz), .ref mr, .int (nI (wa - (z + 1 + tln q K (li - 1 - rw - q - 1) z))), .ref mq, .int la, .ref md, .int (nI (z + 1 + tln q K (li - 1 - rw - q - 1) z)), .int 0])), (mw, .inl (cI, 2, .inl lw)), (mu, .inl (cI, 4, .inl (upd su 2 (nI (hvd ct (sm + (N + 1 - 0) / 2)))))), (mc, .inl (cI, 4, .inl (upd cu 2 (nI (hvd ct ct + 1))))), (mn, .inl (cI, 4, .inl (upd nu 2 (nI (hvd ct ng))))), (mq, .inl (cB, 1000, .inl (gof wq (z + 1 + tln q K (li - 1 - rw - q - 1) z) (wa - (z + 1 + tln q K (li - 1 - rw - q - 1) z)))))] H := hP
                    have hD : va_D A [(y, .inr (5, [.int 0, .int (nI bi), .int (nI ne), .int (nI li), .int (nI sp), .int (nI q), .ref ms, .ref mw, .ref mu, .ref mc, .ref mn, .int en, .int (nI sz), .ref mr, .int (nI (wa - (z + 1 + tln q K (li - 1 - rw - q - 1) z))), .ref mq, .int la, .ref md, .int (nI (z + 1 + tln q K (li - 1 - rw - q - 1) z)), .int 0])), (mw, .inl (cI, 2, .inl lw)), (mu, .inl (cI, 4, .inl (upd su 2 (nI (hvd ct (sm + (N + 1 - 0) / 2)))))), (mc, .inl (cI, 4, .inl (upd cu 2 (nI (hvd ct ct + 1))))), (mn, .inl (cI, 4, .inl (upd nu 2 (nI (hvd ct ng))))), (mq, .inl (cB, 1000, .inl (gof wq (z + 1 + tln q K (li - 1 - rw - q - 1) z) (wa - (z + 1 + tln q K (li - 1 - rw - q - 1) z)))))] := hD
                    refine lv_iload hx hb d_M_readInterrupt_146 (lv_at hl 0 rfl) ?_
                    exact W.iret (v := nI ((N + 0 + 1) / 2)) hx hb hr (fun t ht hW => ⟨rfl, by rw [ht]; exact hP, (hAe ▸ hS).F ht⟩) (hAe ▸ hS).2.2 d_M_readInterrupt_148
                  · skip
                    exact absurd c_13 (by decide)
              · skip
                refine tpi (y := 0) (if_neg hup) ?_
                have hcn : ¬ ((N + 0) % 2 = 1 ↔ (K = 0 ∧ 2 * ng < ct)) := fun q9 => hup (q9.mp hodd)
                refine lv_iload hx hb d_M_readInterrupt_109 (lv_at hl 1 rfl) ?_
                refine lv_icmp_ne (tgt := 119) hx hb d_M_readInterrupt_111 (by decide) (fun c_14 => ?_) (fun c_14 => ?_)
                · skip
                  refine lv_iload hx hb d_M_readInterrupt_119 (lv_at hl 0 rfl) ?_
                  refine lv_ineg hx hb d_M_readInterrupt_121 ?_
                  refine tpi (y := nI ((N + 0 + 1) / 2)) (by rw [hs2.resolve_left hcn]; rfl) ?_
                  refine lv_istore (lv' := [(6, .int (nI ((N + 0 + 1) / 2))), (5, .int (nI ((N + 0 + 1) / 2))), (4, .int 1), (3, .int (nI N)), (2, .int 2), (0, .ref y), (1, .int 0)]) hx hb d_M_readInterrupt_122 hl (by decide) rfl (fun ls hl => ?_)
                  refine lv_aload_n hx hb d_M_readInterrupt_124 rfl (lv_at hl 5 rfl) ?_
                  refine lv_iload_n hx hb d_M_readInterrupt_125 rfl (lv_at hl 6 rfl) ?_
                  refine lv_iload hx hb d_M_readInterrupt_126 (lv_at hl 0 rfl) ?_
                  have hPc := hP.sub (ws' := [(y, .inr (5, [.int 0, .int (nI bi), .int (nI ne), .int (nI li), .int (nI sp), .int (nI q), .ref ms, .ref mw, .ref mu, .ref mc, .ref mn, .int en, .int (nI sz), .ref mr, .int (nI (wa - (z + 1 + tln q K (li - 1 - rw - q - 1) z))), .ref mq, .int la, .ref md, .int (nI (z + 1 + tln q K (li - 1 - rw - q - 1) z)), .int 0]))]) [0] rfl
                  have hKc := hK.sub (tys' := []) [] rfl
                  refine pci (va_runV (As := [.int 0, .int (nI ((N + 0 + 1) / 2))]) (rest := []) ⟨hx, hb, hml, hown, hg⟩ (c_M_isError l D y ms mw mu mc mn mr mq md bi ne li sp q sz (wa - (z + 1 + tln q K (li - 1 - rw - q - 1) z)) 0 en la (nI (z + 1 + tln q K (li - 1 - rw - q - 1) z)) 0 0 (nI ((N + 0 + 1) / 2)) (by omega)) (cwV 2 hg (gV gw_630 gw_632 gs_19 gw_7 gw_633) rfl rfl rfl (by decide +kernel) ⟨Nat.le_of_ble_eq_true rfl, Nat.le_of_ble_eq_true rfl⟩) ⟨fun a U g mk q => by obtain ⟨q0, qP, qK⟩ := q; exact ⟨q0, qP, va_K.moved (u := U) (U := U.calling g mk a) (Vm.Alike.refl U.vm) qK⟩, va_recv hKc hPc (ci := 5) (q0 := 0) rfl rfl, fun U hU hW => ⟨rfl, by rw [hU]; exact hPc, va_K.moved hW.alike hKc⟩⟩ rfl rfl hl.1 rfl (lv_room (Nat.le_of_ble_eq_true rfl)) d_M_readInterrupt_128 (⟨Nat.le_of_ble_eq_true rfl, Nat.le_of_ble_eq_true rfl⟩)) ?_
                  refine tpi (y := 1) (if_pos ⟨by rw [nI_toInt (by omega)]; omega, by rw [nI_toInt (by omega)]; omega, Or.inr rfl⟩) ?_
                  refine lv_if_ne (tgt := 137) hx hb d_M_readInterrupt_131 (by decide) (fun c_15 => ?_) (fun c_15 => ?_)
                  · skip
                    refine lv_aload_n hx hb d_M_readInterrupt_137 rfl (lv_at hl 5 rfl) ?_
                    refine lv_iload_n hx hb d_M_readInterrupt_138 rfl (lv_at hl 4 rfl) ?_
                    refine lv_iload_n hx hb d_M_readInterrupt_139 rfl (lv_at hl 6 rfl) ?_
                    refine lv_iload_n hx hb d_M_readInterrupt_140 rfl (lv_at hl 3 rfl) ?_
                    refine lv_iload hx hb d_M_readInterrupt_141 (lv_at hl 0 rfl) ?_
                    have hPc := hP.sub (ws' := [(y, .inr (5, [.int 0, .int (nI bi), .int (nI ne), .int (nI li), .int (nI sp), .int (nI q), .ref ms, .ref mw, .ref mu, .ref mc, .ref mn, .int en, .int (nI sz), .ref mr, .int (nI (wa - (z + 1 + tln q K (li - 1 - rw - q - 1) z))), .ref mq, .int la, .ref md, .int (nI (z + 1 + tln q K (li - 1 - rw - q - 1) z)), .int 0])), (mu, .inl (cI, 4, .inl su)), (mc, .inl (cI, 4, .inl cu)), (mn, .inl (cI, 4, .inl nu))]) [0, 2, 3, 4] rfl
                    have hDc := hD.sub (ws' := [(y, .inr (5, [.int 0, .int (nI bi), .int (nI ne), .int (nI li), .int (nI sp), .int (nI q), .ref ms, .ref mw, .ref mu, .ref mc, .ref mn, .int en, .int (nI sz), .ref mr, .int (nI (wa - (z + 1 + tln q K (li - 1 - rw - q - 1) z))), .ref mq, .int la, .ref md, .int (nI (z + 1 + tln q K (li - 1 - rw - q - 1) z)), .int 0])), (mu, .inl (cI, 4, .inl su)), (mc, .inl (cI, 4, .inl cu)), (mn, .inl (cI, 4, .inl nu))]) [0, 2, 3, 4] (by decide) rfl
                    have hKc := hK.sub (tys' := [(cI, .int)]) [1] rfl
                    refine mcv (va_runV (As := [.int 2, .int 0, .int (nI N), .int (nI ((N + 0 + 1) / 2))]) (rest := []) ⟨hx, hb, hml, hown, hg⟩ (c_M_learn2P l D y ms mw mu mc mn mr mq md bi ne li sp q sz (wa - (z + 1 + tln q K (li - 1 - rw - q - 1) z)) 0 en la (nI (z + 1 + tln q K (li - 1 - rw - q - 1) z)) 0 cI su cu nu sm ct ng ((N + 0 + 1) / 2) N hsu hcu hnu hc0 hn0 hs0 (by omega) (by omega)) (cwV 4 hg (gV gw_646 gw_648 gs_23 gw_7 gw_649) rfl rfl rfl (by decide +kernel) ⟨Nat.le_of_ble_eq_true rfl, Nat.le_of_ble_eq_true rfl⟩) ⟨fun a U g mk q => by obtain ⟨q0, qP, qK, qD⟩ := q; exact ⟨q0, qP, va_K.moved (u := U) (U := U.calling g mk a) (Vm.Alike.refl U.vm) qK, qD⟩, va_recv hKc hPc (ci := 5) (q0 := 0) rfl rfl, fun U hU hW => ⟨rfl, by rw [hU]; exact hPc, va_K.moved hW.alike hKc, hDc.weaken (fun _ _ _ _ => trivial)⟩⟩ rfl rfl hl.1 rfl (lv_room (Nat.le_of_ble_eq_true rfl)) d_M_readInterrupt_143 (⟨Nat.le_of_ble_eq_true rfl, Nat.le_of_ble_eq_true rfl⟩)) hS hP hD [0, 2, 3, 4] rfl rfl rfl (fun H locs hP hD hS => ?_)
                    have hP : va_P D CLS [(y, .inr (5, [.int 0, .int (nI bi), .int (nI ne), .int (nI li), .int (nI sp), .int (nI q), .ref ms, .ref mw, .ref mu, .ref mc, .ref mn, .int en, .int (nI sz), .ref mr, .int (nI (wa - (z + 1 + tln q K (li - 1 - rw - q - 1) z))), .ref mq, .int la, .ref md, .int (nI (z + 1 + tln q K (li - 1 - rw - q - 1) z)), .int 0])), (mw, .inl (cI, 2, .inl lw)), (mu, .inl (cI, 4, .inl (upd su 2 (nI (hvd ct (sm + (N + 1 - 0) / 2)))))), (mc, .inl (cI, 4, .inl (upd cu 2 (nI (hvd ct ct + 1))))), (mn, .inl (cI, 4, .inl (upd nu 2 (nI (hvd ct ng))))), (mq, .inl (cB, 1000, .inl (gof wq (z + 1 + tln q K (li - 1 - rw - q - 1) z) (wa - (z + 1 + tln q K (li - 1 - rw - q - 1) z)))))] H := hP
                    have hD : va_D A [(y, .inr (5, [.int 0, .int (nI bi), .int (nI ne), .int (nI li), .int (nI sp), .int (nI q), .ref ms, .ref mw, .ref mu, .ref mc, .ref mn, .int en, .int (nI sz), .ref mr, .int (nI (wa - (z + 1 + tln q K (li - 1 - rw - q - 1) z))), .ref mq, .int la, .ref md, .int (nI (z + 1 + tln q K (li - 1 - rw - q - 1) z)), .int 0])), (mw, .inl (cI, 2, .inl lw)), (mu, .inl (cI, 4, .inl (upd su 2 (nI (hvd ct (sm + (N + 1 - 0) / 2)))))), (mc, .inl (cI, 4, .inl (upd cu 2 (nI (hvd ct ct + 1))))), (mn, .inl (cI, 4, .inl (upd nu 2 (nI (hvd ct ng))))), (mq, .inl (cB, 1000, .inl (gof wq (z + 1 + tln q K (li - 1 - rw - q - 1) z) (wa - (z + 1 + tln q K (li - 1 - rw - q - 1) z)))))] := hD
                    refine lv_iload hx hb d_M_readInterrupt_146 (lv_at hl 0 rfl) ?_
                    exact W.iret (v := nI ((N + 0 + 1) / 2)) hx hb hr (fun t ht hW => ⟨rfl, by rw [ht]; exact hP, (hAe ▸ hS).F ht⟩) (hAe ▸ hS).2.2 d_M_readInterrupt_148
                  · skip
                    exact absurd c_15 (by decide)
                · skip
                  exact absurd c_14 (by decide)
        · skip
          exact absurd c_4 (nm2 (by omega))
      · skip
        exact absurd c_3 (nm1 (by omega))
    · skip
      exact absurd (by decide) c_2
set_option maxHeartbeats 4000000 in
set_option maxRecDepth 100000 in
theorem c_M_readInterrupt0M (l : Launch) (D : va_G) (y ms mw mu mc mn mr mq md bi ne li sp q sz wa : Nat) (th en la at0 lk : Int32) (cB cI : ClassId) (lw su cu nu wq : Nat → Int32) (rw sm ct ng K z : Nat) (hlw : lw 1 = nI rw) (hsu : su 2 = nI sm) (hcu : cu 2 = nI ct) (hnu : nu 2 = nI ng) (hwa : wa ≤ 1000) (hqb : ∀ j, j < wa → wq j = 0 ∨ wq j = 1) (hc0 : ct ≤ 64) (hn0 : ng ≤ 64) (hs0 : sm < 2 ^ 29) (hKb : K ≤ 29) (hK1 : sm ≤ ct * 2 ^ K) (hK2 : ∀ j, j < K → ct * 2 ^ j < sm) (hsp : sp ≤ 65536) (hq : q ≤ 29) (hli : q + 18 ≤ li) (hlb : li ≤ 200) (hrw : rw ≤ 15) (hz1 : z ≤ (li - 1 - rw - q - 1) + 1) (hz2 : z ≤ wa) (hz3 : ∀ j, j < z → wq j = 0) (hz4 : z = (li - 1 - rw - q - 1) + 1 ∨ z = wa ∨ wq z ≠ 0) (hzm : z ≤ (li - 1 - rw - q - 1)) (hw : z + 1 + tln q K (li - 1 - rw - q - 1) z ≤ wa) (hzk : z * 2 ^ K < 2 ^ 31) (N : Nat) (hN : rnum (mbt wq wa) q K (li - 1 - rw - q - 1) z = nI N) (hNb : N < 2 ^ 29) (hs2 : ¬ ((N + 0) % 2 = 1 ↔ (K = 0 ∧ 2 * ng < ct))) (hn : ((N + 0 + 1) / 2) ≤ sp / 2) (hn1 : 0 < ((N + 0 + 1) / 2)) : Met l y_M_readInterrupt (WSY y_M_readInterrupt b_M_readInterrupt 7 (some .int)) ({ frames := 3, cells := 0, slots := 0, locals := 72 }) (va_Pc [.ref y, .int 0] (fun U => va_P D CLS [(y, .inr (5, [.int th, .int (nI bi), .int (nI ne), .int (nI li), .int (nI sp), .int (nI q), .ref ms, .ref mw, .ref mu, .ref mc, .ref mn, .int en, .int (nI sz), .ref mr, .int (nI wa), .ref mq, .int la, .ref md, .int at0, .int lk])), (mw, .inl (cI, 2, .inl lw)), (mu, .inl (cI, 4, .inl su)), (mc, .inl (cI, 4, .inl cu)), (mn, .inl (cI, 4, .inl nu)), (mq, .inl (cB, 1000, .inl wq))] U.heap ∧ va_K D CLS [(cB, .byte), (cI, .int)] U ∧ va_D (fun _ => True) [(y, .inr (5, [.int th, .int (nI bi), .int (nI ne), .int (nI li), .int (nI sp), .int (nI q), .ref ms, .ref mw, .ref mu, .ref mc, .ref mn, .int en, .int (nI sz), .ref mr, .int (nI wa), .ref mq, .int la, .ref md, .int at0, .int lk])), (mw, .inl (cI, 2, .inl lw)), (mu, .inl (cI, 4, .inl su)), (mc, .inl (cI, 4, .inl cu)), (mn, .inl (cI, 4, .inl nu)), (mq, .inl (cB, 1000, .inl wq))])) (QM (some (.int (-nI ((N + 0 + 1) / 2)))) [(y, .inr (5, [.int th, .int (nI bi), .int (nI ne), .int (nI li), .int (nI sp), .int (nI q), .ref ms, .ref mw, .ref mu, .ref mc, .ref mn, .int en, .int (nI sz), .ref mr, .int (nI wa), .ref mq, .int la, .ref md, .int at0, .int lk])), (mw, .inl (cI, 2, .inl lw)), (mu, .inl (cI, 4, .inl su)), (mc, .inl (cI, 4, .inl cu)), (mn, .inl (cI, 4, .inl nu)), (mq, .inl (cB, 1000, .inl wq))] [(y, .inr (5, [.int 0, .int (nI bi), .int (nI ne), .int (nI li), .int (nI sp), .int (nI q), .ref ms, .ref mw, .ref mu, .ref mc, .ref mn, .int en, .int (nI sz), .ref mr, .int (nI (wa - (z + 1 + tln q K (li - 1 - rw - q - 1) z))), .ref mq, .int la, .ref md, .int (nI (z + 1 + tln q K (li - 1 - rw - q - 1) z)), .int 0])), (mw, .inl (cI, 2, .inl lw)), (mu, .inl (cI, 4, .inl (upd su 2 (nI (hvd ct (sm + (N + 1 - 0) / 2)))))), (mc, .inl (cI, 4, .inl (upd cu 2 (nI (hvd ct ct + 1))))), (mn, .inl (cI, 4, .inl (upd nu 2 (nI (hvd ct (ng + 1)))))), (mq, .inl (cB, 1000, .inl (gof wq (z + 1 + tln q K (li - 1 - rw - q - 1) z) (wa - (z + 1 + tln q K (li - 1 - rw - q - 1) z)))))] D) 0 0 (ad [(y, .inr (5, [.int th, .int (nI bi), .int (nI ne), .int (nI li), .int (nI sp), .int (nI q), .ref ms, .ref mw, .ref mu, .ref mc, .ref mn, .int en, .int (nI sz), .ref mr, .int (nI wa), .ref mq, .int la, .ref md, .int at0, .int lk])), (mw, .inl (cI, 2, .inl lw)), (mu, .inl (cI, 4, .inl su)), (mc, .inl (cI, 4, .inl cu)), (mn, .inl (cI, 4, .inl nu)), (mq, .inl (cB, 1000, .inl wq))]) := by
  refine Met.ofW (cc := b_M_readInterrupt) (maxL := 7) (ret := (some .int)) (by decide) rfl ?_
  intro p e s m args below meth c s₁ B hml hv
  obtain ⟨rfl, hP, hK, hD0⟩ := hv
  have hx := B.exec
  have hb := B.bytes
  have hr := B.returns
  have hts := atoms_spec (ws := WSY y_M_readInterrupt b_M_readInterrupt 7 (some .int)) B.pre
  have hg : ∀ w ∈ GW, w.before _ s = true := fun w h => hts w (List.mem_cons_of_mem _ h)
  have hown : s.vm.findClass "LineGolombModel" = some m.cls := findClass_of_methodNamed B.named
  have hlocks := B.notSynchronized
  obtain ⟨A, hAe⟩ : ∃ A, A = ad [(y, .inr (5, [.int th, .int (nI bi), .int (nI ne), .int (nI li), .int (nI sp), .int (nI q), .ref ms, .ref mw, .ref mu, .ref mc, .ref mn, .int en, .int (nI sz), .ref mr, .int (nI wa), .ref mq, .int la, .ref md, .int at0, .int lk])), (mw, .inl (cI, 2, .inl lw)), (mu, .inl (cI, 4, .inl su)), (mc, .inl (cI, 4, .inl cu)), (mn, .inl (cI, 4, .inl nu)), (mq, .inl (cB, 1000, .inl wq))] := ⟨_, rfl⟩
  have hD : va_D A [(y, .inr (5, [.int th, .int (nI bi), .int (nI ne), .int (nI li), .int (nI sp), .int (nI q), .ref ms, .ref mw, .ref mu, .ref mc, .ref mn, .int en, .int (nI sz), .ref mr, .int (nI wa), .ref mq, .int la, .ref md, .int at0, .int lk])), (mw, .inl (cI, 2, .inl lw)), (mu, .inl (cI, 4, .inl su)), (mc, .inl (cI, 4, .inl cu)), (mn, .inl (cI, 4, .inl nu)), (mq, .inl (cB, 1000, .inl wq))] := by rw [hAe]; exact va_D_ad hD0
  have hS : va_S A s.heap s.heap [] := va_S.rf
  have hl := lv_entry ([.ref y, .int 0]) (n := 7) (Nat.le_of_ble_eq_true rfl)
  rw [lg_entry_eq]
  generalize (lg_sl ([.ref y, .int 0]) ++ List.replicate (7 - (lg_sl ([.ref y, .int 0])).length) Slot.unset).toArray = ls at hl ⊢
  have hl : lv_has ls 7 [(0, .ref y), (1, .int 0)] := hl
  refine lv_aload_n hx hb d_M_readInterrupt_0 rfl (lv_at hl 0 rfl) ?_
  refine lv_aload_n hx hb d_M_readInterrupt_1 rfl (lv_at hl 0 rfl) ?_
  refine lv_iload_n hx hb d_M_readInterrupt_2 rfl (lv_at hl 1 rfl) ?_
  have hPc := hP.sub (ws' := [(y, .inr (5, [.int th, .int (nI bi), .int (nI ne), .int (nI li), .int (nI sp), .int (nI q), .ref ms, .ref mw, .ref mu, .ref mc, .ref mn, .int en, .int (nI sz), .ref mr, .int (nI wa), .ref mq, .int la, .ref md, .int at0, .int lk]))]) [0] rfl
  have hKc := hK.sub (tys' := []) [] rfl
  refine pci (va_runV (As := [.int 0]) (rest := [.ref y]) ⟨hx, hb, hml, hown, hg⟩ (c_M_isKind l D y ms mw mu mc mn mr mq md bi ne li sp q sz wa th en la at0 lk 0) (cwV 1 hg (gV gw_626 gw_628 gs_18 gw_7 gw_629) rfl rfl rfl (by decide +kernel) ⟨Nat.le_of_ble_eq_true rfl, Nat.le_of_ble_eq_true rfl⟩) ⟨fun a U g mk q => by obtain ⟨q0, qP, qK⟩ := q; exact ⟨q0, qP, va_K.moved (u := U) (U := U.calling g mk a) (Vm.Alike.refl U.vm) qK⟩, va_recv hKc hPc (ci := 5) (q0 := 0) rfl rfl, fun U hU hW => ⟨rfl, by rw [hU]; exact hPc, va_K.moved hW.alike hKc⟩⟩ rfl rfl hl.1 rfl (lv_room (Nat.le_of_ble_eq_true rfl)) d_M_readInterrupt_3 (⟨Nat.le_of_ble_eq_true rfl, Nat.le_of_ble_eq_true rfl⟩)) ?_
  refine tpi (y := 1) (by decide) ?_
  refine lv_if_eq (tgt := 13) hx hb d_M_readInterrupt_6 (by decide) (fun c_1 => ?_) (fun c_1 => ?_)
  · skip
    exact absurd c_1 (by decide)
  · skip
    refine lv_iconst (v := 0) hx hb d_M_readInterrupt_9 (by decide) ?_
    refine lv_goto (tgt := 14) hx hb d_M_readInterrupt_10 (by decide) ?_
    refine va_put (D := D) (ci := 5) (v := .int 0) (ty := .int) (C := R_M) (T := T_M) (N := 20) hx hb hg in_M ty_M tok_M nm_M hown hK hP hD hS 0 rfl rfl 0 (by decide) (hg _ gw_524) (fun _ h9 => h9) rfl (by decide +kernel) (rfl) (rfl) (Nat.le_of_ble_eq_true rfl) d_M_readInterrupt_14 (fun H locs hP hD hS => ?_)
    have hP : va_P D CLS [(y, .inr (5, [.int 0, .int (nI bi), .int (nI ne), .int (nI li), .int (nI sp), .int (nI q), .ref ms, .ref mw, .ref mu, .ref mc, .ref mn, .int en, .int (nI sz), .ref mr, .int (nI wa), .ref mq, .int la, .ref md, .int at0, .int lk])), (mw, .inl (cI, 2, .inl lw)), (mu, .inl (cI, 4, .inl su)), (mc, .inl (cI, 4, .inl cu)), (mn, .inl (cI, 4, .inl nu)), (mq, .inl (cB, 1000, .inl wq))] H := hP
    have hD : va_D A [(y, .inr (5, [.int 0, .int (nI bi), .int (nI ne), .int (nI li), .int (nI sp), .int (nI q), .ref ms, .ref mw, .ref mu, .ref mc, .ref mn, .int en, .int (nI sz), .ref mr, .int (nI wa), .ref mq, .int la, .ref md, .int at0, .int lk])), (mw, .inl (cI, 2, .inl lw)), (mu, .inl (cI, 4, .inl su)), (mc, .inl (cI, 4, .inl cu)), (mn, .inl (cI, 4, .inl nu)), (mq, .inl (cB, 1000, .inl wq))] := hD
    refine lv_aload_n hx hb d_M_readInterrupt_17 rfl (lv_at hl 0 rfl) ?_
    refine va_get (D := D) (ci := 5) (v := .int 0) (C := R_M) (T := T_M) (N := 20) hx hb hg in_M hown hK hP 0 rfl rfl 0 (by decide) (hg _ gw_524) (fun _ h9 => h9) rfl d_M_readInterrupt_18 ?_
    refine lv_if_le (tgt := 26) hx hb d_M_readInterrupt_21 (by decide) (fun c_2 => ?_) (fun c_2 => ?_)
    · skip
      refine lv_iconst (v := 2) hx hb d_M_readInterrupt_26 (by decide) ?_
      refine lv_iload_n hx hb d_M_readInterrupt_27 rfl (lv_at hl 1 rfl) ?_
      refine lv_iadd hx hb d_M_readInterrupt_28 ?_
      refine tpi (y := 2) (by decide) ?_
      refine lv_istore_n (lv' := [(2, .int 2), (0, .ref y), (1, .int 0)]) hx hb d_M_readInterrupt_29 rfl hl (by decide) rfl (fun ls hl => ?_)
      refine lv_aload_n hx hb d_M_readInterrupt_30 rfl (lv_at hl 1 rfl) ?_
      refine lv_aload_n hx hb d_M_readInterrupt_31 rfl (lv_at hl 1 rfl) ?_
      refine lv_iload_n hx hb d_M_readInterrupt_32 rfl (lv_at hl 0 rfl) ?_
      have hPc := hP.sub (ws' := [(y, .inr (5, [.int 0, .int (nI bi), .int (nI ne), .int (nI li), .int (nI sp), .int (nI q), .ref ms, .ref mw, .ref mu, .ref mc, .ref mn, .int en, .int (nI sz), .ref mr, .int (nI wa), .ref mq, .int la, .ref md, .int at0, .int lk])), (mu, .inl (cI, 4, .inl su)), (mc, .inl (cI, 4, .inl cu)), (mn, .inl (cI, 4, .inl nu))]) [0, 2, 3, 4] rfl
      have hKc := hK.sub (tys' := [(cI, .int)]) [1] rfl
      refine pci (va_runV (As := [.int 2]) (rest := [.ref y]) ⟨hx, hb, hml, hown, hg⟩ (c_M_kOf2 l D y ms mw mu mc mn mr mq md bi ne li sp q sz wa 0 en la at0 lk cI su cu nu sm ct ng K hsu hcu hnu hc0 hn0 (by omega) hKb hK1 hK2) (cwV 1 hg (gV gw_638 gw_640 gs_21 gw_7 gw_641) rfl rfl rfl (by decide +kernel) ⟨Nat.le_of_ble_eq_true rfl, Nat.le_of_ble_eq_true rfl⟩) ⟨fun a U g mk q => by obtain ⟨q0, qP, qK⟩ := q; exact ⟨q0, qP, va_K.moved (u := U) (U := U.calling g mk a) (Vm.Alike.refl U.vm) qK⟩, va_recv hKc hPc (ci := 5) (q0 := 0) rfl rfl, fun U hU hW => ⟨rfl, by rw [hU]; exact hPc, va_K.moved hW.alike hKc⟩⟩ rfl rfl hl.1 rfl (lv_room (Nat.le_of_ble_eq_true rfl)) d_M_readInterrupt_33 (⟨Nat.le_of_ble_eq_true rfl, Nat.le_of_ble_eq_true rfl⟩)) ?_
      refine lv_aload_n hx hb d_M_readInterrupt_36 rfl (lv_at hl 1 rfl) ?_
      refine lv_iconst (v := 1) hx hb d_M_readInterrupt_37 (by decide) ?_
      have hPc := hP.sub (ws' := [(y, .inr (5, [.int 0, .int (nI bi), .int (nI ne), .int (nI li), .int (nI sp), .int (nI q), .ref ms, .ref mw, .ref mu, .ref mc, .ref mn, .int en, .int (nI sz), .ref mr, .int (nI wa), .ref mq, .int la, .ref md, .int at0, .int lk])), (mw, .inl (cI, 2, .inl lw))]) [0, 1] rfl
      have hKc := hK.sub (tys' := [(cI, .int)]) [1] rfl
      refine pci (va_runV (As := [.int 1]) (rest := [.int (nI K), .ref y]) ⟨hx, hb, hml, hown, hg⟩ (c_M_limitFor1 l D y ms mw mu mc mn mr mq md bi ne li sp q sz wa 0 en la at0 lk cI lw rw hlw (by omega)) (cwV 1 hg (gV gw_642 gw_644 gs_22 gw_7 gw_645) rfl rfl rfl (by decide +kernel) ⟨Nat.le_of_ble_eq_true rfl, Nat.le_of_ble_eq_true rfl⟩) ⟨fun a U g mk q => by obtain ⟨q0, qP, qK⟩ := q; exact ⟨q0, qP, va_K.moved (u := U) (U := U.calling g mk a) (Vm.Alike.refl U.vm) qK⟩, va_recv hKc hPc (ci := 5) (q0 := 0) rfl rfl, fun U hU hW => ⟨rfl, by rw [hU]; exact hPc, va_K.moved hW.alike hKc⟩⟩ rfl rfl hl.1 rfl (lv_room (Nat.le_of_ble_eq_true rfl)) d_M_readInterrupt_38 (⟨Nat.le_of_ble_eq_true rfl, Nat.le_of_ble_eq_true rfl⟩)) ?_
      have hPc := hP.sub (ws' := [(y, .inr (5, [.int 0, .int (nI bi), .int (nI ne), .int (nI li), .int (nI sp), .int (nI q), .ref ms, .ref mw, .ref mu, .ref mc, .ref mn, .int en, .int (nI sz), .ref mr, .int (nI wa), .ref mq, .int la, .ref md, .int at0, .int lk])), (mq, .inl (cB, 1000, .inl wq))]) [0, 5] rfl
      have hDc := hD.sub (ws' := [(y, .inr (5, [.int 0, .int (nI bi), .int (nI ne), .int (nI li), .int (nI sp), .int (nI q), .ref ms, .ref mw, .ref mu, .ref mc, .ref mn, .int en, .int (nI sz), .ref mr, .int (nI wa), .ref mq, .int la, .ref md, .int at0, .int lk])), (mq, .inl (cB, 1000, .inl wq))]) [0, 5] (by decide) rfl
      have hKc := hK.sub (tys' := [(cB, .byte)]) [0] rfl
      refine mci (va_runV (As := [.int (nI K), .int (nI (li - 1 - rw))]) (rest := []) ⟨hx, hb, hml, hown, hg⟩ (c_M_lookG l D y ms mw mu mc mn mr mq md bi ne li sp q sz wa 0 en la at0 lk cB wq K (li - 1 - rw) z hwa (by omega) (by omega) (by omega) (by omega) hz1 hz2 hz3 hz4 hzm hw hzk) (cwV 2 hg (gV gw_674 gw_676 gs_25 gw_7 gw_677) rfl rfl rfl (by decide +kernel) ⟨Nat.le_of_ble_eq_true rfl, Nat.le_of_ble_eq_true rfl⟩) ⟨fun a U g mk q => by obtain ⟨q0, qP, qK, qD⟩ := q; exact ⟨q0, qP, va_K.moved (u := U) (U := U.calling g mk a) (Vm.Alike.refl U.vm) qK, qD⟩, va_recv hKc hPc (ci := 5) (q0 := 0) rfl rfl, fun U hU hW => ⟨rfl, by rw [hU]; exact hPc, va_K.moved hW.alike hKc, hDc.weaken (fun _ _ _ _ => trivial)⟩⟩ rfl rfl hl.1 rfl (lv_room (Nat.le_of_ble_eq_true rfl)) d_M_readInterrupt_41 (⟨Nat.le_of_ble_eq_true rfl, Nat.le_of_ble_eq_true rfl⟩)) hS hP hD [0, 5] rfl rfl rfl (fun H locs hP hD hS => ?_)
      have hP : va_P D CLS [(y, .inr (5, [.int 0, .int (nI bi), .int (nI ne), .int (nI li), .int (nI sp), .int (nI q), .ref ms, .ref mw, .ref mu, .ref mc, .ref mn, .int en, .int (nI sz), .ref mr, .int (nI wa), .ref mq, .int la, .ref md, .int (nI (z + 1 + tln q K (li - 1 - rw - q - 1) z)), .int 0])), (mw, .inl (cI, 2, .inl lw)), (mu, .inl (cI, 4, .inl su)), (mc, .inl (cI, 4, .inl cu)), (mn, .inl (cI, 4, .inl nu)), (mq, .inl (cB, 1000, .inl wq))] H := hP
      have hD : va_D A [(y, .inr (5, [.int 0, .int (nI bi), .int (nI ne), .int (nI li), .int (nI sp), .int (nI q), .ref ms, .ref mw, .ref mu, .ref mc, .ref mn, .int en, .int (nI sz), .ref mr, .int (nI wa), .ref mq, .int la, .ref md, .int (nI (z + 1 + tln q K (li - 1 - rw - q - 1) z)), .int 0])), (mw, .inl (cI, 2, .inl lw)), (mu, .inl (cI, 4, .inl su)), (mc, .inl (cI, 4, .inl cu)), (mn, .inl (cI, 4, .inl nu)), (mq, .inl (cB, 1000, .inl wq))] := hD
      refine tpi (y := nI N) (hN) ?_
      refine lv_istore_n (lv' := [(3, .int (nI N)), (2, .int 2), (0, .ref y), (1, .int 0)]) hx hb d_M_readInterrupt_44 rfl hl (by decide) rfl (fun ls hl => ?_)
      refine lv_iload_n hx hb d_M_readInterrupt_45 rfl (lv_at hl 0 rfl) ?_
      refine lv_iconst (v := (-1)) hx hb d_M_readInterrupt_46 (by decide) ?_
      refine lv_icmp_ne (tgt := 53) hx hb d_M_readInterrupt_47 (by decide) (fun c_3 => ?_) (fun c_3 => ?_)
      · skip
        refine lv_aload_n hx hb d_M_readInterrupt_53 rfl (lv_at hl 2 rfl) ?_
        refine lv_aload_n hx hb d_M_readInterrupt_54 rfl (lv_at hl 2 rfl) ?_
        refine va_get (D := D) (ci := 5) (v := .int (nI (z + 1 + tln q K (li - 1 - rw - q - 1) z))) (C := R_M) (T := T_M) (N := 20) hx hb hg in_M hown hK hP 0 rfl rfl 18 (by decide) (hg _ gw_542) (fun _ h9 => h9) rfl d_M_readInterrupt_55 ?_
        have hPc := hP.sub (ws' := [(y, .inr (5, [.int 0, .int (nI bi), .int (nI ne), .int (nI li), .int (nI sp), .int (nI q), .ref ms, .ref mw, .ref mu, .ref mc, .ref mn, .int en, .int (nI sz), .ref mr, .int (nI wa), .ref mq, .int la, .ref md, .int (nI (z + 1 + tln q K (li - 1 - rw - q - 1) z)), .int 0])), (mq, .inl (cB, 1000, .inl wq))]) [0, 5] rfl
        have hDc := hD.sub (ws' := [(y, .inr (5, [.int 0, .int (nI bi), .int (nI ne), .int (nI li), .int (nI sp), .int (nI q), .ref ms, .ref mw, .ref mu, .ref mc, .ref mn, .int en, .int (nI sz), .ref mr, .int (nI wa), .ref mq, .int la, .ref md, .int (nI (z + 1 + tln q K (li - 1 - rw - q - 1) z)), .int 0])), (mq, .inl (cB, 1000, .inl wq))]) [0, 5] (by decide) rfl
        have hKc := hK.sub (tys' := [(cB, .byte)]) [0] rfl
        refine mcv (va_runV (As := [.int (nI (z + 1 + tln q K (li - 1 - rw - q - 1) z))]) (rest := []) ⟨hx, hb, hml, hown, hg⟩ (c_M_go l D y ms mw mu mc mn mr mq md bi ne li sp q sz wa 0 en la (nI (z + 1 + tln q K (li - 1 - rw - q - 1) z)) 0 cB wq (z + 1 + tln q K (li - 1 - rw - q - 1) z) hwa (by omega) hqb) (cwV 1 hg (gV gw_686 gw_688 gs_28 gw_7 gw_689) rfl rfl rfl (by decide +kernel) ⟨Nat.le_of_ble_eq_true rfl, Nat.le_of_ble_eq_true rfl⟩) ⟨fun a U g mk q => by obtain ⟨q0, qP, qK, qD⟩ := q; exact ⟨q0, qP, va_K.moved (u := U) (U := U.calling g mk a) (Vm.Alike.refl U.vm) qK, qD⟩, va_recv hKc hPc (ci := 5) (q0 := 0) rfl rfl, fun U hU hW => ⟨rfl, by rw [hU]; exact hPc, va_K.moved hW.alike hKc, hDc.weaken (fun _ _ _ _ => trivial)⟩⟩ rfl rfl hl.1 rfl (lv_room (Nat.le_of_ble_eq_true rfl)) d_M_readInterrupt_58 (⟨Nat.le_of_ble_eq_true rfl, Nat.le_of_ble_eq_true rfl⟩)) hS hP hD [0, 5] rfl rfl rfl (fun H locs hP hD hS => ?_)
        have hP : va_P D CLS [(y, .inr (5, [.int 0, .int (nI bi), .int (nI ne), .int (nI li), .int (nI sp), .int (nI q), .ref ms, .ref mw, .ref mu, .ref mc, .ref mn, .int en, .int (nI sz), .ref mr, .int (nI (wa - (z + 1 + tln q K (li - 1 - rw - q - 1) z))), .ref mq, .int la, .ref md, .int (nI (z + 1 + tln q K (li - 1 - rw - q - 1) z)), .int 0])), (mw, .inl (cI, 2, .inl lw)), (mu, .inl (cI, 4, .inl su)), (mc, .inl (cI, 4, .inl cu)), (mn, .inl (cI, 4, .inl nu)), (mq, .inl (cB, 1000, .inl (gof wq (z + 1 + tln q K (li - 1 - rw - q - 1) z) (wa - (z + 1 + tln q K (li - 1 - rw - q - 1) z)))))] H := hP
        have hD : va_D A [(y, .inr (5, [.int 0, .int (nI bi), .int (nI ne), .int (nI li), .int (nI sp), .int (nI q), .ref ms, .ref mw, .ref mu, .ref mc, .ref mn, .int en, .int (nI sz), .ref mr, .int (nI (wa - (z + 1 + tln q K (li - 1 - rw - q - 1) z))), .ref mq, .int la, .ref md, .int (nI (z + 1 + tln q K (li - 1 - rw - q - 1) z)), .int 0])), (mw, .inl (cI, 2, .inl lw)), (mu, .inl (cI, 4, .inl su)), (mc, .inl (cI, 4, .inl cu)), (mn, .inl (cI, 4, .inl nu)), (mq, .inl (cB, 1000, .inl (gof wq (z + 1 + tln q K (li - 1 - rw - q - 1) z) (wa - (z + 1 + tln q K (li - 1 - rw - q - 1) z)))))] := hD
        refine lv_iload_n hx hb d_M_readInterrupt_61 rfl (lv_at hl 0 rfl) ?_
        refine lv_bipush (v := (-2)) hx hb d_M_readInterrupt_62 (by decide) ?_
        refine lv_icmp_ne (tgt := 70) hx hb d_M_readInterrupt_64 (by decide) (fun c_4 => ?_) (fun c_4 => ?_)
        · skip
          refine lv_iload_n hx hb d_M_readInterrupt_70 rfl (lv_at hl 0 rfl) ?_
          refine lv_iload_n hx hb d_M_readInterrupt_71 rfl (lv_at hl 3 rfl) ?_
          refine lv_iadd hx hb d_M_readInterrupt_72 ?_
          refine tpi (y := nI (N + 0)) (nI_add _ 0) ?_
          refine lv_iconst (v := 2) hx hb d_M_readInterrupt_73 (by decide) ?_
          refine lv_irem hx hb d_M_readInterrupt_74 (by decide) ?_
          refine tpi (y := nI ((N + 0) % 2)) (rem2 (by omega)) ?_
          refine lv_iconst (v := 1) hx hb d_M_readInterrupt_75 (by decide) ?_
          refine lv_icmp_ne (tgt := 83) hx hb d_M_readInterrupt_76 (by decide) (fun c_5 => ?_) (fun c_5 => ?_)
          · skip
            have hodd : ¬ (N + 0) % 2 = 1 := fun q9 => c_5 (by rw [q9]; rfl)
            refine lv_iconst (v := 0) hx hb d_M_readInterrupt_83 (by decide) ?_
            refine lv_istore (lv' := [(4, .int 0), (3, .int (nI N)), (2, .int 2), (0, .ref y), (1, .int 0)]) hx hb d_M_readInterrupt_84 hl (by decide) rfl (fun ls hl => ?_)
            refine lv_iload_n hx hb d_M_readInterrupt_86 rfl (lv_at hl 1 rfl) ?_
            refine lv_iload_n hx hb d_M_readInterrupt_87 rfl (lv_at hl 4 rfl) ?_
            refine lv_iadd hx hb d_M_readInterrupt_88 ?_
            refine tpi (y := nI (N + 0)) (nI_add _ 0) ?_
            refine lv_iload hx hb d_M_readInterrupt_89 (lv_at hl 0 rfl) ?_
            refine lv_if_eq (tgt := 98) hx hb d_M_readInterrupt_91 (by decide) (fun c_6 => ?_) (fun c_6 => ?_)
            · skip
              refine lv_iconst (v := 0) hx hb d_M_readInterrupt_98 (by decide) ?_
              refine lv_iadd hx hb d_M_readInterrupt_99 ?_
              refine tpi (y := nI (N + 0 + 0)) (nI_add _ 0) ?_
              refine lv_iconst (v := 2) hx hb d_M_readInterrupt_100 (by decide) ?_
              refine lv_idiv hx hb d_M_readInterrupt_101 (by decide) ?_
              refine tpi (y := nI ((N + 0 + 1) / 2)) ((div2 (by omega)).trans (congrArg nI (by omega))) ?_
              refine lv_istore (lv' := [(5, .int (nI ((N + 0 + 1) / 2))), (4, .int 0), (3, .int (nI N)), (2, .int 2), (0, .ref y), (1, .int 0)]) hx hb d_M_readInterrupt_102 hl (by decide) rfl (fun ls hl => ?_)
              refine lv_aload_n hx hb d_M_readInterrupt_104 rfl (lv_at hl 4 rfl) ?_
              refine lv_iload_n hx hb d_M_readInterrupt_105 rfl (lv_at hl 3 rfl) ?_
              have hPc := hP.sub (ws' := [(y, .inr (5, [.int 0, .int (nI bi), .int (nI ne), .int (nI li), .int (nI sp), .int (nI q), .ref ms, .ref mw, .ref mu, .ref mc, .ref mn, .int en, .int (nI sz), .ref mr, .int (nI (wa - (z + 1 + tln q K (li - 1 - rw - q - 1) z))), .ref mq, .int la, .ref md, .int (nI (z + 1 + tln q K (li - 1 - rw - q - 1) z)), .int 0])), (mu, .inl (cI, 4, .inl su)), (mc, .inl (cI, 4, .inl cu)), (mn, .inl (cI, 4, .inl nu))]) [0, 2, 3, 4] rfl
              have hKc := hK.sub (tys' := [(cI, .int)]) [1] rfl
              refine pci (va_runV (As := [.int 2]) (rest := []) ⟨hx, hb, hml, hown, hg⟩ (c_M_isUp2 l D y ms mw mu mc mn mr mq md bi ne li sp q sz (wa - (z + 1 + tln q K (li - 1 - rw - q - 1) z)) 0 en la (nI (z + 1 + tln q K (li - 1 - rw - q - 1) z)) 0 cI su cu nu sm ct ng K hsu hcu hnu hc0 hn0 (by omega) hKb hK1 hK2) (cwV 1 hg (gV gw_634 gw_636 gs_20 gw_7 gw_637) rfl rfl rfl (by decide +kernel) ⟨Nat.le_of_ble_eq_true rfl, Nat.le_of_ble_eq_true rfl⟩) ⟨fun a U g mk q => by obtain ⟨q0, qP, qK⟩ := q; exact ⟨q0, qP, va_K.moved (u := U) (U := U.calling g mk a) (Vm.Alike.refl U.vm) qK⟩, va_recv hKc hPc (ci := 5) (q0 := 0) rfl rfl, fun U hU hW => ⟨rfl, by rw [hU]; exact hPc, va_K.moved hW.alike hKc⟩⟩ rfl rfl hl.1 rfl (lv_room (Nat.le_of_ble_eq_true rfl)) d_M_readInterrupt_106 (⟨Nat.le_of_ble_eq_true rfl, Nat.le_of_ble_eq_true rfl⟩)) ?_
              by_cases hup : (K = 0 ∧ 2 * ng < ct)
              · skip
                refine tpi (y := 1) (if_pos hup) ?_
                have hcn : ¬ ((N + 0) % 2 = 1 ↔ (K = 0 ∧ 2 * ng < ct)) := fun q9 => hodd (q9.mpr hup)
                refine lv_iload hx hb d_M_readInterrupt_109 (lv_at hl 1 rfl) ?_
                refine lv_icmp_ne (tgt := 119) hx hb d_M_readInterrupt_111 (by decide) (fun c_7 => ?_) (fun c_7 => ?_)
                · skip
                  refine lv_iload hx hb d_M_readInterrupt_119 (lv_at hl 0 rfl) ?_
                  refine lv_ineg hx hb d_M_readInterrupt_121 ?_
                  refine lv_istore (lv' := [(6, .int (-(nI ((N + 0 + 1) / 2)))), (5, .int (nI ((N + 0 + 1) / 2))), (4, .int 0), (3, .int (nI N)), (2, .int 2), (0, .ref y), (1, .int 0)]) hx hb d_M_readInterrupt_122 hl (by decide) rfl (fun ls hl => ?_)
                  refine lv_aload_n hx hb d_M_readInterrupt_124 rfl (lv_at hl 5 rfl) ?_
                  refine lv_iload_n hx hb d_M_readInterrupt_125 rfl (lv_at hl 6 rfl) ?_
                  refine lv_iload hx hb d_M_readInterrupt_126 (lv_at hl 0 rfl) ?_
                  have hPc := hP.sub (ws' := [(y, .inr (5, [.int 0, .int (nI bi), .int (nI ne), .int (nI li), .int (nI sp), .int (nI q), .ref ms, .ref mw, .ref mu, .ref mc, .ref mn, .int en, .int (nI sz), .ref mr, .int (nI (wa - (z + 1 + tln q K (li - 1 - rw - q - 1) z))), .ref mq, .int la, .ref md, .int (nI (z + 1 + tln q K (li - 1 - rw - q - 1) z)), .int 0]))]) [0] rfl
                  have hKc := hK.sub (tys' := []) [] rfl
                  refine pci (va_runV (As := [.int 0, .int (-(nI ((N + 0 + 1) / 2)))]) (rest := []) ⟨hx, hb, hml, hown, hg⟩ (c_M_isError l D y ms mw mu mc mn mr mq md bi ne li sp q sz (wa - (z + 1 + tln q K (li - 1 - rw - q - 1) z)) 0 en la (nI (z + 1 + tln q K (li - 1 - rw - q - 1) z)) 0 0 (-nI ((N + 0 + 1) / 2)) (by omega)) (cwV 2 hg (gV gw_630 gw_632 gs_19 gw_7 gw_633) rfl rfl rfl (by decide +kernel) ⟨Nat.le_of_ble_eq_true rfl, Nat.le_of_ble_eq_true rfl⟩) ⟨fun a U g mk q => by obtain ⟨q0, qP, qK⟩ := q; exact ⟨q0, qP, va_K.moved (u := U) (U := U.calling g mk a) (Vm.Alike.refl U.vm) qK⟩, va_recv hKc hPc (ci := 5) (q0 := 0) rfl rfl, fun U hU hW => ⟨rfl, by rw [hU]; exact hPc, va_K.moved hW.alike hKc⟩⟩ rfl rfl hl.1 rfl (lv_room (Nat.le_of_ble_eq_true rfl)) d_M_readInterrupt_128 (⟨Nat.le_of_ble_eq_true rfl, Nat.le_of_ble_eq_true rfl⟩)) ?_
                  refine tpi (y := 1) (if_pos ⟨by rw [ngT (by omega)]; omega, by rw [ngT (by omega)]; omega, Or.inr rfl⟩) ?_
                  refine lv_if_ne (tgt := 137) hx hb d_M_readInterrupt_131 (by decide) (fun c_8 => ?_) (fun c_8 => ?_)
                  · skip
                    refine lv_aload_n hx hb d_M_readInterrupt_137 rfl (lv_at hl 5 rfl) ?_
                    refine lv_iload_n hx hb d_M_readInterrupt_138 rfl (lv_at hl 4 rfl) ?_
                    refine lv_iload_n hx hb d_M_readInterrupt_139 rfl (lv_at hl 6 rfl) ?_
                    refine lv_iload_n hx hb d_M_readInterrupt_140 rfl (lv_at hl 3 rfl) ?_
                    refine lv_iload hx hb d_M_readInterrupt_141 (lv_at hl 0 rfl) ?_
                    have hPc := hP.sub (ws' := [(y, .inr (5, [.int 0, .int (nI bi), .int (nI ne), .int (nI li), .int (nI sp), .int (nI q), .ref ms, .ref mw, .ref mu, .ref mc, .ref mn, .int en, .int (nI sz), .ref mr, .int (nI (wa - (z + 1 + tln q K (li - 1 - rw - q - 1) z))), .ref mq, .int la, .ref md, .int (nI (z + 1 + tln q K (li - 1 - rw - q - 1) z)), .int 0])), (mu, .inl (cI, 4, .inl su)), (mc, .inl (cI, 4, .inl cu)), (mn, .inl (cI, 4, .inl nu))]) [0, 2, 3, 4] rfl
                    have hDc := hD.sub (ws' := [(y, .inr (5, [.int 0, .int (nI bi), .int (nI ne), .int (nI li), .int (nI sp), .int (nI q), .ref ms, .ref mw, .ref mu, .ref mc, .ref mn, .int en, .int (nI sz), .ref mr, .int (nI (wa - (z + 1 + tln q K (li - 1 - rw - q - 1) z))), .ref mq, .int la, .ref md, .int (nI (z + 1 + tln q K (li - 1 - rw - q - 1) z)), .int 0])), (mu, .inl (cI, 4, .inl su)), (mc, .inl (cI, 4, .inl cu)), (mn, .inl (cI, 4, .inl nu))]) [0, 2, 3, 4] (by decide) rfl
                    have hKc := hK.sub (tys' := [(cI, .int)]) [1] rfl
                    refine mcv (va_runV (As := [.int 2, .int 0, .int (nI N), .int (-(nI ((N + 0 + 1) / 2)))]) (rest := []) ⟨hx, hb, hml, hown, hg⟩ (c_M_learn2N l D y ms mw mu mc mn mr mq md bi ne li sp q sz (wa - (z + 1 + tln q K (li - 1 - rw - q - 1) z)) 0 en la (nI (z + 1 + tln q K (li - 1 - rw - q - 1) z)) 0 cI su cu nu sm ct ng ((N + 0 + 1) / 2) N hsu hcu hnu hc0 hn0 hs0 (by omega) (by omega) hn1) (cwV 4 hg (gV gw_646 gw_648 gs_23 gw_7 gw_649) rfl rfl rfl (by decide +kernel) ⟨Nat.le_of_ble_eq_true rfl, Nat.le_of_ble_eq_true rfl⟩) ⟨fun a U g mk q => by obtain ⟨q0, qP, qK, qD⟩ := q; exact ⟨q0, qP, va_K.moved (u := U) (U := U.calling g mk a) (Vm.Alike.refl U.vm) qK, qD⟩, va_recv hKc hPc (ci := 5) (q0 := 0) rfl rfl, fun U hU hW => ⟨rfl, by rw [hU]; exact hPc, va_K.moved hW.alike hKc, hDc.weaken (fun _ _ _ _ => trivial)⟩⟩ rfl rfl hl.1 rfl (lv_room (Nat.le_of_ble_eq_true rfl)) d_M_readInterrupt_143 (⟨Nat.le_of_ble_eq_true rfl, Nat.le_of_ble_eq_true rfl⟩)) hS hP hD [0, 2, 3, 4] rfl rfl rfl (fun H locs hP hD hS => ?_)
                    have hP : va_P D CLS [(y, .inr (5, [.int 0, .int (nI bi), .int (nI ne), .int (nI li), .int (nI sp), .int (nI q), .ref ms, .ref mw, .ref mu, .ref mc, .ref mn, .int en, .int (nI sz), .ref mr, .int (nI (wa - (z + 1 + tln q K (li - 1 - rw - q - 1) z))), .ref mq, .int la, .ref md, .int (nI (z + 1 + tln q K (li - 1 - rw - q - 1) z)), .int 0])), (mw, .inl (cI, 2, .inl lw)), (mu, .inl (cI, 4, .inl (upd su 2 (nI (hvd ct (sm + (N + 1 - 0) / 2)))))), (mc, .inl (cI, 4, .inl (upd cu 2 (nI (hvd ct ct + 1))))), (mn, .inl (cI, 4, .inl (upd nu 2 (nI (hvd ct (ng + 1)))))), (mq, .inl (cB, 1000, .inl (gof wq (z + 1 + tln q K (li - 1 - rw - q - 1) z) (wa - (z + 1 + tln q K (li - 1 - rw - q - 1) z)))))] H := hP
                    have hD : va_D A [(y, .inr (5, [.int 0, .int (nI bi), .int (nI ne), .int (nI li), .int (nI sp), .int (nI q), .ref ms, .ref mw, .ref mu, .ref mc, .ref mn, .int en, .int (nI sz), .ref mr, .int (nI (wa - (z + 1 + tln q K (li - 1 - rw - q - 1) z))), .ref mq, .int la, .ref md, .int (nI (z + 1 + tln q K (li - 1 - rw - q - 1) z)), .int 0])), (mw, .inl (cI, 2, .inl lw)), (mu, .inl (cI, 4, .inl (upd su 2 (nI (hvd ct (sm + (N + 1 - 0) / 2)))))), (mc, .inl (cI, 4, .inl (upd cu 2 (nI (hvd ct ct + 1))))), (mn, .inl (cI, 4, .inl (upd nu 2 (nI (hvd ct (ng + 1)))))), (mq, .inl (cB, 1000, .inl (gof wq (z + 1 + tln q K (li - 1 - rw - q - 1) z) (wa - (z + 1 + tln q K (li - 1 - rw - q - 1) z)))))] := hD
                    refine lv_iload hx hb d_M_readInterrupt_146 (lv_at hl 0 rfl) ?_
                    exact W.iret (v := -(nI ((N + 0 + 1) / 2))) hx hb hr (fun t ht hW => ⟨rfl, by rw [ht]; exact hP, (hAe ▸ hS).F ht⟩) (hAe ▸ hS).2.2 d_M_readInterrupt_148
                  · skip
                    exact absurd c_8 (by decide)
                · skip
                  exact absurd c_7 (by decide)
              · skip
                refine tpi (y := 0) (if_neg hup) ?_
                have hcn : ((N + 0) % 2 = 1 ↔ (K = 0 ∧ 2 * ng < ct)) := ⟨fun q9 => absurd q9 hodd, fun q9 => absurd q9 hup⟩
                refine lv_iload hx hb d_M_readInterrupt_109 (lv_at hl 1 rfl) ?_
                refine lv_icmp_ne (tgt := 119) hx hb d_M_readInterrupt_111 (by decide) (fun c_9 => ?_) (fun c_9 => ?_)
                · skip
                  exact absurd rfl c_9
                · skip
                  exact absurd hcn hs2
            · skip
              exact absurd rfl c_6
          · skip
            have hodd : (N + 0) % 2 = 1 := (nI_eq (b := 1) (by omega) (by omega)).mp c_5
            refine lv_iconst (v := 1) hx hb d_M_readInterrupt_79 (by decide) ?_
            refine lv_goto (tgt := 84) hx hb d_M_readInterrupt_80 (by decide) ?_
            refine lv_istore (lv' := [(4, .int 1), (3, .int (nI N)), (2, .int 2), (0, .ref y), (1, .int 0)]) hx hb d_M_readInterrupt_84 hl (by decide) rfl (fun ls hl => ?_)
            refine lv_iload_n hx hb d_M_readInterrupt_86 rfl (lv_at hl 1 rfl) ?_
            refine lv_iload_n hx hb d_M_readInterrupt_87 rfl (lv_at hl 4 rfl) ?_
            refine lv_iadd hx hb d_M_readInterrupt_88 ?_
            refine tpi (y := nI (N + 0)) (nI_add _ 0) ?_
            refine lv_iload hx hb d_M_readInterrupt_89 (lv_at hl 0 rfl) ?_
            refine lv_if_eq (tgt := 98) hx hb d_M_readInterrupt_91 (by decide) (fun c_10 => ?_) (fun c_10 => ?_)
            · skip
              exact absurd c_10 (by decide)
            · skip
              refine lv_iconst (v := 1) hx hb d_M_readInterrupt_94 (by decide) ?_
              refine lv_goto (tgt := 99) hx hb d_M_readInterrupt_95 (by decide) ?_
              refine lv_iadd hx hb d_M_readInterrupt_99 ?_
              refine tpi (y := nI (N + 0 + 1)) (nI_add _ 1) ?_
              refine lv_iconst (v := 2) hx hb d_M_readInterrupt_100 (by decide) ?_
              refine lv_idiv hx hb d_M_readInterrupt_101 (by decide) ?_
              refine tpi (y := nI ((N + 0 + 1) / 2)) ((div2 (by omega)).trans (congrArg nI (by omega))) ?_
              refine lv_istore (lv' := [(5, .int (nI ((N + 0 + 1) / 2))), (4, .int 1), (3, .int (nI N)), (2, .int 2), (0, .ref y), (1, .int 0)]) hx hb d_M_readInterrupt_102 hl (by decide) rfl (fun ls hl => ?_)
              refine lv_aload_n hx hb d_M_readInterrupt_104 rfl (lv_at hl 4 rfl) ?_
              refine lv_iload_n hx hb d_M_readInterrupt_105 rfl (lv_at hl 3 rfl) ?_
              have hPc := hP.sub (ws' := [(y, .inr (5, [.int 0, .int (nI bi), .int (nI ne), .int (nI li), .int (nI sp), .int (nI q), .ref ms, .ref mw, .ref mu, .ref mc, .ref mn, .int en, .int (nI sz), .ref mr, .int (nI (wa - (z + 1 + tln q K (li - 1 - rw - q - 1) z))), .ref mq, .int la, .ref md, .int (nI (z + 1 + tln q K (li - 1 - rw - q - 1) z)), .int 0])), (mu, .inl (cI, 4, .inl su)), (mc, .inl (cI, 4, .inl cu)), (mn, .inl (cI, 4, .inl nu))]) [0, 2, 3, 4] rfl
              have hKc := hK.sub (tys' := [(cI, .int)]) [1] rfl
              refine pci (va_runV (As := [.int 2]) (rest := []) ⟨hx, hb, hml, hown, hg⟩ (c_M_isUp2 l D y ms mw mu mc mn mr mq md bi ne li sp q sz (wa - (z + 1 + tln q K (li - 1 - rw - q - 1) z)) 0 en la (nI (z + 1 + tln q K (li - 1 - rw - q - 1) z)) 0 cI su cu nu sm ct ng K hsu hcu hnu hc0 hn0 (by omega) hKb hK1 hK2) (cwV 1 hg (gV gw_634 gw_636 gs_20 gw_7 gw_637) rfl rfl rfl (by decide +kernel) ⟨Nat.le_of_ble_eq_true rfl, Nat.le_of_ble_eq_true rfl⟩) ⟨fun a U g mk q => by obtain ⟨q0, qP, qK⟩ := q; exact ⟨q0, qP, va_K.moved (u := U) (U := U.calling g mk a) (Vm.Alike.refl U.vm) qK⟩, va_recv hKc hPc (ci := 5) (q0 := 0) rfl rfl, fun U hU hW => ⟨rfl, by rw [hU]; exact hPc, va_K.moved hW.alike hKc⟩⟩ rfl rfl hl.1 rfl (lv_room (Nat.le_of_ble_eq_true rfl)) d_M_readInterrupt_106 (⟨Nat.le_of_ble_eq_true rfl, Nat.le_of_ble_eq_true rfl⟩)) ?_
              by_cases hup : (K = 0 ∧ 2 * ng < ct)
              · skip
                refine tpi (y := 1) (if_pos hup) ?_
                have hcn : ((N + 0) % 2 = 1 ↔ (K = 0 ∧ 2 * ng < ct)) := ⟨fun _ => hup, fun _ => hodd⟩
                refine lv_iload hx hb d_M_readInterrupt_109 (lv_at hl 1 rfl) ?_
                refine lv_icmp_ne (tgt := 119) hx hb d_M_readInterrupt_111 (by decide) (fun c_11 => ?_) (fun c_11 => ?_)
                · skip
                  exact absurd rfl c_11
                · skip
                  exact absurd hcn hs2
              · skip
                refine tpi (y := 0) (if_neg hup) ?_
                have hcn : ¬ ((N + 0) % 2 = 1 ↔ (K = 0 ∧ 2 * ng < ct)) := fun q9 => hup (q9.mp hodd)
                refine lv_iload hx hb d_M_readInterrupt_109 (lv_at hl 1 rfl) ?_
                refine lv_icmp_ne (tgt := 119) hx hb d_M_readInterrupt_111 (by decide) (fun c_12 => ?_) (fun c_12 => ?_)
                · skip
                  refine lv_iload hx hb d_M_readInterrupt_119 (lv_at hl 0 rfl) ?_
                  refine lv_ineg hx hb d_M_readInterrupt_121 ?_
                  refine lv_istore (lv' := [(6, .int (-(nI ((N + 0 + 1) / 2)))), (5, .int (nI ((N + 0 + 1) / 2))), (4, .int 1), (3, .int (nI N)), (2, .int 2), (0, .ref y), (1, .int 0)]) hx hb d_M_readInterrupt_122 hl (by decide) rfl (fun ls hl => ?_)
                  refine lv_aload_n hx hb d_M_readInterrupt_124 rfl (lv_at hl 5 rfl) ?_
                  refine lv_iload_n hx hb d_M_readInterrupt_125 rfl (lv_at hl 6 rfl) ?_
                  refine lv_iload hx hb d_M_readInterrupt_126 (lv_at hl 0 rfl) ?_
                  have hPc := hP.sub (ws' := [(y, .inr (5, [.int 0, .int (nI bi), .int (nI ne), .int (nI li), .int (nI sp), .int (nI q), .ref ms, .ref mw, .ref mu, .ref mc, .ref mn, .int en, .int (nI sz), .ref mr, .int (nI (wa - (z + 1 + tln q K (li - 1 - rw - q - 1) z))), .ref mq, .int la, .ref md, .int (nI (z + 1 + tln q K (li - 1 - rw - q - 1) z)), .int 0]))]) [0] rfl
                  have hKc := hK.sub (tys' := []) [] rfl
                  refine pci (va_runV (As := [.int 0, .int (-(nI ((N + 0 + 1) / 2)))]) (rest := []) ⟨hx, hb, hml, hown, hg⟩ (c_M_isError l D y ms mw mu mc mn mr mq md bi ne li sp q sz (wa - (z + 1 + tln q K (li - 1 - rw - q - 1) z)) 0 en la (nI (z + 1 + tln q K (li - 1 - rw - q - 1) z)) 0 0 (-nI ((N + 0 + 1) / 2)) (by omega)) (cwV 2 hg (gV gw_630 gw_632 gs_19 gw_7 gw_633) rfl rfl rfl (by decide +kernel) ⟨Nat.le_of_ble_eq_true rfl, Nat.le_of_ble_eq_true rfl⟩) ⟨fun a U g mk q => by obtain ⟨q0, qP, qK⟩ := q; exact ⟨q0, qP, va_K.moved (u := U) (U := U.calling g mk a) (Vm.Alike.refl U.vm) qK⟩, va_recv hKc hPc (ci := 5) (q0 := 0) rfl rfl, fun U hU hW => ⟨rfl, by rw [hU]; exact hPc, va_K.moved hW.alike hKc⟩⟩ rfl rfl hl.1 rfl (lv_room (Nat.le_of_ble_eq_true rfl)) d_M_readInterrupt_128 (⟨Nat.le_of_ble_eq_true rfl, Nat.le_of_ble_eq_true rfl⟩)) ?_
                  refine tpi (y := 1) (if_pos ⟨by rw [ngT (by omega)]; omega, by rw [ngT (by omega)]; omega, Or.inr rfl⟩) ?_
                  refine lv_if_ne (tgt := 137) hx hb d_M_readInterrupt_131 (by decide) (fun c_13 => ?_) (fun c_13 => ?_)
                  · skip
                    refine lv_aload_n hx hb d_M_readInterrupt_137 rfl (lv_at hl 5 rfl) ?_
                    refine lv_iload_n hx hb d_M_readInterrupt_138 rfl (lv_at hl 4 rfl) ?_
                    refine lv_iload_n hx hb d_M_readInterrupt_139 rfl (lv_at hl 6 rfl) ?_
                    refine lv_iload_n hx hb d_M_readInterrupt_140 rfl (lv_at hl 3 rfl) ?_
                    refine lv_iload hx hb d_M_readInterrupt_141 (lv_at hl 0 rfl) ?_
                    have hPc := hP.sub (ws' := [(y, .inr (5, [.int 0, .int (nI bi), .int (nI ne), .int (nI li), .int (nI sp), .int (nI q), .ref ms, .ref mw, .ref mu, .ref mc, .ref mn, .int en, .int (nI sz), .ref mr, .int (nI (wa - (z + 1 + tln q K (li - 1 - rw - q - 1) z))), .ref mq, .int la, .ref md, .int (nI (z + 1 + tln q K (li - 1 - rw - q - 1) z)), .int 0])), (mu, .inl (cI, 4, .inl su)), (mc, .inl (cI, 4, .inl cu)), (mn, .inl (cI, 4, .inl nu))]) [0, 2, 3, 4] rfl
                    have hDc := hD.sub (ws' := [(y, .inr (5, [.int 0, .int (nI bi), .int (nI ne), .int (nI li), .int (nI sp), .int (nI q), .ref ms, .ref mw, .ref mu, .ref mc, .ref mn, .int en, .int (nI sz), .ref mr, .int (nI (wa - (z + 1 + tln q K (li - 1 - rw - q - 1) z))), .ref mq, .int la, .ref md, .int (nI (z + 1 + tln q K (li - 1 - rw - q - 1) z)), .int 0])), (mu, .inl (cI, 4, .inl su)), (mc, .inl (cI, 4, .inl cu)), (mn, .inl (cI, 4, .inl nu))]) [0, 2, 3, 4] (by decide) rfl
                    have hKc := hK.sub (tys' := [(cI, .int)]) [1] rfl
                    refine mcv (va_runV (As := [.int 2, .int 0, .int (nI N), .int (-(nI ((N + 0 + 1) / 2)))]) (rest := []) ⟨hx, hb, hml, hown, hg⟩ (c_M_learn2N l D y ms mw mu mc mn mr mq md bi ne li sp q sz (wa - (z + 1 + tln q K (li - 1 - rw - q - 1) z)) 0 en la (nI (z + 1 + tln q K (li - 1 - rw - q - 1) z)) 0 cI su cu nu sm ct ng ((N + 0 + 1) / 2) N hsu hcu hnu hc0 hn0 hs0 (by omega) (by omega) hn1) (cwV 4 hg (gV gw_646 gw_648 gs_23 gw_7 gw_649) rfl rfl rfl (by decide +kernel) ⟨Nat.le_of_ble_eq_true rfl, Nat.le_of_ble_eq_true rfl⟩) ⟨fun a U g mk q => by obtain ⟨q0, qP, qK, qD⟩ := q; exact ⟨q0, qP, va_K.moved (u := U) (U := U.calling g mk a) (Vm.Alike.refl U.vm) qK, qD⟩, va_recv hKc hPc (ci := 5) (q0 := 0) rfl rfl, fun U hU hW => ⟨rfl, by rw [hU]; exact hPc, va_K.moved hW.alike hKc, hDc.weaken (fun _ _ _ _ => trivial)⟩⟩ rfl rfl hl.1 rfl (lv_room (Nat.le_of_ble_eq_true rfl)) d_M_readInterrupt_143 (⟨Nat.le_of_ble_eq_true rfl, Nat.le_of_ble_eq_true rfl⟩)) hS hP hD [0, 2, 3, 4] rfl rfl rfl (fun H locs hP hD hS => ?_)
                    have hP : va_P D CLS [(y, .inr (5, [.int 0, .int (nI bi), .int (nI ne), .int (nI li), .int (nI sp), .int (nI q), .ref ms, .ref mw, .ref mu, .ref mc, .ref mn, .int en, .int (nI sz), .ref mr, .int (nI (wa - (z + 1 + tln q K (li - 1 - rw - q - 1) z))), .ref mq, .int la, .ref md, .int (nI (z + 1 + tln q K (li - 1 - rw - q - 1) z)), .int 0])), (mw, .inl (cI, 2, .inl lw)), (mu, .inl (cI, 4, .inl (upd su 2 (nI (hvd ct (sm + (N + 1 - 0) / 2)))))), (mc, .inl (cI, 4, .inl (upd cu 2 (nI (hvd ct ct + 1))))), (mn, .inl (cI, 4, .inl (upd nu 2 (nI (hvd ct (ng + 1)))))), (mq, .inl (cB, 1000, .inl (gof wq (z + 1 + tln q K (li - 1 - rw - q - 1) z) (wa - (z + 1 + tln q K (li - 1 - rw - q - 1) z)))))] H := hP
                    have hD : va_D A [(y, .inr (5, [.int 0, .int (nI bi), .int (nI ne), .int (nI li), .int (nI sp), .int (nI q), .ref ms, .ref mw, .ref mu, .ref mc, .ref mn, .int en, .int (nI sz), .ref mr, .int (nI (wa - (z + 1 + tln q K (li - 1 - rw - q - 1) z))), .ref mq, .int la, .ref md, .int (nI (z + 1 + tln q K (li - 1 - rw - q - 1) z)), .int 0])), (mw, .inl (cI, 2, .inl lw)), (mu, .inl (cI, 4, .inl (upd su 2 (nI (hvd ct (sm + (N + 1 - 0) / 2)))))), (mc, .inl (cI, 4, .inl (upd cu 2 (nI (hvd ct ct + 1))))), (mn, .inl (cI, 4, .inl (upd nu 2 (nI (hvd ct (ng + 1)))))), (mq, .inl (cB, 1000, .inl (gof wq (z + 1 + tln q K (li - 1 - rw - q - 1) z) (wa - (z + 1 + tln q K (li - 1 - rw - q - 1) z)))))] := hD
                    refine lv_iload hx hb d_M_readInterrupt_146 (lv_at hl 0 rfl) ?_
                    exact W.iret (v := -(nI ((N + 0 + 1) / 2))) hx hb hr (fun t ht hW => ⟨rfl, by rw [ht]; exact hP, (hAe ▸ hS).F ht⟩) (hAe ▸ hS).2.2 d_M_readInterrupt_148
                  · skip
                    exact absurd c_13 (by decide)
                · skip
                  exact absurd c_12 (by decide)
        · skip
          exact absurd c_4 (nm2 (by omega))
      · skip
        exact absurd c_3 (nm1 (by omega))
    · skip
      exact absurd (by decide) c_2
set_option maxHeartbeats 4000000 in
set_option maxRecDepth 100000 in
theorem c_M_readInterrupt1N (l : Launch) (D : va_G) (y ms mw mu mc mn mr mq md bi ne li sp q sz wa : Nat) (th en la at0 lk : Int32) (cB cI : ClassId) (lw su cu nu wq : Nat → Int32) (rw sm ct ng K z : Nat) (hlw : lw 1 = nI rw) (hsu : su 3 = nI sm) (hcu : cu 3 = nI ct) (hnu : nu 3 = nI ng) (hwa : wa ≤ 1000) (hqb : ∀ j, j < wa → wq j = 0 ∨ wq j = 1) (hc0 : ct ≤ 64) (hn0 : ng ≤ 64) (hs0 : sm < 2 ^ 29) (hKb : K ≤ 29) (hK1 : sm + ct / 2 ≤ ct * 2 ^ K) (hK2 : ∀ j, j < K → ct * 2 ^ j < sm + ct / 2) (hsp : sp ≤ 65536) (hq : q ≤ 29) (hli : q + 18 ≤ li) (hlb : li ≤ 200) (hrw : rw ≤ 15) (hz1 : z ≤ (li - 1 - rw - q - 1) + 1) (hz2 : z ≤ wa) (hz3 : ∀ j, j < z → wq j = 0) (hz4 : z = (li - 1 - rw - q - 1) + 1 ∨ z = wa ∨ wq z ≠ 0) (hzN : z = (li - 1 - rw - q - 1) + 1) : Met l y_M_readInterrupt (WSY y_M_readInterrupt b_M_readInterrupt 7 (some .int)) ({ frames := 3, cells := 0, slots := 0, locals := 72 }) (va_Pc [.ref y, .int 1] (fun U => va_P D CLS [(y, .inr (5, [.int th, .int (nI bi), .int (nI ne), .int (nI li), .int (nI sp), .int (nI q), .ref ms, .ref mw, .ref mu, .ref mc, .ref mn, .int en, .int (nI sz), .ref mr, .int (nI wa), .ref mq, .int la, .ref md, .int at0, .int lk])), (mw, .inl (cI, 2, .inl lw)), (mu, .inl (cI, 4, .inl su)), (mc, .inl (cI, 4, .inl cu)), (mn, .inl (cI, 4, .inl nu)), (mq, .inl (cB, 1000, .inl wq))] U.heap ∧ va_K D CLS [(cB, .byte), (cI, .int)] U ∧ va_D (fun _ => True) [(y, .inr (5, [.int th, .int (nI bi), .int (nI ne), .int (nI li), .int (nI sp), .int (nI q), .ref ms, .ref mw, .ref mu, .ref mc, .ref mn, .int en, .int (nI sz), .ref mr, .int (nI wa), .ref mq, .int la, .ref md, .int at0, .int lk])), (mw, .inl (cI, 2, .inl lw)), (mu, .inl (cI, 4, .inl su)), (mc, .inl (cI, 4, .inl cu)), (mn, .inl (cI, 4, .inl nu)), (mq, .inl (cB, 1000, .inl wq))])) (QM (some (.int 2147483647)) [(y, .inr (5, [.int th, .int (nI bi), .int (nI ne), .int (nI li), .int (nI sp), .int (nI q), .ref ms, .ref mw, .ref mu, .ref mc, .ref mn, .int en, .int (nI sz), .ref mr, .int (nI wa), .ref mq, .int la, .ref md, .int at0, .int lk])), (mw, .inl (cI, 2, .inl lw)), (mu, .inl (cI, 4, .inl su)), (mc, .inl (cI, 4, .inl cu)), (mn, .inl (cI, 4, .inl nu)), (mq, .inl (cB, 1000, .inl wq))] [(y, .inr (5, [.int 0, .int (nI bi), .int (nI ne), .int (nI li), .int (nI sp), .int (nI q), .ref ms, .ref mw, .ref mu, .ref mc, .ref mn, .int en, .int (nI sz), .ref mr, .int (nI (wa - ((li - 1 - rw - q - 1) + 1))), .ref mq, .int la, .ref md, .int (nI ((li - 1 - rw - q - 1) + 1)), .int 0])), (mw, .inl (cI, 2, .inl lw)), (mu, .inl (cI, 4, .inl su)), (mc, .inl (cI, 4, .inl cu)), (mn, .inl (cI, 4, .inl nu)), (mq, .inl (cB, 1000, .inl (gof wq ((li - 1 - rw - q - 1) + 1) (wa - ((li - 1 - rw - q - 1) + 1)))))] D) 0 0 (ad [(y, .inr (5, [.int th, .int (nI bi), .int (nI ne), .int (nI li), .int (nI sp), .int (nI q), .ref ms, .ref mw, .ref mu, .ref mc, .ref mn, .int en, .int (nI sz), .ref mr, .int (nI wa), .ref mq, .int la, .ref md, .int at0, .int lk])), (mw, .inl (cI, 2, .inl lw)), (mu, .inl (cI, 4, .inl su)), (mc, .inl (cI, 4, .inl cu)), (mn, .inl (cI, 4, .inl nu)), (mq, .inl (cB, 1000, .inl wq))]) := by
  refine Met.ofW (cc := b_M_readInterrupt) (maxL := 7) (ret := (some .int)) (by decide) rfl ?_
  intro p e s m args below meth c s₁ B hml hv
  obtain ⟨rfl, hP, hK, hD0⟩ := hv
  have hx := B.exec
  have hb := B.bytes
  have hr := B.returns
  have hts := atoms_spec (ws := WSY y_M_readInterrupt b_M_readInterrupt 7 (some .int)) B.pre
  have hg : ∀ w ∈ GW, w.before _ s = true := fun w h => hts w (List.mem_cons_of_mem _ h)
  have hown : s.vm.findClass "LineGolombModel" = some m.cls := findClass_of_methodNamed B.named
  have hlocks := B.notSynchronized
  obtain ⟨A, hAe⟩ : ∃ A, A = ad [(y, .inr (5, [.int th, .int (nI bi), .int (nI ne), .int (nI li), .int (nI sp), .int (nI q), .ref ms, .ref mw, .ref mu, .ref mc, .ref mn, .int en, .int (nI sz), .ref mr, .int (nI wa), .ref mq, .int la, .ref md, .int at0, .int lk])), (mw, .inl (cI, 2, .inl lw)), (mu, .inl (cI, 4, .inl su)), (mc, .inl (cI, 4, .inl cu)), (mn, .inl (cI, 4, .inl nu)), (mq, .inl (cB, 1000, .inl wq))] := ⟨_, rfl⟩
  have hD : va_D A [(y, .inr (5, [.int th, .int (nI bi), .int (nI ne), .int (nI li), .int (nI sp), .int (nI q), .ref ms, .ref mw, .ref mu, .ref mc, .ref mn, .int en, .int (nI sz), .ref mr, .int (nI wa), .ref mq, .int la, .ref md, .int at0, .int lk])), (mw, .inl (cI, 2, .inl lw)), (mu, .inl (cI, 4, .inl su)), (mc, .inl (cI, 4, .inl cu)), (mn, .inl (cI, 4, .inl nu)), (mq, .inl (cB, 1000, .inl wq))] := by rw [hAe]; exact va_D_ad hD0
  have hS : va_S A s.heap s.heap [] := va_S.rf
  have hl := lv_entry ([.ref y, .int 1]) (n := 7) (Nat.le_of_ble_eq_true rfl)
  rw [lg_entry_eq]
  generalize (lg_sl ([.ref y, .int 1]) ++ List.replicate (7 - (lg_sl ([.ref y, .int 1])).length) Slot.unset).toArray = ls at hl ⊢
  have hl : lv_has ls 7 [(0, .ref y), (1, .int 1)] := hl
  refine lv_aload_n hx hb d_M_readInterrupt_0 rfl (lv_at hl 0 rfl) ?_
  refine lv_aload_n hx hb d_M_readInterrupt_1 rfl (lv_at hl 0 rfl) ?_
  refine lv_iload_n hx hb d_M_readInterrupt_2 rfl (lv_at hl 1 rfl) ?_
  have hPc := hP.sub (ws' := [(y, .inr (5, [.int th, .int (nI bi), .int (nI ne), .int (nI li), .int (nI sp), .int (nI q), .ref ms, .ref mw, .ref mu, .ref mc, .ref mn, .int en, .int (nI sz), .ref mr, .int (nI wa), .ref mq, .int la, .ref md, .int at0, .int lk]))]) [0] rfl
  have hKc := hK.sub (tys' := []) [] rfl
  refine pci (va_runV (As := [.int 1]) (rest := [.ref y]) ⟨hx, hb, hml, hown, hg⟩ (c_M_isKind l D y ms mw mu mc mn mr mq md bi ne li sp q sz wa th en la at0 lk 1) (cwV 1 hg (gV gw_626 gw_628 gs_18 gw_7 gw_629) rfl rfl rfl (by decide +kernel) ⟨Nat.le_of_ble_eq_true rfl, Nat.le_of_ble_eq_true rfl⟩) ⟨fun a U g mk q => by obtain ⟨q0, qP, qK⟩ := q; exact ⟨q0, qP, va_K.moved (u := U) (U := U.calling g mk a) (Vm.Alike.refl U.vm) qK⟩, va_recv hKc hPc (ci := 5) (q0 := 0) rfl rfl, fun U hU hW => ⟨rfl, by rw [hU]; exact hPc, va_K.moved hW.alike hKc⟩⟩ rfl rfl hl.1 rfl (lv_room (Nat.le_of_ble_eq_true rfl)) d_M_readInterrupt_3 (⟨Nat.le_of_ble_eq_true rfl, Nat.le_of_ble_eq_true rfl⟩)) ?_
  refine tpi (y := 1) (by decide) ?_
  refine lv_if_eq (tgt := 13) hx hb d_M_readInterrupt_6 (by decide) (fun c_1 => ?_) (fun c_1 => ?_)
  · skip
    exact absurd c_1 (by decide)
  · skip
    refine lv_iconst (v := 0) hx hb d_M_readInterrupt_9 (by decide) ?_
    refine lv_goto (tgt := 14) hx hb d_M_readInterrupt_10 (by decide) ?_
    refine va_put (D := D) (ci := 5) (v := .int 0) (ty := .int) (C := R_M) (T := T_M) (N := 20) hx hb hg in_M ty_M tok_M nm_M hown hK hP hD hS 0 rfl rfl 0 (by decide) (hg _ gw_524) (fun _ h9 => h9) rfl (by decide +kernel) (rfl) (rfl) (Nat.le_of_ble_eq_true rfl) d_M_readInterrupt_14 (fun H locs hP hD hS => ?_)
    have hP : va_P D CLS [(y, .inr (5, [.int 0, .int (nI bi), .int (nI ne), .int (nI li), .int (nI sp), .int (nI q), .ref ms, .ref mw, .ref mu, .ref mc, .ref mn, .int en, .int (nI sz), .ref mr, .int (nI wa), .ref mq, .int la, .ref md, .int at0, .int lk])), (mw, .inl (cI, 2, .inl lw)), (mu, .inl (cI, 4, .inl su)), (mc, .inl (cI, 4, .inl cu)), (mn, .inl (cI, 4, .inl nu)), (mq, .inl (cB, 1000, .inl wq))] H := hP
    have hD : va_D A [(y, .inr (5, [.int 0, .int (nI bi), .int (nI ne), .int (nI li), .int (nI sp), .int (nI q), .ref ms, .ref mw, .ref mu, .ref mc, .ref mn, .int en, .int (nI sz), .ref mr, .int (nI wa), .ref mq, .int la, .ref md, .int at0, .int lk])), (mw, .inl (cI, 2, .inl lw)), (mu, .inl (cI, 4, .inl su)), (mc, .inl (cI, 4, .inl cu)), (mn, .inl (cI, 4, .inl nu)), (mq, .inl (cB, 1000, .inl wq))] := hD
    refine lv_aload_n hx hb d_M_readInterrupt_17 rfl (lv_at hl 0 rfl) ?_
    refine va_get (D := D) (ci := 5) (v := .int 0) (C := R_M) (T := T_M) (N := 20) hx hb hg in_M hown hK hP 0 rfl rfl 0 (by decide) (hg _ gw_524) (fun _ h9 => h9) rfl d_M_readInterrupt_18 ?_
    refine lv_if_le (tgt := 26) hx hb d_M_readInterrupt_21 (by decide) (fun c_2 => ?_) (fun c_2 => ?_)
    · skip
      refine lv_iconst (v := 2) hx hb d_M_readInterrupt_26 (by decide) ?_
      refine lv_iload_n hx hb d_M_readInterrupt_27 rfl (lv_at hl 1 rfl) ?_
      refine lv_iadd hx hb d_M_readInterrupt_28 ?_
      refine tpi (y := 3) (by decide) ?_
      refine lv_istore_n (lv' := [(2, .int 3), (0, .ref y), (1, .int 1)]) hx hb d_M_readInterrupt_29 rfl hl (by decide) rfl (fun ls hl => ?_)
      refine lv_aload_n hx hb d_M_readInterrupt_30 rfl (lv_at hl 1 rfl) ?_
      refine lv_aload_n hx hb d_M_readInterrupt_31 rfl (lv_at hl 1 rfl) ?_
      refine lv_iload_n hx hb d_M_readInterrupt_32 rfl (lv_at hl 0 rfl) ?_
      have hPc := hP.sub (ws' := [(y, .inr (5, [.int 0, .int (nI bi), .int (nI ne), .int (nI li), .int (nI sp), .int (nI q), .ref ms, .ref mw, .ref mu, .ref mc, .ref mn, .int en, .int (nI sz), .ref mr, .int (nI wa), .ref mq, .int la, .ref md, .int at0, .int lk])), (mu, .inl (cI, 4, .inl su)), (mc, .inl (cI, 4, .inl cu)), (mn, .inl (cI, 4, .inl nu))]) [0, 2, 3, 4] rfl
      have hKc := hK.sub (tys' := [(cI, .int)]) [1] rfl
      refine pci (va_runV (As := [.int 3]) (rest := [.ref y]) ⟨hx, hb, hml, hown, hg⟩ (c_M_kOf3 l D y ms mw mu mc mn mr mq md bi ne li sp q sz wa 0 en la at0 lk cI su cu nu sm ct ng K hsu hcu hnu hc0 hn0 (by omega) hKb hK1 hK2) (cwV 1 hg (gV gw_638 gw_640 gs_21 gw_7 gw_641) rfl rfl rfl (by decide +kernel) ⟨Nat.le_of_ble_eq_true rfl, Nat.le_of_ble_eq_true rfl⟩) ⟨fun a U g mk q => by obtain ⟨q0, qP, qK⟩ := q; exact ⟨q0, qP, va_K.moved (u := U) (U := U.calling g mk a) (Vm.Alike.refl U.vm) qK⟩, va_recv hKc hPc (ci := 5) (q0 := 0) rfl rfl, fun U hU hW => ⟨rfl, by rw [hU]; exact hPc, va_K.moved hW.alike hKc⟩⟩ rfl rfl hl.1 rfl (lv_room (Nat.le_of_ble_eq_true rfl)) d_M_readInterrupt_33 (⟨Nat.le_of_ble_eq_true rfl, Nat.le_of_ble_eq_true rfl⟩)) ?_
      refine lv_aload_n hx hb d_M_readInterrupt_36 rfl (lv_at hl 1 rfl) ?_
      refine lv_iconst (v := 1) hx hb d_M_readInterrupt_37 (by decide) ?_
      have hPc := hP.sub (ws' := [(y, .inr (5, [.int 0, .int (nI bi), .int (nI ne), .int (nI li), .int (nI sp), .int (nI q), .ref ms, .ref mw, .ref mu, .ref mc, .ref mn, .int en, .int (nI sz), .ref mr, .int (nI wa), .ref mq, .int la, .ref md, .int at0, .int lk])), (mw, .inl (cI, 2, .inl lw))]) [0, 1] rfl
      have hKc := hK.sub (tys' := [(cI, .int)]) [1] rfl
      refine pci (va_runV (As := [.int 1]) (rest := [.int (nI K), .ref y]) ⟨hx, hb, hml, hown, hg⟩ (c_M_limitFor1 l D y ms mw mu mc mn mr mq md bi ne li sp q sz wa 0 en la at0 lk cI lw rw hlw (by omega)) (cwV 1 hg (gV gw_642 gw_644 gs_22 gw_7 gw_645) rfl rfl rfl (by decide +kernel) ⟨Nat.le_of_ble_eq_true rfl, Nat.le_of_ble_eq_true rfl⟩) ⟨fun a U g mk q => by obtain ⟨q0, qP, qK⟩ := q; exact ⟨q0, qP, va_K.moved (u := U) (U := U.calling g mk a) (Vm.Alike.refl U.vm) qK⟩, va_recv hKc hPc (ci := 5) (q0 := 0) rfl rfl, fun U hU hW => ⟨rfl, by rw [hU]; exact hPc, va_K.moved hW.alike hKc⟩⟩ rfl rfl hl.1 rfl (lv_room (Nat.le_of_ble_eq_true rfl)) d_M_readInterrupt_38 (⟨Nat.le_of_ble_eq_true rfl, Nat.le_of_ble_eq_true rfl⟩)) ?_
      have hPc := hP.sub (ws' := [(y, .inr (5, [.int 0, .int (nI bi), .int (nI ne), .int (nI li), .int (nI sp), .int (nI q), .ref ms, .ref mw, .ref mu, .ref mc, .ref mn, .int en, .int (nI sz), .ref mr, .int (nI wa), .ref mq, .int la, .ref md, .int at0, .int lk])), (mq, .inl (cB, 1000, .inl wq))]) [0, 5] rfl
      have hDc := hD.sub (ws' := [(y, .inr (5, [.int 0, .int (nI bi), .int (nI ne), .int (nI li), .int (nI sp), .int (nI q), .ref ms, .ref mw, .ref mu, .ref mc, .ref mn, .int en, .int (nI sz), .ref mr, .int (nI wa), .ref mq, .int la, .ref md, .int at0, .int lk])), (mq, .inl (cB, 1000, .inl wq))]) [0, 5] (by decide) rfl
      have hKc := hK.sub (tys' := [(cB, .byte)]) [0] rfl
      refine mci (va_runV (As := [.int (nI K), .int (nI (li - 1 - rw))]) (rest := []) ⟨hx, hb, hml, hown, hg⟩ (c_M_lookN l D y ms mw mu mc mn mr mq md bi ne li sp q sz wa 0 en la at0 lk cB wq K (li - 1 - rw) z hwa (by omega) (by omega) (by omega) (by omega) hz1 hz2 hz3 hz4 hzN) (cwV 2 hg (gV gw_674 gw_676 gs_25 gw_7 gw_677) rfl rfl rfl (by decide +kernel) ⟨Nat.le_of_ble_eq_true rfl, Nat.le_of_ble_eq_true rfl⟩) ⟨fun a U g mk q => by obtain ⟨q0, qP, qK, qD⟩ := q; exact ⟨q0, qP, va_K.moved (u := U) (U := U.calling g mk a) (Vm.Alike.refl U.vm) qK, qD⟩, va_recv hKc hPc (ci := 5) (q0 := 0) rfl rfl, fun U hU hW => ⟨rfl, by rw [hU]; exact hPc, va_K.moved hW.alike hKc, hDc.weaken (fun _ _ _ _ => trivial)⟩⟩ rfl rfl hl.1 rfl (lv_room (Nat.le_of_ble_eq_true rfl)) d_M_readInterrupt_41 (⟨Nat.le_of_ble_eq_true rfl, Nat.le_of_ble_eq_true rfl⟩)) hS hP hD [0, 5] rfl rfl rfl (fun H locs hP hD hS => ?_)
      have hP : va_P D CLS [(y, .inr (5, [.int 0, .int (nI bi), .int (nI ne), .int (nI li), .int (nI sp), .int (nI q), .ref ms, .ref mw, .ref mu, .ref mc, .ref mn, .int en, .int (nI sz), .ref mr, .int (nI wa), .ref mq, .int la, .ref md, .int (nI ((li - 1 - rw - q - 1) + 1)), .int 0])), (mw, .inl (cI, 2, .inl lw)), (mu, .inl (cI, 4, .inl su)), (mc, .inl (cI, 4, .inl cu)), (mn, .inl (cI, 4, .inl nu)), (mq, .inl (cB, 1000, .inl wq))] H := hP
      have hD : va_D A [(y, .inr (5, [.int 0, .int (nI bi), .int (nI ne), .int (nI li), .int (nI sp), .int (nI q), .ref ms, .ref mw, .ref mu, .ref mc, .ref mn, .int en, .int (nI sz), .ref mr, .int (nI wa), .ref mq, .int la, .ref md, .int (nI ((li - 1 - rw - q - 1) + 1)), .int 0])), (mw, .inl (cI, 2, .inl lw)), (mu, .inl (cI, 4, .inl su)), (mc, .inl (cI, 4, .inl cu)), (mn, .inl (cI, 4, .inl nu)), (mq, .inl (cB, 1000, .inl wq))] := hD
      refine lv_istore_n (lv' := [(3, .int (-2)), (2, .int 3), (0, .ref y), (1, .int 1)]) hx hb d_M_readInterrupt_44 rfl hl (by decide) rfl (fun ls hl => ?_)
      refine lv_iload_n hx hb d_M_readInterrupt_45 rfl (lv_at hl 0 rfl) ?_
      refine lv_iconst (v := (-1)) hx hb d_M_readInterrupt_46 (by decide) ?_
      refine lv_icmp_ne (tgt := 53) hx hb d_M_readInterrupt_47 (by decide) (fun c_3 => ?_) (fun c_3 => ?_)
      · skip
        refine lv_aload_n hx hb d_M_readInterrupt_53 rfl (lv_at hl 2 rfl) ?_
        refine lv_aload_n hx hb d_M_readInterrupt_54 rfl (lv_at hl 2 rfl) ?_
        refine va_get (D := D) (ci := 5) (v := .int (nI ((li - 1 - rw - q - 1) + 1))) (C := R_M) (T := T_M) (N := 20) hx hb hg in_M hown hK hP 0 rfl rfl 18 (by decide) (hg _ gw_542) (fun _ h9 => h9) rfl d_M_readInterrupt_55 ?_
        have hPc := hP.sub (ws' := [(y, .inr (5, [.int 0, .int (nI bi), .int (nI ne), .int (nI li), .int (nI sp), .int (nI q), .ref ms, .ref mw, .ref mu, .ref mc, .ref mn, .int en, .int (nI sz), .ref mr, .int (nI wa), .ref mq, .int la, .ref md, .int (nI ((li - 1 - rw - q - 1) + 1)), .int 0])), (mq, .inl (cB, 1000, .inl wq))]) [0, 5] rfl
        have hDc := hD.sub (ws' := [(y, .inr (5, [.int 0, .int (nI bi), .int (nI ne), .int (nI li), .int (nI sp), .int (nI q), .ref ms, .ref mw, .ref mu, .ref mc, .ref mn, .int en, .int (nI sz), .ref mr, .int (nI wa), .ref mq, .int la, .ref md, .int (nI ((li - 1 - rw - q - 1) + 1)), .int 0])), (mq, .inl (cB, 1000, .inl wq))]) [0, 5] (by decide) rfl
        have hKc := hK.sub (tys' := [(cB, .byte)]) [0] rfl
        refine mcv (va_runV (As := [.int (nI ((li - 1 - rw - q - 1) + 1))]) (rest := []) ⟨hx, hb, hml, hown, hg⟩ (c_M_go l D y ms mw mu mc mn mr mq md bi ne li sp q sz wa 0 en la (nI ((li - 1 - rw - q - 1) + 1)) 0 cB wq ((li - 1 - rw - q - 1) + 1) hwa (by omega) hqb) (cwV 1 hg (gV gw_686 gw_688 gs_28 gw_7 gw_689) rfl rfl rfl (by decide +kernel) ⟨Nat.le_of_ble_eq_true rfl, Nat.le_of_ble_eq_true rfl⟩) ⟨fun a U g mk q => by obtain ⟨q0, qP, qK, qD⟩ := q; exact ⟨q0, qP, va_K.moved (u := U) (U := U.calling g mk a) (Vm.Alike.refl U.vm) qK, qD⟩, va_recv hKc hPc (ci := 5) (q0 := 0) rfl rfl, fun U hU hW => ⟨rfl, by rw [hU]; exact hPc, va_K.moved hW.alike hKc, hDc.weaken (fun _ _ _ _ => trivial)⟩⟩ rfl rfl hl.1 rfl (lv_room (Nat.le_of_ble_eq_true rfl)) d_M_readInterrupt_58 (⟨Nat.le_of_ble_eq_true rfl, Nat.le_of_ble_eq_true rfl⟩)) hS hP hD [0, 5] rfl rfl rfl (fun H locs hP hD hS => ?_)
        have hP : va_P D CLS [(y, .inr (5, [.int 0, .int (nI bi), .int (nI ne), .int (nI li), .int (nI sp), .int (nI q), .ref ms, .ref mw, .ref mu, .ref mc, .ref mn, .int en, .int (nI sz), .ref mr, .int (nI (wa - ((li - 1 - rw - q - 1) + 1))), .ref mq, .int la, .ref md, .int (nI ((li - 1 - rw - q - 1) + 1)), .int 0])), (mw, .inl (cI, 2, .inl lw)), (mu, .inl (cI, 4, .inl su)), (mc, .inl (cI, 4, .inl cu)), (mn, .inl (cI, 4, .inl nu)), (mq, .inl (cB, 1000, .inl (gof wq ((li - 1 - rw - q - 1) + 1) (wa - ((li - 1 - rw - q - 1) + 1)))))] H := hP
        have hD : va_D A [(y, .inr (5, [.int 0, .int (nI bi), .int (nI ne), .int (nI li), .int (nI sp), .int (nI q), .ref ms, .ref mw, .ref mu, .ref mc, .ref mn, .int en, .int (nI sz), .ref mr, .int (nI (wa - ((li - 1 - rw - q - 1) + 1))), .ref mq, .int la, .ref md, .int (nI ((li - 1 - rw - q - 1) + 1)), .int 0])), (mw, .inl (cI, 2, .inl lw)), (mu, .inl (cI, 4, .inl su)), (mc, .inl (cI, 4, .inl cu)), (mn, .inl (cI, 4, .inl nu)), (mq, .inl (cB, 1000, .inl (gof wq ((li - 1 - rw - q - 1) + 1) (wa - ((li - 1 - rw - q - 1) + 1)))))] := hD
        refine lv_iload_n hx hb d_M_readInterrupt_61 rfl (lv_at hl 0 rfl) ?_
        refine lv_bipush (v := (-2)) hx hb d_M_readInterrupt_62 (by decide) ?_
        refine lv_icmp_ne (tgt := 70) hx hb d_M_readInterrupt_64 (by decide) (fun c_4 => ?_) (fun c_4 => ?_)
        · skip
          exact absurd rfl c_4
        · skip
          refine lv_ldc (v := 2147483647) hx hb hown (hg _ gw_698) d_M_readInterrupt_67 ?_
          exact W.iret (v := 2147483647) hx hb hr (fun t ht hW => ⟨rfl, by rw [ht]; exact hP, (hAe ▸ hS).F ht⟩) (hAe ▸ hS).2.2 d_M_readInterrupt_69
      · skip
        exact absurd c_3 (by decide)
    · skip
      exact absurd (by decide) c_2
set_option maxHeartbeats 4000000 in
set_option maxRecDepth 100000 in
theorem c_M_readInterrupt1W (l : Launch) (D : va_G) (y ms mw mu mc mn mr mq md bi ne li sp q sz wa : Nat) (th en la at0 lk : Int32) (cB cI : ClassId) (lw su cu nu wq : Nat → Int32) (rw sm ct ng K z : Nat) (hlw : lw 1 = nI rw) (hsu : su 3 = nI sm) (hcu : cu 3 = nI ct) (hnu : nu 3 = nI ng) (hwa : wa ≤ 1000) (hqb : ∀ j, j < wa → wq j = 0 ∨ wq j = 1) (hc0 : ct ≤ 64) (hn0 : ng ≤ 64) (hs0 : sm < 2 ^ 29) (hKb : K ≤ 29) (hK1 : sm + ct / 2 ≤ ct * 2 ^ K) (hK2 : ∀ j, j < K → ct * 2 ^ j < sm + ct / 2) (hsp : sp ≤ 65536) (hq : q ≤ 29) (hli : q + 18 ≤ li) (hlb : li ≤ 200) (hrw : rw ≤ 15) (hz1 : z ≤ (li - 1 - rw - q - 1) + 1) (hz2 : z ≤ wa) (hz3 : ∀ j, j < z → wq j = 0) (hz4 : z = (li - 1 - rw - q - 1) + 1 ∨ z = wa ∨ wq z ≠ 0) (hzm : z ≤ (li - 1 - rw - q - 1)) (hw : wa < z + 1 + tln q K (li - 1 - rw - q - 1) z) : Met l y_M_readInterrupt (WSY y_M_readInterrupt b_M_readInterrupt 7 (some .int)) ({ frames := 3, cells := 0, slots := 0, locals := 72 }) (va_Pc [.ref y, .int 1] (fun U => va_P D CLS [(y, .inr (5, [.int th, .int (nI bi), .int (nI ne), .int (nI li), .int (nI sp), .int (nI q), .ref ms, .ref mw, .ref mu, .ref mc, .ref mn, .int en, .int (nI sz), .ref mr, .int (nI wa), .ref mq, .int la, .ref md, .int at0, .int lk])), (mw, .inl (cI, 2, .inl lw)), (mu, .inl (cI, 4, .inl su)), (mc, .inl (cI, 4, .inl cu)), (mn, .inl (cI, 4, .inl nu)), (mq, .inl (cB, 1000, .inl wq))] U.heap ∧ va_K D CLS [(cB, .byte), (cI, .int)] U ∧ va_D (fun _ => True) [(y, .inr (5, [.int th, .int (nI bi), .int (nI ne), .int (nI li), .int (nI sp), .int (nI q), .ref ms, .ref mw, .ref mu, .ref mc, .ref mn, .int en, .int (nI sz), .ref mr, .int (nI wa), .ref mq, .int la, .ref md, .int at0, .int lk])), (mw, .inl (cI, 2, .inl lw)), (mu, .inl (cI, 4, .inl su)), (mc, .inl (cI, 4, .inl cu)), (mn, .inl (cI, 4, .inl nu)), (mq, .inl (cB, 1000, .inl wq))])) (QM (some (.int 2147483647)) [(y, .inr (5, [.int th, .int (nI bi), .int (nI ne), .int (nI li), .int (nI sp), .int (nI q), .ref ms, .ref mw, .ref mu, .ref mc, .ref mn, .int en, .int (nI sz), .ref mr, .int (nI wa), .ref mq, .int la, .ref md, .int at0, .int lk])), (mw, .inl (cI, 2, .inl lw)), (mu, .inl (cI, 4, .inl su)), (mc, .inl (cI, 4, .inl cu)), (mn, .inl (cI, 4, .inl nu)), (mq, .inl (cB, 1000, .inl wq))] [(y, .inr (5, [.int 0, .int (nI bi), .int (nI ne), .int (nI li), .int (nI sp), .int (nI q), .ref ms, .ref mw, .ref mu, .ref mc, .ref mn, .int en, .int (nI sz), .ref mr, .int (nI wa), .ref mq, .int la, .ref md, .int (nI wa), .int 1])), (mw, .inl (cI, 2, .inl lw)), (mu, .inl (cI, 4, .inl su)), (mc, .inl (cI, 4, .inl cu)), (mn, .inl (cI, 4, .inl nu)), (mq, .inl (cB, 1000, .inl wq))] D) 0 0 (ad [(y, .inr (5, [.int th, .int (nI bi), .int (nI ne), .int (nI li), .int (nI sp), .int (nI q), .ref ms, .ref mw, .ref mu, .ref mc, .ref mn, .int en, .int (nI sz), .ref mr, .int (nI wa), .ref mq, .int la, .ref md, .int at0, .int lk])), (mw, .inl (cI, 2, .inl lw)), (mu, .inl (cI, 4, .inl su)), (mc, .inl (cI, 4, .inl cu)), (mn, .inl (cI, 4, .inl nu)), (mq, .inl (cB, 1000, .inl wq))]) := by
  refine Met.ofW (cc := b_M_readInterrupt) (maxL := 7) (ret := (some .int)) (by decide) rfl ?_
  intro p e s m args below meth c s₁ B hml hv
  obtain ⟨rfl, hP, hK, hD0⟩ := hv
  have hx := B.exec
  have hb := B.bytes
  have hr := B.returns
  have hts := atoms_spec (ws := WSY y_M_readInterrupt b_M_readInterrupt 7 (some .int)) B.pre
  have hg : ∀ w ∈ GW, w.before _ s = true := fun w h => hts w (List.mem_cons_of_mem _ h)
  have hown : s.vm.findClass "LineGolombModel" = some m.cls := findClass_of_methodNamed B.named
  have hlocks := B.notSynchronized
  obtain ⟨A, hAe⟩ : ∃ A, A = ad [(y, .inr (5, [.int th, .int (nI bi), .int (nI ne), .int (nI li), .int (nI sp), .int (nI q), .ref ms, .ref mw, .ref mu, .ref mc, .ref mn, .int en, .int (nI sz), .ref mr, .int (nI wa), .ref mq, .int la, .ref md, .int at0, .int lk])), (mw, .inl (cI, 2, .inl lw)), (mu, .inl (cI, 4, .inl su)), (mc, .inl (cI, 4, .inl cu)), (mn, .inl (cI, 4, .inl nu)), (mq, .inl (cB, 1000, .inl wq))] := ⟨_, rfl⟩
  have hD : va_D A [(y, .inr (5, [.int th, .int (nI bi), .int (nI ne), .int (nI li), .int (nI sp), .int (nI q), .ref ms, .ref mw, .ref mu, .ref mc, .ref mn, .int en, .int (nI sz), .ref mr, .int (nI wa), .ref mq, .int la, .ref md, .int at0, .int lk])), (mw, .inl (cI, 2, .inl lw)), (mu, .inl (cI, 4, .inl su)), (mc, .inl (cI, 4, .inl cu)), (mn, .inl (cI, 4, .inl nu)), (mq, .inl (cB, 1000, .inl wq))] := by rw [hAe]; exact va_D_ad hD0
  have hS : va_S A s.heap s.heap [] := va_S.rf
  have hl := lv_entry ([.ref y, .int 1]) (n := 7) (Nat.le_of_ble_eq_true rfl)
  rw [lg_entry_eq]
  generalize (lg_sl ([.ref y, .int 1]) ++ List.replicate (7 - (lg_sl ([.ref y, .int 1])).length) Slot.unset).toArray = ls at hl ⊢
  have hl : lv_has ls 7 [(0, .ref y), (1, .int 1)] := hl
  refine lv_aload_n hx hb d_M_readInterrupt_0 rfl (lv_at hl 0 rfl) ?_
  refine lv_aload_n hx hb d_M_readInterrupt_1 rfl (lv_at hl 0 rfl) ?_
  refine lv_iload_n hx hb d_M_readInterrupt_2 rfl (lv_at hl 1 rfl) ?_
  have hPc := hP.sub (ws' := [(y, .inr (5, [.int th, .int (nI bi), .int (nI ne), .int (nI li), .int (nI sp), .int (nI q), .ref ms, .ref mw, .ref mu, .ref mc, .ref mn, .int en, .int (nI sz), .ref mr, .int (nI wa), .ref mq, .int la, .ref md, .int at0, .int lk]))]) [0] rfl
  have hKc := hK.sub (tys' := []) [] rfl
  refine pci (va_runV (As := [.int 1]) (rest := [.ref y]) ⟨hx, hb, hml, hown, hg⟩ (c_M_isKind l D y ms mw mu mc mn mr mq md bi ne li sp q sz wa th en la at0 lk 1) (cwV 1 hg (gV gw_626 gw_628 gs_18 gw_7 gw_629) rfl rfl rfl (by decide +kernel) ⟨Nat.le_of_ble_eq_true rfl, Nat.le_of_ble_eq_true rfl⟩) ⟨fun a U g mk q => by obtain ⟨q0, qP, qK⟩ := q; exact ⟨q0, qP, va_K.moved (u := U) (U := U.calling g mk a) (Vm.Alike.refl U.vm) qK⟩, va_recv hKc hPc (ci := 5) (q0 := 0) rfl rfl, fun U hU hW => ⟨rfl, by rw [hU]; exact hPc, va_K.moved hW.alike hKc⟩⟩ rfl rfl hl.1 rfl (lv_room (Nat.le_of_ble_eq_true rfl)) d_M_readInterrupt_3 (⟨Nat.le_of_ble_eq_true rfl, Nat.le_of_ble_eq_true rfl⟩)) ?_
  refine tpi (y := 1) (by decide) ?_
  refine lv_if_eq (tgt := 13) hx hb d_M_readInterrupt_6 (by decide) (fun c_1 => ?_) (fun c_1 => ?_)
  · skip
    exact absurd c_1 (by decide)
  · skip
    refine lv_iconst (v := 0) hx hb d_M_readInterrupt_9 (by decide) ?_
    refine lv_goto (tgt := 14) hx hb d_M_readInterrupt_10 (by decide) ?_
    refine va_put (D := D) (ci := 5) (v := .int 0) (ty := .int) (C := R_M) (T := T_M) (N := 20) hx hb hg in_M ty_M tok_M nm_M hown hK hP hD hS 0 rfl rfl 0 (by decide) (hg _ gw_524) (fun _ h9 => h9) rfl (by decide +kernel) (rfl) (rfl) (Nat.le_of_ble_eq_true rfl) d_M_readInterrupt_14 (fun H locs hP hD hS => ?_)
    have hP : va_P D CLS [(y, .inr (5, [.int 0, .int (nI bi), .int (nI ne), .int (nI li), .int (nI sp), .int (nI q), .ref ms, .ref mw, .ref mu, .ref mc, .ref mn, .int en, .int (nI sz), .ref mr, .int (nI wa), .ref mq, .int la, .ref md, .int at0, .int lk])), (mw, .inl (cI, 2, .inl lw)), (mu, .inl (cI, 4, .inl su)), (mc, .inl (cI, 4, .inl cu)), (mn, .inl (cI, 4, .inl nu)), (mq, .inl (cB, 1000, .inl wq))] H := hP
    have hD : va_D A [(y, .inr (5, [.int 0, .int (nI bi), .int (nI ne), .int (nI li), .int (nI sp), .int (nI q), .ref ms, .ref mw, .ref mu, .ref mc, .ref mn, .int en, .int (nI sz), .ref mr, .int (nI wa), .ref mq, .int la, .ref md, .int at0, .int lk])), (mw, .inl (cI, 2, .inl lw)), (mu, .inl (cI, 4, .inl su)), (mc, .inl (cI, 4, .inl cu)), (mn, .inl (cI, 4, .inl nu)), (mq, .inl (cB, 1000, .inl wq))] := hD
    refine lv_aload_n hx hb d_M_readInterrupt_17 rfl (lv_at hl 0 rfl) ?_
    refine va_get (D := D) (ci := 5) (v := .int 0) (C := R_M) (T := T_M) (N := 20) hx hb hg in_M hown hK hP 0 rfl rfl 0 (by decide) (hg _ gw_524) (fun _ h9 => h9) rfl d_M_readInterrupt_18 ?_
    refine lv_if_le (tgt := 26) hx hb d_M_readInterrupt_21 (by decide) (fun c_2 => ?_) (fun c_2 => ?_)
    · skip
      refine lv_iconst (v := 2) hx hb d_M_readInterrupt_26 (by decide) ?_
      refine lv_iload_n hx hb d_M_readInterrupt_27 rfl (lv_at hl 1 rfl) ?_
      refine lv_iadd hx hb d_M_readInterrupt_28 ?_
      refine tpi (y := 3) (by decide) ?_
      refine lv_istore_n (lv' := [(2, .int 3), (0, .ref y), (1, .int 1)]) hx hb d_M_readInterrupt_29 rfl hl (by decide) rfl (fun ls hl => ?_)
      refine lv_aload_n hx hb d_M_readInterrupt_30 rfl (lv_at hl 1 rfl) ?_
      refine lv_aload_n hx hb d_M_readInterrupt_31 rfl (lv_at hl 1 rfl) ?_
      refine lv_iload_n hx hb d_M_readInterrupt_32 rfl (lv_at hl 0 rfl) ?_
      have hPc := hP.sub (ws' := [(y, .inr (5, [.int 0, .int (nI bi), .int (nI ne), .int (nI li), .int (nI sp), .int (nI q), .ref ms, .ref mw, .ref mu, .ref mc, .ref mn, .int en, .int (nI sz), .ref mr, .int (nI wa), .ref mq, .int la, .ref md, .int at0, .int lk])), (mu, .inl (cI, 4, .inl su)), (mc, .inl (cI, 4, .inl cu)), (mn, .inl (cI, 4, .inl nu))]) [0, 2, 3, 4] rfl
      have hKc := hK.sub (tys' := [(cI, .int)]) [1] rfl
      refine pci (va_runV (As := [.int 3]) (rest := [.ref y]) ⟨hx, hb, hml, hown, hg⟩ (c_M_kOf3 l D y ms mw mu mc mn mr mq md bi ne li sp q sz wa 0 en la at0 lk cI su cu nu sm ct ng K hsu hcu hnu hc0 hn0 (by omega) hKb hK1 hK2) (cwV 1 hg (gV gw_638 gw_640 gs_21 gw_7 gw_641) rfl rfl rfl (by decide +kernel) ⟨Nat.le_of_ble_eq_true rfl, Nat.le_of_ble_eq_true rfl⟩) ⟨fun a U g mk q => by obtain ⟨q0, qP, qK⟩ := q; exact ⟨q0, qP, va_K.moved (u := U) (U := U.calling g mk a) (Vm.Alike.refl U.vm) qK⟩, va_recv hKc hPc (ci := 5) (q0 := 0) rfl rfl, fun U hU hW => ⟨rfl, by rw [hU]; exact hPc, va_K.moved hW.alike hKc⟩⟩ rfl rfl hl.1 rfl (lv_room (Nat.le_of_ble_eq_true rfl)) d_M_readInterrupt_33 (⟨Nat.le_of_ble_eq_true rfl, Nat.le_of_ble_eq_true rfl⟩)) ?_
      refine lv_aload_n hx hb d_M_readInterrupt_36 rfl (lv_at hl 1 rfl) ?_
      refine lv_iconst (v := 1) hx hb d_M_readInterrupt_37 (by decide) ?_
      have hPc := hP.sub (ws' := [(y, .inr (5, [.int 0, .int (nI bi), .int (nI ne), .int (nI li), .int (nI sp), .int (nI q), .ref ms, .ref mw, .ref mu, .ref mc, .ref mn, .int en, .int (nI sz), .ref mr, .int (nI wa), .ref mq, .int la, .ref md, .int at0, .int lk])), (mw, .inl (cI, 2, .inl lw))]) [0, 1] rfl
      have hKc := hK.sub (tys' := [(cI, .int)]) [1] rfl
      refine pci (va_runV (As := [.int 1]) (rest := [.int (nI K), .ref y]) ⟨hx, hb, hml, hown, hg⟩ (c_M_limitFor1 l D y ms mw mu mc mn mr mq md bi ne li sp q sz wa 0 en la at0 lk cI lw rw hlw (by omega)) (cwV 1 hg (gV gw_642 gw_644 gs_22 gw_7 gw_645) rfl rfl rfl (by decide +kernel) ⟨Nat.le_of_ble_eq_true rfl, Nat.le_of_ble_eq_true rfl⟩) ⟨fun a U g mk q => by obtain ⟨q0, qP, qK⟩ := q; exact ⟨q0, qP, va_K.moved (u := U) (U := U.calling g mk a) (Vm.Alike.refl U.vm) qK⟩, va_recv hKc hPc (ci := 5) (q0 := 0) rfl rfl, fun U hU hW => ⟨rfl, by rw [hU]; exact hPc, va_K.moved hW.alike hKc⟩⟩ rfl rfl hl.1 rfl (lv_room (Nat.le_of_ble_eq_true rfl)) d_M_readInterrupt_38 (⟨Nat.le_of_ble_eq_true rfl, Nat.le_of_ble_eq_true rfl⟩)) ?_
      have hPc := hP.sub (ws' := [(y, .inr (5, [.int 0, .int (nI bi), .int (nI ne), .int (nI li), .int (nI sp), .int (nI q), .ref ms, .ref mw, .ref mu, .ref mc, .ref mn, .int en, .int (nI sz), .ref mr, .int (nI wa), .ref mq, .int la, .ref md, .int at0, .int lk])), (mq, .inl (cB, 1000, .inl wq))]) [0, 5] rfl
      have hDc := hD.sub (ws' := [(y, .inr (5, [.int 0, .int (nI bi), .int (nI ne), .int (nI li), .int (nI sp), .int (nI q), .ref ms, .ref mw, .ref mu, .ref mc, .ref mn, .int en, .int (nI sz), .ref mr, .int (nI wa), .ref mq, .int la, .ref md, .int at0, .int lk])), (mq, .inl (cB, 1000, .inl wq))]) [0, 5] (by decide) rfl
      have hKc := hK.sub (tys' := [(cB, .byte)]) [0] rfl
      refine mci (va_runV (As := [.int (nI K), .int (nI (li - 1 - rw))]) (rest := []) ⟨hx, hb, hml, hown, hg⟩ (c_M_lookW l D y ms mw mu mc mn mr mq md bi ne li sp q sz wa 0 en la at0 lk cB wq K (li - 1 - rw) z hwa (by omega) (by omega) (by omega) (by omega) hz1 hz2 hz3 hz4 hzm hw) (cwV 2 hg (gV gw_674 gw_676 gs_25 gw_7 gw_677) rfl rfl rfl (by decide +kernel) ⟨Nat.le_of_ble_eq_true rfl, Nat.le_of_ble_eq_true rfl⟩) ⟨fun a U g mk q => by obtain ⟨q0, qP, qK, qD⟩ := q; exact ⟨q0, qP, va_K.moved (u := U) (U := U.calling g mk a) (Vm.Alike.refl U.vm) qK, qD⟩, va_recv hKc hPc (ci := 5) (q0 := 0) rfl rfl, fun U hU hW => ⟨rfl, by rw [hU]; exact hPc, va_K.moved hW.alike hKc, hDc.weaken (fun _ _ _ _ => trivial)⟩⟩ rfl rfl hl.1 rfl (lv_room (Nat.le_of_ble_eq_true rfl)) d_M_readInterrupt_41 (⟨Nat.le_of_ble_eq_true rfl, Nat.le_of_ble_eq_true rfl⟩)) hS hP hD [0, 5] rfl rfl rfl (fun H locs hP hD hS => ?_)
      have hP : va_P D CLS [(y, .inr (5, [.int 0, .int (nI bi), .int (nI ne), .int (nI li), .int (nI sp), .int (nI q), .ref ms, .ref mw, .ref mu, .ref mc, .ref mn, .int en, .int (nI sz), .ref mr, .int (nI wa), .ref mq, .int la, .ref md, .int (nI (wa)), .int 1])), (mw, .inl (cI, 2, .inl lw)), (mu, .inl (cI, 4, .inl su)), (mc, .inl (cI, 4, .inl cu)), (mn, .inl (cI, 4, .inl nu)), (mq, .inl (cB, 1000, .inl wq))] H := hP
      have hD : va_D A [(y, .inr (5, [.int 0, .int (nI bi), .int (nI ne), .int (nI li), .int (nI sp), .int (nI q), .ref ms, .ref mw, .ref mu, .ref mc, .ref mn, .int en, .int (nI sz), .ref mr, .int (nI wa), .ref mq, .int la, .ref md, .int (nI (wa)), .int 1])), (mw, .inl (cI, 2, .inl lw)), (mu, .inl (cI, 4, .inl su)), (mc, .inl (cI, 4, .inl cu)), (mn, .inl (cI, 4, .inl nu)), (mq, .inl (cB, 1000, .inl wq))] := hD
      refine lv_istore_n (lv' := [(3, .int (-1)), (2, .int 3), (0, .ref y), (1, .int 1)]) hx hb d_M_readInterrupt_44 rfl hl (by decide) rfl (fun ls hl => ?_)
      refine lv_iload_n hx hb d_M_readInterrupt_45 rfl (lv_at hl 0 rfl) ?_
      refine lv_iconst (v := (-1)) hx hb d_M_readInterrupt_46 (by decide) ?_
      refine lv_icmp_ne (tgt := 53) hx hb d_M_readInterrupt_47 (by decide) (fun c_3 => ?_) (fun c_3 => ?_)
      · skip
        exact absurd rfl c_3
      · skip
        refine lv_ldc (v := 2147483647) hx hb hown (hg _ gw_698) d_M_readInterrupt_50 ?_
        exact W.iret (v := 2147483647) hx hb hr (fun t ht hW => ⟨rfl, by rw [ht]; exact hP, (hAe ▸ hS).F ht⟩) (hAe ▸ hS).2.2 d_M_readInterrupt_52
    · skip
      exact absurd (by decide) c_2
set_option maxHeartbeats 4000000 in
set_option maxRecDepth 100000 in
theorem c_M_readInterrupt1B (l : Launch) (D : va_G) (y ms mw mu mc mn mr mq md bi ne li sp q sz wa : Nat) (th en la at0 lk : Int32) (cB cI : ClassId) (lw su cu nu wq : Nat → Int32) (rw sm ct ng K z : Nat) (hlw : lw 1 = nI rw) (hsu : su 3 = nI sm) (hcu : cu 3 = nI ct) (hnu : nu 3 = nI ng) (hwa : wa ≤ 1000) (hqb : ∀ j, j < wa → wq j = 0 ∨ wq j = 1) (hc0 : ct ≤ 64) (hn0 : ng ≤ 64) (hs0 : sm < 2 ^ 29) (hKb : K ≤ 29) (hK1 : sm + ct / 2 ≤ ct * 2 ^ K) (hK2 : ∀ j, j < K → ct * 2 ^ j < sm + ct / 2) (hsp : sp ≤ 65536) (hq : q ≤ 29) (hli : q + 18 ≤ li) (hlb : li ≤ 200) (hrw : rw ≤ 15) (hz1 : z ≤ (li - 1 - rw - q - 1) + 1) (hz2 : z ≤ wa) (hz3 : ∀ j, j < z → wq j = 0) (hz4 : z = (li - 1 - rw - q - 1) + 1 ∨ z = wa ∨ wq z ≠ 0) (hzm : z ≤ (li - 1 - rw - q - 1)) (hw : z + 1 + tln q K (li - 1 - rw - q - 1) z ≤ wa) (hzk : z * 2 ^ K < 2 ^ 31) (N : Nat) (hN : rnum (mbt wq wa) q K (li - 1 - rw - q - 1) z = nI N) (hNb : N < 2 ^ 29) (eb : Int32) (heb : eb = if ((N + 1) % 2 = 1 ↔ (K = 0 ∧ 2 * ng < ct)) then nI ((N + 1 + 1) / 2) else -nI ((N + 1 + 1) / 2)) (hbad : ¬ (-((sp / 2 : Nat) : Int) ≤ eb.toInt ∧ eb.toInt ≤ ((sp / 2 : Nat) : Int) ∧ (¬ eb = 0 ∨ (1 : Int32) = 0))) : Met l y_M_readInterrupt (WSY y_M_readInterrupt b_M_readInterrupt 7 (some .int)) ({ frames := 3, cells := 0, slots := 0, locals := 72 }) (va_Pc [.ref y, .int 1] (fun U => va_P D CLS [(y, .inr (5, [.int th, .int (nI bi), .int (nI ne), .int (nI li), .int (nI sp), .int (nI q), .ref ms, .ref mw, .ref mu, .ref mc, .ref mn, .int en, .int (nI sz), .ref mr, .int (nI wa), .ref mq, .int la, .ref md, .int at0, .int lk])), (mw, .inl (cI, 2, .inl lw)), (mu, .inl (cI, 4, .inl su)), (mc, .inl (cI, 4, .inl cu)), (mn, .inl (cI, 4, .inl nu)), (mq, .inl (cB, 1000, .inl wq))] U.heap ∧ va_K D CLS [(cB, .byte), (cI, .int)] U ∧ va_D (fun _ => True) [(y, .inr (5, [.int th, .int (nI bi), .int (nI ne), .int (nI li), .int (nI sp), .int (nI q), .ref ms, .ref mw, .ref mu, .ref mc, .ref mn, .int en, .int (nI sz), .ref mr, .int (nI wa), .ref mq, .int la, .ref md, .int at0, .int lk])), (mw, .inl (cI, 2, .inl lw)), (mu, .inl (cI, 4, .inl su)), (mc, .inl (cI, 4, .inl cu)), (mn, .inl (cI, 4, .inl nu)), (mq, .inl (cB, 1000, .inl wq))])) (QM (some (.int 2147483647)) [(y, .inr (5, [.int th, .int (nI bi), .int (nI ne), .int (nI li), .int (nI sp), .int (nI q), .ref ms, .ref mw, .ref mu, .ref mc, .ref mn, .int en, .int (nI sz), .ref mr, .int (nI wa), .ref mq, .int la, .ref md, .int at0, .int lk])), (mw, .inl (cI, 2, .inl lw)), (mu, .inl (cI, 4, .inl su)), (mc, .inl (cI, 4, .inl cu)), (mn, .inl (cI, 4, .inl nu)), (mq, .inl (cB, 1000, .inl wq))] [(y, .inr (5, [.int 0, .int (nI bi), .int (nI ne), .int (nI li), .int (nI sp), .int (nI q), .ref ms, .ref mw, .ref mu, .ref mc, .ref mn, .int en, .int (nI sz), .ref mr, .int (nI (wa - (z + 1 + tln q K (li - 1 - rw - q - 1) z))), .ref mq, .int la, .ref md, .int (nI (z + 1 + tln q K (li - 1 - rw - q - 1) z)), .int 0])), (mw, .inl (cI, 2, .inl lw)), (mu, .inl (cI, 4, .inl su)), (mc, .inl (cI, 4, .inl cu)), (mn, .inl (cI, 4, .inl nu)), (mq, .inl (cB, 1000, .inl (gof wq (z + 1 + tln q K (li - 1 - rw - q - 1) z) (wa - (z + 1 + tln q K (li - 1 - rw - q - 1) z)))))] D) 0 0 (ad [(y, .inr (5, [.int th, .int (nI bi), .int (nI ne), .int (nI li), .int (nI sp), .int (nI q), .ref ms, .ref mw, .ref mu, .ref mc, .ref mn, .int en, .int (nI sz), .ref mr, .int (nI wa), .ref mq, .int la, .ref md, .int at0, .int lk])), (mw, .inl (cI, 2, .inl lw)), (mu, .inl (cI, 4, .inl su)), (mc, .inl (cI, 4, .inl cu)), (mn, .inl (cI, 4, .inl nu)), (mq, .inl (cB, 1000, .inl wq))]) := by
  refine Met.ofW (cc := b_M_readInterrupt) (maxL := 7) (ret := (some .int)) (by decide) rfl ?_
  intro p e s m args below meth c s₁ B hml hv
  obtain ⟨rfl, hP, hK, hD0⟩ := hv
  have hx := B.exec
  have hb := B.bytes
  have hr := B.returns
  have hts := atoms_spec (ws := WSY y_M_readInterrupt b_M_readInterrupt 7 (some .int)) B.pre
  have hg : ∀ w ∈ GW, w.before _ s = true := fun w h => hts w (List.mem_cons_of_mem _ h)
  have hown : s.vm.findClass "LineGolombModel" = some m.cls := findClass_of_methodNamed B.named
  have hlocks := B.notSynchronized
  obtain ⟨A, hAe⟩ : ∃ A, A = ad [(y, .inr (5, [.int th, .int (nI bi), .int (nI ne), .int (nI li), .int (nI sp), .int (nI q), .ref ms, .ref mw, .ref mu, .ref mc, .ref mn, .int en, .int (nI sz), .ref mr, .int (nI wa), .ref mq, .int la, .ref md, .int at0, .int lk])), (mw, .inl (cI, 2, .inl lw)), (mu, .inl (cI, 4, .inl su)), (mc, .inl (cI, 4, .inl cu)), (mn, .inl (cI, 4, .inl nu)), (mq, .inl (cB, 1000, .inl wq))] := ⟨_, rfl⟩
  have hD : va_D A [(y, .inr (5, [.int th, .int (nI bi), .int (nI ne), .int (nI li), .int (nI sp), .int (nI q), .ref ms, .ref mw, .ref mu, .ref mc, .ref mn, .int en, .int (nI sz), .ref mr, .int (nI wa), .ref mq, .int la, .ref md, .int at0, .int lk])), (mw, .inl (cI, 2, .inl lw)), (mu, .inl (cI, 4, .inl su)), (mc, .inl (cI, 4, .inl cu)), (mn, .inl (cI, 4, .inl nu)), (mq, .inl (cB, 1000, .inl wq))] := by rw [hAe]; exact va_D_ad hD0
  have hS : va_S A s.heap s.heap [] := va_S.rf
  have hl := lv_entry ([.ref y, .int 1]) (n := 7) (Nat.le_of_ble_eq_true rfl)
  rw [lg_entry_eq]
  generalize (lg_sl ([.ref y, .int 1]) ++ List.replicate (7 - (lg_sl ([.ref y, .int 1])).length) Slot.unset).toArray = ls at hl ⊢
  have hl : lv_has ls 7 [(0, .ref y), (1, .int 1)] := hl
  refine lv_aload_n hx hb d_M_readInterrupt_0 rfl (lv_at hl 0 rfl) ?_
  refine lv_aload_n hx hb d_M_readInterrupt_1 rfl (lv_at hl 0 rfl) ?_
  refine lv_iload_n hx hb d_M_readInterrupt_2 rfl (lv_at hl 1 rfl) ?_
  have hPc := hP.sub (ws' := [(y, .inr (5, [.int th, .int (nI bi), .int (nI ne), .int (nI li), .int (nI sp), .int (nI q), .ref ms, .ref mw, .ref mu, .ref mc, .ref mn, .int en, .int (nI sz), .ref mr, .int (nI wa), .ref mq, .int la, .ref md, .int at0, .int lk]))]) [0] rfl
  have hKc := hK.sub (tys' := []) [] rfl
  refine pci (va_runV (As := [.int 1]) (rest := [.ref y]) ⟨hx, hb, hml, hown, hg⟩ (c_M_isKind l D y ms mw mu mc mn mr mq md bi ne li sp q sz wa th en la at0 lk 1) (cwV 1 hg (gV gw_626 gw_628 gs_18 gw_7 gw_629) rfl rfl rfl (by decide +kernel) ⟨Nat.le_of_ble_eq_true rfl, Nat.le_of_ble_eq_true rfl⟩) ⟨fun a U g mk q => by obtain ⟨q0, qP, qK⟩ := q; exact ⟨q0, qP, va_K.moved (u := U) (U := U.calling g mk a) (Vm.Alike.refl U.vm) qK⟩, va_recv hKc hPc (ci := 5) (q0 := 0) rfl rfl, fun U hU hW => ⟨rfl, by rw [hU]; exact hPc, va_K.moved hW.alike hKc⟩⟩ rfl rfl hl.1 rfl (lv_room (Nat.le_of_ble_eq_true rfl)) d_M_readInterrupt_3 (⟨Nat.le_of_ble_eq_true rfl, Nat.le_of_ble_eq_true rfl⟩)) ?_
  refine tpi (y := 1) (by decide) ?_
  refine lv_if_eq (tgt := 13) hx hb d_M_readInterrupt_6 (by decide) (fun c_1 => ?_) (fun c_1 => ?_)
  · skip
    exact absurd c_1 (by decide)
  · skip
    refine lv_iconst (v := 0) hx hb d_M_readInterrupt_9 (by decide) ?_
    refine lv_goto (tgt := 14) hx hb d_M_readInterrupt_10 (by decide) ?_
    refine va_put (D := D) (ci := 5) (v := .int 0) (ty := .int) (C := R_M) (T := T_M) (N := 20) hx hb hg in_M ty_M tok_M nm_M hown hK hP hD hS 0 rfl rfl 0 (by decide) (hg _ gw_524) (fun _ h9 => h9) rfl (by decide +kernel) (rfl) (rfl) (Nat.le_of_ble_eq_true rfl) d_M_readInterrupt_14 (fun H locs hP hD hS => ?_)
    have hP : va_P D CLS [(y, .inr (5, [.int 0, .int (nI bi), .int (nI ne), .int (nI li), .int (nI sp), .int (nI q), .ref ms, .ref mw, .ref mu, .ref mc, .ref mn, .int en, .int (nI sz), .ref mr, .int (nI wa), .ref mq, .int la, .ref md, .int at0, .int lk])), (mw, .inl (cI, 2, .inl lw)), (mu, .inl (cI, 4, .inl su)), (mc, .inl (cI, 4, .inl cu)), (mn, .inl (cI, 4, .inl nu)), (mq, .inl (cB, 1000, .inl wq))] H := hP
    have hD : va_D A [(y, .inr (5, [.int 0, .int (nI bi), .int (nI ne), .int (nI li), .int (nI sp), .int (nI q), .ref ms, .ref mw, .ref mu, .ref mc, .ref mn, .int en, .int (nI sz), .ref mr, .int (nI wa), .ref mq, .int la, .ref md, .int at0, .int lk])), (mw, .inl (cI, 2, .inl lw)), (mu, .inl (cI, 4, .inl su)), (mc, .inl (cI, 4, .inl cu)), (mn, .inl (cI, 4, .inl nu)), (mq, .inl (cB, 1000, .inl wq))] := hD
    refine lv_aload_n hx hb d_M_readInterrupt_17 rfl (lv_at hl 0 rfl) ?_
    refine va_get (D := D) (ci := 5) (v := .int 0) (C := R_M) (T := T_M) (N := 20) hx hb hg in_M hown hK hP 0 rfl rfl 0 (by decide) (hg _ gw_524) (fun _ h9 => h9) rfl d_M_readInterrupt_18 ?_
    refine lv_if_le (tgt := 26) hx hb d_M_readInterrupt_21 (by decide) (fun c_2 => ?_) (fun c_2 => ?_)
    · skip
      refine lv_iconst (v := 2) hx hb d_M_readInterrupt_26 (by decide) ?_
      refine lv_iload_n hx hb d_M_readInterrupt_27 rfl (lv_at hl 1 rfl) ?_
      refine lv_iadd hx hb d_M_readInterrupt_28 ?_
      refine tpi (y := 3) (by decide) ?_
      refine lv_istore_n (lv' := [(2, .int 3), (0, .ref y), (1, .int 1)]) hx hb d_M_readInterrupt_29 rfl hl (by decide) rfl (fun ls hl => ?_)
      refine lv_aload_n hx hb d_M_readInterrupt_30 rfl (lv_at hl 1 rfl) ?_
      refine lv_aload_n hx hb d_M_readInterrupt_31 rfl (lv_at hl 1 rfl) ?_
      refine lv_iload_n hx hb d_M_readInterrupt_32 rfl (lv_at hl 0 rfl) ?_
      have hPc := hP.sub (ws' := [(y, .inr (5, [.int 0, .int (nI bi), .int (nI ne), .int (nI li), .int (nI sp), .int (nI q), .ref ms, .ref mw, .ref mu, .ref mc, .ref mn, .int en, .int (nI sz), .ref mr, .int (nI wa), .ref mq, .int la, .ref md, .int at0, .int lk])), (mu, .inl (cI, 4, .inl su)), (mc, .inl (cI, 4, .inl cu)), (mn, .inl (cI, 4, .inl nu))]) [0, 2, 3, 4] rfl
      have hKc := hK.sub (tys' := [(cI, .int)]) [1] rfl
      refine pci (va_runV (As := [.int 3]) (rest := [.ref y]) ⟨hx, hb, hml, hown, hg⟩ (c_M_kOf3 l D y ms mw mu mc mn mr mq md bi ne li sp q sz wa 0 en la at0 lk cI su cu nu sm ct ng K hsu hcu hnu hc0 hn0 (by omega) hKb hK1 hK2) (cwV 1 hg (gV gw_638 gw_640 gs_21 gw_7 gw_641) rfl rfl rfl (by decide +kernel) ⟨Nat.le_of_ble_eq_true rfl, Nat.le_of_ble_eq_true rfl⟩) ⟨fun a U g mk q => by obtain ⟨q0, qP, qK⟩ := q; exact ⟨q0, qP, va_K.moved (u := U) (U := U.calling g mk a) (Vm.Alike.refl U.vm) qK⟩, va_recv hKc hPc (ci := 5) (q0 := 0) rfl rfl, fun U hU hW => ⟨rfl, by rw [hU]; exact hPc, va_K.moved hW.alike hKc⟩⟩ rfl rfl hl.1 rfl (lv_room (Nat.le_of_ble_eq_true rfl)) d_M_readInterrupt_33 (⟨Nat.le_of_ble_eq_true rfl, Nat.le_of_ble_eq_true rfl⟩)) ?_
      refine lv_aload_n hx hb d_M_readInterrupt_36 rfl (lv_at hl 1 rfl) ?_
      refine lv_iconst (v := 1) hx hb d_M_readInterrupt_37 (by decide) ?_
      have hPc := hP.sub (ws' := [(y, .inr (5, [.int 0, .int (nI bi), .int (nI ne), .int (nI li), .int (nI sp), .int (nI q), .ref ms, .ref mw, .ref mu, .ref mc, .ref mn, .int en, .int (nI sz), .ref mr, .int (nI wa), .ref mq, .int la, .ref md, .int at0, .int lk])), (mw, .inl (cI, 2, .inl lw))]) [0, 1] rfl
      have hKc := hK.sub (tys' := [(cI, .int)]) [1] rfl
      refine pci (va_runV (As := [.int 1]) (rest := [.int (nI K), .ref y]) ⟨hx, hb, hml, hown, hg⟩ (c_M_limitFor1 l D y ms mw mu mc mn mr mq md bi ne li sp q sz wa 0 en la at0 lk cI lw rw hlw (by omega)) (cwV 1 hg (gV gw_642 gw_644 gs_22 gw_7 gw_645) rfl rfl rfl (by decide +kernel) ⟨Nat.le_of_ble_eq_true rfl, Nat.le_of_ble_eq_true rfl⟩) ⟨fun a U g mk q => by obtain ⟨q0, qP, qK⟩ := q; exact ⟨q0, qP, va_K.moved (u := U) (U := U.calling g mk a) (Vm.Alike.refl U.vm) qK⟩, va_recv hKc hPc (ci := 5) (q0 := 0) rfl rfl, fun U hU hW => ⟨rfl, by rw [hU]; exact hPc, va_K.moved hW.alike hKc⟩⟩ rfl rfl hl.1 rfl (lv_room (Nat.le_of_ble_eq_true rfl)) d_M_readInterrupt_38 (⟨Nat.le_of_ble_eq_true rfl, Nat.le_of_ble_eq_true rfl⟩)) ?_
      have hPc := hP.sub (ws' := [(y, .inr (5, [.int 0, .int (nI bi), .int (nI ne), .int (nI li), .int (nI sp), .int (nI q), .ref ms, .ref mw, .ref mu, .ref mc, .ref mn, .int en, .int (nI sz), .ref mr, .int (nI wa), .ref mq, .int la, .ref md, .int at0, .int lk])), (mq, .inl (cB, 1000, .inl wq))]) [0, 5] rfl
      have hDc := hD.sub (ws' := [(y, .inr (5, [.int 0, .int (nI bi), .int (nI ne), .int (nI li), .int (nI sp), .int (nI q), .ref ms, .ref mw, .ref mu, .ref mc, .ref mn, .int en, .int (nI sz), .ref mr, .int (nI wa), .ref mq, .int la, .ref md, .int at0, .int lk])), (mq, .inl (cB, 1000, .inl wq))]) [0, 5] (by decide) rfl
      have hKc := hK.sub (tys' := [(cB, .byte)]) [0] rfl
      refine mci (va_runV (As := [.int (nI K), .int (nI (li - 1 - rw))]) (rest := []) ⟨hx, hb, hml, hown, hg⟩ (c_M_lookG l D y ms mw mu mc mn mr mq md bi ne li sp q sz wa 0 en la at0 lk cB wq K (li - 1 - rw) z hwa (by omega) (by omega) (by omega) (by omega) hz1 hz2 hz3 hz4 hzm hw hzk) (cwV 2 hg (gV gw_674 gw_676 gs_25 gw_7 gw_677) rfl rfl rfl (by decide +kernel) ⟨Nat.le_of_ble_eq_true rfl, Nat.le_of_ble_eq_true rfl⟩) ⟨fun a U g mk q => by obtain ⟨q0, qP, qK, qD⟩ := q; exact ⟨q0, qP, va_K.moved (u := U) (U := U.calling g mk a) (Vm.Alike.refl U.vm) qK, qD⟩, va_recv hKc hPc (ci := 5) (q0 := 0) rfl rfl, fun U hU hW => ⟨rfl, by rw [hU]; exact hPc, va_K.moved hW.alike hKc, hDc.weaken (fun _ _ _ _ => trivial)⟩⟩ rfl rfl hl.1 rfl (lv_room (Nat.le_of_ble_eq_true rfl)) d_M_readInterrupt_41 (⟨Nat.le_of_ble_eq_true rfl, Nat.le_of_ble_eq_true rfl⟩)) hS hP hD [0, 5] rfl rfl rfl (fun H locs hP hD hS => ?_)
      have hP : va_P D CLS [(y, .inr (5, [.int 0, .int (nI bi), .int (nI ne), .int (nI li), .int (nI sp), .int (nI q), .ref ms, .ref mw, .ref mu, .ref mc, .ref mn, .int en, .int (nI sz), .ref mr, .int (nI wa), .ref mq, .int la, .ref md, .int (nI (z + 1 + tln q K (li - 1 - rw - q - 1) z)), .int 0])), (mw, .inl (cI, 2, .inl lw)), (mu, .inl (cI, 4, .inl su)), (mc, .inl (cI, 4, .inl cu)), (mn, .inl (cI, 4, .inl nu)), (mq, .inl (cB, 1000, .inl wq))] H := hP
      have hD : va_D A [(y, .inr (5, [.int 0, .int (nI bi), .int (nI ne), .int (nI li), .int (nI sp), .int (nI q), .ref ms, .ref mw, .ref mu, .ref mc, .ref mn, .int en, .int (nI sz), .ref mr, .int (nI wa), .ref mq, .int la, .ref md, .int (nI (z + 1 + tln q K (li - 1 - rw - q - 1) z)), .int 0])), (mw, .inl (cI, 2, .inl lw)), (mu, .inl (cI, 4, .inl su)), (mc, .inl (cI, 4, .inl cu)), (mn, .inl (cI, 4, .inl nu)), (mq, .inl (cB, 1000, .inl wq))] := hD
      refine tpi (y := nI N) (hN) ?_
      refine lv_istore_n (lv' := [(3, .int (nI N)), (2, .int 3), (0, .ref y), (1, .int 1)]) hx hb d_M_readInterrupt_44 rfl hl (by decide) rfl (fun ls hl => ?_)
      refine lv_iload_n hx hb d_M_readInterrupt_45 rfl (lv_at hl 0 rfl) ?_
      refine lv_iconst (v := (-1)) hx hb d_M_readInterrupt_46 (by decide) ?_
      refine lv_icmp_ne (tgt := 53) hx hb d_M_readInterrupt_47 (by decide) (fun c_3 => ?_) (fun c_3 => ?_)
      · skip
        refine lv_aload_n hx hb d_M_readInterrupt_53 rfl (lv_at hl 2 rfl) ?_
        refine lv_aload_n hx hb d_M_readInterrupt_54 rfl (lv_at hl 2 rfl) ?_
        refine va_get (D := D) (ci := 5) (v := .int (nI (z + 1 + tln q K (li - 1 - rw - q - 1) z))) (C := R_M) (T := T_M) (N := 20) hx hb hg in_M hown hK hP 0 rfl rfl 18 (by decide) (hg _ gw_542) (fun _ h9 => h9) rfl d_M_readInterrupt_55 ?_
        have hPc := hP.sub (ws' := [(y, .inr (5, [.int 0, .int (nI bi), .int (nI ne), .int (nI li), .int (nI sp), .int (nI q), .ref ms, .ref mw, .ref mu, .ref mc, .ref mn, .int en, .int (nI sz), .ref mr, .int (nI wa), .ref mq, .int la, .ref md, .int (nI (z + 1 + tln q K (li - 1 - rw - q - 1) z)), .int 0])), (mq, .inl (cB, 1000, .inl wq))]) [0, 5] rfl
        have hDc := hD.sub (ws' := [(y, .inr (5, [.int 0, .int (nI bi), .int (nI ne), .int (nI li), .int (nI sp), .int (nI q), .ref ms, .ref mw, .ref mu, .ref mc, .ref mn, .int en, .int (nI sz), .ref mr, .int (nI wa), .ref mq, .int la, .ref md, .int (nI (z + 1 + tln q K (li - 1 - rw - q - 1) z)), .int 0])), (mq, .inl (cB, 1000, .inl wq))]) [0, 5] (by decide) rfl
        have hKc := hK.sub (tys' := [(cB, .byte)]) [0] rfl
        refine mcv (va_runV (As := [.int (nI (z + 1 + tln q K (li - 1 - rw - q - 1) z))]) (rest := []) ⟨hx, hb, hml, hown, hg⟩ (c_M_go l D y ms mw mu mc mn mr mq md bi ne li sp q sz wa 0 en la (nI (z + 1 + tln q K (li - 1 - rw - q - 1) z)) 0 cB wq (z + 1 + tln q K (li - 1 - rw - q - 1) z) hwa (by omega) hqb) (cwV 1 hg (gV gw_686 gw_688 gs_28 gw_7 gw_689) rfl rfl rfl (by decide +kernel) ⟨Nat.le_of_ble_eq_true rfl, Nat.le_of_ble_eq_true rfl⟩) ⟨fun a U g mk q => by obtain ⟨q0, qP, qK, qD⟩ := q; exact ⟨q0, qP, va_K.moved (u := U) (U := U.calling g mk a) (Vm.Alike.refl U.vm) qK, qD⟩, va_recv hKc hPc (ci := 5) (q0 := 0) rfl rfl, fun U hU hW => ⟨rfl, by rw [hU]; exact hPc, va_K.moved hW.alike hKc, hDc.weaken (fun _ _ _ _ => trivial)⟩⟩ rfl rfl hl.1 rfl (lv_room (Nat.le_of_ble_eq_true rfl)) d_M_readInterrupt_58 (⟨Nat.le_of_ble_eq_true rfl, Nat.le_of_ble_eq_true rfl⟩)) hS hP hD [0, 5] rfl rfl rfl (fun H locs hP hD hS => ?_)
        have hP : va_P D CLS [(y, .inr (5, [.int 0, .int (nI bi), .int (nI ne), .int (nI li), .int (nI sp), .int (nI q), .ref ms, .ref mw, .ref mu, .ref mc, .ref mn, .int en, .int (nI sz), .ref mr, .int (nI (wa - (z + 1 + tln q K (li - 1 - rw - q - 1) z))), .ref mq, .int la, .ref md, .int (nI (z + 1 + tln q K (li - 1 - rw - q - 1) z)), .int 0])), (mw, .inl (cI, 2, .inl lw)), (mu, .inl (cI, 4, .inl su)), (mc, .inl (cI, 4, .inl cu)), (mn, .inl (cI, 4, .inl nu)), (mq, .inl (cB, 1000, .inl (gof wq (z + 1 + tln q K (li - 1 - rw - q - 1) z) (wa - (z + 1 + tln q K (li - 1 - rw - q - 1) z)))))] H := hP
        have hD : va_D A [(y, .inr (5, [.int 0, .int (nI bi), .int (nI ne), .int (nI li), .int (nI sp), .int (nI q), .ref ms, .ref mw, .ref mu, .ref mc, .ref mn, .int en, .int (nI sz), .ref mr, .int (nI (wa - (z + 1 + tln q K (li - 1 - rw - q - 1) z))), .ref mq, .int la, .ref md, .int (nI (z + 1 + tln q K (li - 1 - rw - q - 1) z)), .int 0])), (mw, .inl (cI, 2, .inl lw)), (mu, .inl (cI, 4, .inl su)), (mc, .inl (cI, 4, .inl cu)), (mn, .inl (cI, 4, .inl nu)), (mq, .inl (cB, 1000, .inl (gof wq (z + 1 + tln q K (li - 1 - rw - q - 1) z) (wa - (z + 1 + tln q K (li - 1 - rw - q - 1) z)))))] := hD
        refine lv_iload_n hx hb d_M_readInterrupt_61 rfl (lv_at hl 0 rfl) ?_
        refine lv_bipush (v := (-2)) hx hb d_M_readInterrupt_62 (by decide) ?_
        refine lv_icmp_ne (tgt := 70) hx hb d_M_readInterrupt_64 (by decide) (fun c_4 => ?_) (fun c_4 => ?_)
        · skip
          refine lv_iload_n hx hb d_M_readInterrupt_70 rfl (lv_at hl 0 rfl) ?_
          refine lv_iload_n hx hb d_M_readInterrupt_71 rfl (lv_at hl 3 rfl) ?_
          refine lv_iadd hx hb d_M_readInterrupt_72 ?_
          refine tpi (y := nI (N + 1)) (nI_add _ 1) ?_
          refine lv_iconst (v := 2) hx hb d_M_readInterrupt_73 (by decide) ?_
          refine lv_irem hx hb d_M_readInterrupt_74 (by decide) ?_
          refine tpi (y := nI ((N + 1) % 2)) (rem2 (by omega)) ?_
          refine lv_iconst (v := 1) hx hb d_M_readInterrupt_75 (by decide) ?_
          refine lv_icmp_ne (tgt := 83) hx hb d_M_readInterrupt_76 (by decide) (fun c_5 => ?_) (fun c_5 => ?_)
          · skip
            have hodd : ¬ (N + 1) % 2 = 1 := fun q9 => c_5 (by rw [q9]; rfl)
            refine lv_iconst (v := 0) hx hb d_M_readInterrupt_83 (by decide) ?_
            refine lv_istore (lv' := [(4, .int 0), (3, .int (nI N)), (2, .int 3), (0, .ref y), (1, .int 1)]) hx hb d_M_readInterrupt_84 hl (by decide) rfl (fun ls hl => ?_)
            refine lv_iload_n hx hb d_M_readInterrupt_86 rfl (lv_at hl 1 rfl) ?_
            refine lv_iload_n hx hb d_M_readInterrupt_87 rfl (lv_at hl 4 rfl) ?_
            refine lv_iadd hx hb d_M_readInterrupt_88 ?_
            refine tpi (y := nI (N + 1)) (nI_add _ 1) ?_
            refine lv_iload hx hb d_M_readInterrupt_89 (lv_at hl 0 rfl) ?_
            refine lv_if_eq (tgt := 98) hx hb d_M_readInterrupt_91 (by decide) (fun c_6 => ?_) (fun c_6 => ?_)
            · skip
              refine lv_iconst (v := 0) hx hb d_M_readInterrupt_98 (by decide) ?_
              refine lv_iadd hx hb d_M_readInterrupt_99 ?_
              refine tpi (y := nI (N + 1 + 0)) (nI_add _ 0) ?_
              refine lv_iconst (v := 2) hx hb d_M_readInterrupt_100 (by decide) ?_
              refine lv_idiv hx hb d_M_readInterrupt_101 (by decide) ?_
              refine tpi (y := nI ((N + 1 + 1) / 2)) ((div2 (by omega)).trans (congrArg nI (by omega))) ?_
              refine lv_istore (lv' := [(5, .int (nI ((N + 1 + 1) / 2))), (4, .int 0), (3, .int (nI N)), (2, .int 3), (0, .ref y), (1, .int 1)]) hx hb d_M_readInterrupt_102 hl (by decide) rfl (fun ls hl => ?_)
              refine lv_aload_n hx hb d_M_readInterrupt_104 rfl (lv_at hl 4 rfl) ?_
              refine lv_iload_n hx hb d_M_readInterrupt_105 rfl (lv_at hl 3 rfl) ?_
              have hPc := hP.sub (ws' := [(y, .inr (5, [.int 0, .int (nI bi), .int (nI ne), .int (nI li), .int (nI sp), .int (nI q), .ref ms, .ref mw, .ref mu, .ref mc, .ref mn, .int en, .int (nI sz), .ref mr, .int (nI (wa - (z + 1 + tln q K (li - 1 - rw - q - 1) z))), .ref mq, .int la, .ref md, .int (nI (z + 1 + tln q K (li - 1 - rw - q - 1) z)), .int 0])), (mu, .inl (cI, 4, .inl su)), (mc, .inl (cI, 4, .inl cu)), (mn, .inl (cI, 4, .inl nu))]) [0, 2, 3, 4] rfl
              have hKc := hK.sub (tys' := [(cI, .int)]) [1] rfl
              refine pci (va_runV (As := [.int 3]) (rest := []) ⟨hx, hb, hml, hown, hg⟩ (c_M_isUp3 l D y ms mw mu mc mn mr mq md bi ne li sp q sz (wa - (z + 1 + tln q K (li - 1 - rw - q - 1) z)) 0 en la (nI (z + 1 + tln q K (li - 1 - rw - q - 1) z)) 0 cI su cu nu sm ct ng K hsu hcu hnu hc0 hn0 (by omega) hKb hK1 hK2) (cwV 1 hg (gV gw_634 gw_636 gs_20 gw_7 gw_637) rfl rfl rfl (by decide +kernel) ⟨Nat.le_of_ble_eq_true rfl, Nat.le_of_ble_eq_true rfl⟩) ⟨fun a U g mk q => by obtain ⟨q0, qP, qK⟩ := q; exact ⟨q0, qP, va_K.moved (u := U) (U := U.calling g mk a) (Vm.Alike.refl U.vm) qK⟩, va_recv hKc hPc (ci := 5) (q0 := 0) rfl rfl, fun U hU hW => ⟨rfl, by rw [hU]; exact hPc, va_K.moved hW.alike hKc⟩⟩ rfl rfl hl.1 rfl (lv_room (Nat.le_of_ble_eq_true rfl)) d_M_readInterrupt_106 (⟨Nat.le_of_ble_eq_true rfl, Nat.le_of_ble_eq_true rfl⟩)) ?_
              by_cases hup : (K = 0 ∧ 2 * ng < ct)
              · skip
                refine tpi (y := 1) (if_pos hup) ?_
                have hcn : ¬ ((N + 1) % 2 = 1 ↔ (K = 0 ∧ 2 * ng < ct)) := fun q9 => hodd (q9.mpr hup)
                refine lv_iload hx hb d_M_readInterrupt_109 (lv_at hl 1 rfl) ?_
                refine lv_icmp_ne (tgt := 119) hx hb d_M_readInterrupt_111 (by decide) (fun c_7 => ?_) (fun c_7 => ?_)
                · skip
                  refine lv_iload hx hb d_M_readInterrupt_119 (lv_at hl 0 rfl) ?_
                  refine lv_ineg hx hb d_M_readInterrupt_121 ?_
                  refine tpi (y := eb) (by rw [heb, if_neg hcn]) ?_
                  refine lv_istore (lv' := [(6, .int eb), (5, .int (nI ((N + 1 + 1) / 2))), (4, .int 0), (3, .int (nI N)), (2, .int 3), (0, .ref y), (1, .int 1)]) hx hb d_M_readInterrupt_122 hl (by decide) rfl (fun ls hl => ?_)
                  refine lv_aload_n hx hb d_M_readInterrupt_124 rfl (lv_at hl 5 rfl) ?_
                  refine lv_iload_n hx hb d_M_readInterrupt_125 rfl (lv_at hl 6 rfl) ?_
                  refine lv_iload hx hb d_M_readInterrupt_126 (lv_at hl 0 rfl) ?_
                  have hPc := hP.sub (ws' := [(y, .inr (5, [.int 0, .int (nI bi), .int (nI ne), .int (nI li), .int (nI sp), .int (nI q), .ref ms, .ref mw, .ref mu, .ref mc, .ref mn, .int en, .int (nI sz), .ref mr, .int (nI (wa - (z + 1 + tln q K (li - 1 - rw - q - 1) z))), .ref mq, .int la, .ref md, .int (nI (z + 1 + tln q K (li - 1 - rw - q - 1) z)), .int 0]))]) [0] rfl
                  have hKc := hK.sub (tys' := []) [] rfl
                  refine pci (va_runV (As := [.int 1, .int eb]) (rest := []) ⟨hx, hb, hml, hown, hg⟩ (c_M_isError l D y ms mw mu mc mn mr mq md bi ne li sp q sz (wa - (z + 1 + tln q K (li - 1 - rw - q - 1) z)) 0 en la (nI (z + 1 + tln q K (li - 1 - rw - q - 1) z)) 0 1 eb (by omega)) (cwV 2 hg (gV gw_630 gw_632 gs_19 gw_7 gw_633) rfl rfl rfl (by decide +kernel) ⟨Nat.le_of_ble_eq_true rfl, Nat.le_of_ble_eq_true rfl⟩) ⟨fun a U g mk q => by obtain ⟨q0, qP, qK⟩ := q; exact ⟨q0, qP, va_K.moved (u := U) (U := U.calling g mk a) (Vm.Alike.refl U.vm) qK⟩, va_recv hKc hPc (ci := 5) (q0 := 0) rfl rfl, fun U hU hW => ⟨rfl, by rw [hU]; exact hPc, va_K.moved hW.alike hKc⟩⟩ rfl rfl hl.1 rfl (lv_room (Nat.le_of_ble_eq_true rfl)) d_M_readInterrupt_128 (⟨Nat.le_of_ble_eq_true rfl, Nat.le_of_ble_eq_true rfl⟩)) ?_
                  refine tpi (y := 0) (if_neg hbad) ?_
                  refine lv_if_ne (tgt := 137) hx hb d_M_readInterrupt_131 (by decide) (fun c_8 => ?_) (fun c_8 => ?_)
                  · skip
                    exact absurd rfl c_8
                  · skip
                    refine lv_ldc (v := 2147483647) hx hb hown (hg _ gw_698) d_M_readInterrupt_134 ?_
                    exact W.iret (v := 2147483647) hx hb hr (fun t ht hW => ⟨rfl, by rw [ht]; exact hP, (hAe ▸ hS).F ht⟩) (hAe ▸ hS).2.2 d_M_readInterrupt_136
                · skip
                  exact absurd c_7 (by decide)
              · skip
                refine tpi (y := 0) (if_neg hup) ?_
                have hcn : ((N + 1) % 2 = 1 ↔ (K = 0 ∧ 2 * ng < ct)) := ⟨fun q9 => absurd q9 hodd, fun q9 => absurd q9 hup⟩
                refine lv_iload hx hb d_M_readInterrupt_109 (lv_at hl 1 rfl) ?_
                refine lv_icmp_ne (tgt := 119) hx hb d_M_readInterrupt_111 (by decide) (fun c_9 => ?_) (fun c_9 => ?_)
                · skip
                  exact absurd rfl c_9
                · skip
                  refine lv_iload hx hb d_M_readInterrupt_114 (lv_at hl 0 rfl) ?_
                  refine lv_goto (tgt := 122) hx hb d_M_readInterrupt_116 (by decide) ?_
                  refine tpi (y := eb) (by rw [heb, if_pos hcn]) ?_
                  refine lv_istore (lv' := [(6, .int eb), (5, .int (nI ((N + 1 + 1) / 2))), (4, .int 0), (3, .int (nI N)), (2, .int 3), (0, .ref y), (1, .int 1)]) hx hb d_M_readInterrupt_122 hl (by decide) rfl (fun ls hl => ?_)
                  refine lv_aload_n hx hb d_M_readInterrupt_124 rfl (lv_at hl 5 rfl) ?_
                  refine lv_iload_n hx hb d_M_readInterrupt_125 rfl (lv_at hl 6 rfl) ?_
                  refine lv_iload hx hb d_M_readInterrupt_126 (lv_at hl 0 rfl) ?_
                  have hPc := hP.sub (ws' := [(y, .inr (5, [.int 0, .int (nI bi), .int (nI ne), .int (nI li), .int (nI sp), .int (nI q), .ref ms, .ref mw, .ref mu, .ref mc, .ref mn, .int en, .int (nI sz), .ref mr, .int (nI (wa - (z + 1 + tln q K (li - 1 - rw - q - 1) z))), .ref mq, .int la, .ref md, .int (nI (z + 1 + tln q K (li - 1 - rw - q - 1) z)), .int 0]))]) [0] rfl
                  have hKc := hK.sub (tys' := []) [] rfl
                  refine pci (va_runV (As := [.int 1, .int eb]) (rest := []) ⟨hx, hb, hml, hown, hg⟩ (c_M_isError l D y ms mw mu mc mn mr mq md bi ne li sp q sz (wa - (z + 1 + tln q K (li - 1 - rw - q - 1) z)) 0 en la (nI (z + 1 + tln q K (li - 1 - rw - q - 1) z)) 0 1 eb (by omega)) (cwV 2 hg (gV gw_630 gw_632 gs_19 gw_7 gw_633) rfl rfl rfl (by decide +kernel) ⟨Nat.le_of_ble_eq_true rfl, Nat.le_of_ble_eq_true rfl⟩) ⟨fun a U g mk q => by obtain ⟨q0, qP, qK⟩ := q; exact ⟨q0, qP, va_K.moved (u := U) (U := U.calling g mk a) (Vm.Alike.refl U.vm) qK⟩, va_recv hKc hPc (ci := 5) (q0 := 0) rfl rfl, fun U hU hW => ⟨rfl, by rw [hU]; exact hPc, va_K.moved hW.alike hKc⟩⟩ rfl rfl hl.1 rfl (lv_room (Nat.le_of_ble_eq_true rfl)) d_M_readInterrupt_128 (⟨Nat.le_of_ble_eq_true rfl, Nat.le_of_ble_eq_true rfl⟩)) ?_
                  refine tpi (y := 0) (if_neg hbad) ?_
                  refine lv_if_ne (tgt := 137) hx hb d_M_readInterrupt_131 (by decide) (fun c_10 => ?_) (fun c_10 => ?_)
                  · skip
                    exact absurd rfl c_10
                  · skip
                    refine lv_ldc (v := 2147483647) hx hb hown (hg _ gw_698) d_M_readInterrupt_134 ?_
                    exact W.iret (v := 2147483647) hx hb hr (fun t ht hW => ⟨rfl, by rw [ht]; exact hP, (hAe ▸ hS).F ht⟩) (hAe ▸ hS).2.2 d_M_readInterrupt_136
            · skip
              exact absurd rfl c_6
          · skip
            have hodd : (N + 1) % 2 = 1 := (nI_eq (b := 1) (by omega) (by omega)).mp c_5
            refine lv_iconst (v := 1) hx hb d_M_readInterrupt_79 (by decide) ?_
            refine lv_goto (tgt := 84) hx hb d_M_readInterrupt_80 (by decide) ?_
            refine lv_istore (lv' := [(4, .int 1), (3, .int (nI N)), (2, .int 3), (0, .ref y), (1, .int 1)]) hx hb d_M_readInterrupt_84 hl (by decide) rfl (fun ls hl => ?_)
            refine lv_iload_n hx hb d_M_readInterrupt_86 rfl (lv_at hl 1 rfl) ?_
            refine lv_iload_n hx hb d_M_readInterrupt_87 rfl (lv_at hl 4 rfl) ?_
            refine lv_iadd hx hb d_M_readInterrupt_88 ?_
            refine tpi (y := nI (N + 1)) (nI_add _ 1) ?_
            refine lv_iload hx hb d_M_readInterrupt_89 (lv_at hl 0 rfl) ?_
            refine lv_if_eq (tgt := 98) hx hb d_M_readInterrupt_91 (by decide) (fun c_11 => ?_) (fun c_11 => ?_)
            · skip
              exact absurd c_11 (by decide)
            · skip
              refine lv_iconst (v := 1) hx hb d_M_readInterrupt_94 (by decide) ?_
              refine lv_goto (tgt := 99) hx hb d_M_readInterrupt_95 (by decide) ?_
              refine lv_iadd hx hb d_M_readInterrupt_99 ?_
              refine tpi (y := nI (N + 1 + 1)) (nI_add _ 1) ?_
              refine lv_iconst (v := 2) hx hb d_M_readInterrupt_100 (by decide) ?_
              refine lv_idiv hx hb d_M_readInterrupt_101 (by decide) ?_
              refine tpi (y := nI ((N + 1 + 1) / 2)) ((div2 (by omega)).trans (congrArg nI (by omega))) ?_
              refine lv_istore (lv' := [(5, .int (nI ((N + 1 + 1) / 2))), (4, .int 1), (3, .int (nI N)), (2, .int 3), (0, .ref y), (1, .int 1)]) hx hb d_M_readInterrupt_102 hl (by decide) rfl (fun ls hl => ?_)
              refine lv_aload_n hx hb d_M_readInterrupt_104 rfl (lv_at hl 4 rfl) ?_
              refine lv_iload_n hx hb d_M_readInterrupt_105 rfl (lv_at hl 3 rfl) ?_
              have hPc := hP.sub (ws' := [(y, .inr (5, [.int 0, .int (nI bi), .int (nI ne), .int (nI li), .int (nI sp), .int (nI q), .ref ms, .ref mw, .ref mu, .ref mc, .ref mn, .int en, .int (nI sz), .ref mr, .int (nI (wa - (z + 1 + tln q K (li - 1 - rw - q - 1) z))), .ref mq, .int la, .ref md, .int (nI (z + 1 + tln q K (li - 1 - rw - q - 1) z)), .int 0])), (mu, .inl (cI, 4, .inl su)), (mc, .inl (cI, 4, .inl cu)), (mn, .inl (cI, 4, .inl nu))]) [0, 2, 3, 4] rfl
              have hKc := hK.sub (tys' := [(cI, .int)]) [1] rfl
              refine pci (va_runV (As := [.int 3]) (rest := []) ⟨hx, hb, hml, hown, hg⟩ (c_M_isUp3 l D y ms mw mu mc mn mr mq md bi ne li sp q sz (wa - (z + 1 + tln q K (li - 1 - rw - q - 1) z)) 0 en la (nI (z + 1 + tln q K (li - 1 - rw - q - 1) z)) 0 cI su cu nu sm ct ng K hsu hcu hnu hc0 hn0 (by omega) hKb hK1 hK2) (cwV 1 hg (gV gw_634 gw_636 gs_20 gw_7 gw_637) rfl rfl rfl (by decide +kernel) ⟨Nat.le_of_ble_eq_true rfl, Nat.le_of_ble_eq_true rfl⟩) ⟨fun a U g mk q => by obtain ⟨q0, qP, qK⟩ := q; exact ⟨q0, qP, va_K.moved (u := U) (U := U.calling g mk a) (Vm.Alike.refl U.vm) qK⟩, va_recv hKc hPc (ci := 5) (q0 := 0) rfl rfl, fun U hU hW => ⟨rfl, by rw [hU]; exact hPc, va_K.moved hW.alike hKc⟩⟩ rfl rfl hl.1 rfl (lv_room (Nat.le_of_ble_eq_true rfl)) d_M_readInterrupt_106 (⟨Nat.le_of_ble_eq_true rfl, Nat.le_of_ble_eq_true rfl⟩)) ?_
              by_cases hup : (K = 0 ∧ 2 * ng < ct)
              · skip
                refine tpi (y := 1) (if_pos hup) ?_
                have hcn : ((N + 1) % 2 = 1 ↔ (K = 0 ∧ 2 * ng < ct)) := ⟨fun _ => hup, fun _ => hodd⟩
                refine lv_iload hx hb d_M_readInterrupt_109 (lv_at hl 1 rfl) ?_
                refine lv_icmp_ne (tgt := 119) hx hb d_M_readInterrupt_111 (by decide) (fun c_12 => ?_) (fun c_12 => ?_)
                · skip
                  exact absurd rfl c_12
                · skip
                  refine lv_iload hx hb d_M_readInterrupt_114 (lv_at hl 0 rfl) ?_
                  refine lv_goto (tgt := 122) hx hb d_M_readInterrupt_116 (by decide) ?_
                  refine tpi (y := eb) (by rw [heb, if_pos hcn]) ?_
                  refine lv_istore (lv' := [(6, .int eb), (5, .int (nI ((N + 1 + 1) / 2))), (4, .int 1), (3, .int (nI N)), (2, .int 3), (0, .ref y), (1, .int 1)]) hx hb d_M_readInterrupt_122 hl (by decide) rfl (fun ls hl => ?_)
                  refine lv_aload_n hx hb d_M_readInterrupt_124 rfl (lv_at hl 5 rfl) ?_
                  refine lv_iload_n hx hb d_M_readInterrupt_125 rfl (lv_at hl 6 rfl) ?_
                  refine lv_iload hx hb d_M_readInterrupt_126 (lv_at hl 0 rfl) ?_
                  have hPc := hP.sub (ws' := [(y, .inr (5, [.int 0, .int (nI bi), .int (nI ne), .int (nI li), .int (nI sp), .int (nI q), .ref ms, .ref mw, .ref mu, .ref mc, .ref mn, .int en, .int (nI sz), .ref mr, .int (nI (wa - (z + 1 + tln q K (li - 1 - rw - q - 1) z))), .ref mq, .int la, .ref md, .int (nI (z + 1 + tln q K (li - 1 - rw - q - 1) z)), .int 0]))]) [0] rfl
                  have hKc := hK.sub (tys' := []) [] rfl
                  refine pci (va_runV (As := [.int 1, .int eb]) (rest := []) ⟨hx, hb, hml, hown, hg⟩ (c_M_isError l D y ms mw mu mc mn mr mq md bi ne li sp q sz (wa - (z + 1 + tln q K (li - 1 - rw - q - 1) z)) 0 en la (nI (z + 1 + tln q K (li - 1 - rw - q - 1) z)) 0 1 eb (by omega)) (cwV 2 hg (gV gw_630 gw_632 gs_19 gw_7 gw_633) rfl rfl rfl (by decide +kernel) ⟨Nat.le_of_ble_eq_true rfl, Nat.le_of_ble_eq_true rfl⟩) ⟨fun a U g mk q => by obtain ⟨q0, qP, qK⟩ := q; exact ⟨q0, qP, va_K.moved (u := U) (U := U.calling g mk a) (Vm.Alike.refl U.vm) qK⟩, va_recv hKc hPc (ci := 5) (q0 := 0) rfl rfl, fun U hU hW => ⟨rfl, by rw [hU]; exact hPc, va_K.moved hW.alike hKc⟩⟩ rfl rfl hl.1 rfl (lv_room (Nat.le_of_ble_eq_true rfl)) d_M_readInterrupt_128 (⟨Nat.le_of_ble_eq_true rfl, Nat.le_of_ble_eq_true rfl⟩)) ?_
                  refine tpi (y := 0) (if_neg hbad) ?_
                  refine lv_if_ne (tgt := 137) hx hb d_M_readInterrupt_131 (by decide) (fun c_13 => ?_) (fun c_13 => ?_)
                  · skip
                    exact absurd rfl c_13
                  · skip
                    refine lv_ldc (v := 2147483647) hx hb hown (hg _ gw_698) d_M_readInterrupt_134 ?_
                    exact W.iret (v := 2147483647) hx hb hr (fun t ht hW => ⟨rfl, by rw [ht]; exact hP, (hAe ▸ hS).F ht⟩) (hAe ▸ hS).2.2 d_M_readInterrupt_136
              · skip
                refine tpi (y := 0) (if_neg hup) ?_
                have hcn : ¬ ((N + 1) % 2 = 1 ↔ (K = 0 ∧ 2 * ng < ct)) := fun q9 => hup (q9.mp hodd)
                refine lv_iload hx hb d_M_readInterrupt_109 (lv_at hl 1 rfl) ?_
                refine lv_icmp_ne (tgt := 119) hx hb d_M_readInterrupt_111 (by decide) (fun c_14 => ?_) (fun c_14 => ?_)
                · skip
                  refine lv_iload hx hb d_M_readInterrupt_119 (lv_at hl 0 rfl) ?_
                  refine lv_ineg hx hb d_M_readInterrupt_121 ?_
                  refine tpi (y := eb) (by rw [heb, if_neg hcn]) ?_
                  refine lv_istore (lv' := [(6, .int eb), (5, .int (nI ((N + 1 + 1) / 2))), (4, .int 1), (3, .int (nI N)), (2, .int 3), (0, .ref y), (1, .int 1)]) hx hb d_M_readInterrupt_122 hl (by decide) rfl (fun ls hl => ?_)
                  refine lv_aload_n hx hb d_M_readInterrupt_124 rfl (lv_at hl 5 rfl) ?_
                  refine lv_iload_n hx hb d_M_readInterrupt_125 rfl (lv_at hl 6 rfl) ?_
                  refine lv_iload hx hb d_M_readInterrupt_126 (lv_at hl 0 rfl) ?_
                  have hPc := hP.sub (ws' := [(y, .inr (5, [.int 0, .int (nI bi), .int (nI ne), .int (nI li), .int (nI sp), .int (nI q), .ref ms, .ref mw, .ref mu, .ref mc, .ref mn, .int en, .int (nI sz), .ref mr, .int (nI (wa - (z + 1 + tln q K (li - 1 - rw - q - 1) z))), .ref mq, .int la, .ref md, .int (nI (z + 1 + tln q K (li - 1 - rw - q - 1) z)), .int 0]))]) [0] rfl
                  have hKc := hK.sub (tys' := []) [] rfl
                  refine pci (va_runV (As := [.int 1, .int eb]) (rest := []) ⟨hx, hb, hml, hown, hg⟩ (c_M_isError l D y ms mw mu mc mn mr mq md bi ne li sp q sz (wa - (z + 1 + tln q K (li - 1 - rw - q - 1) z)) 0 en la (nI (z + 1 + tln q K (li - 1 - rw - q - 1) z)) 0 1 eb (by omega)) (cwV 2 hg (gV gw_630 gw_632 gs_19 gw_7 gw_633) rfl rfl rfl (by decide +kernel) ⟨Nat.le_of_ble_eq_true rfl, Nat.le_of_ble_eq_true rfl⟩) ⟨fun a U g mk q => by obtain ⟨q0, qP, qK⟩ := q; exact ⟨q0, qP, va_K.moved (u := U) (U := U.calling g mk a) (Vm.Alike.refl U.vm) qK⟩, va_recv hKc hPc (ci := 5) (q0 := 0) rfl rfl, fun U hU hW => ⟨rfl, by rw [hU]; exact hPc, va_K.moved hW.alike hKc⟩⟩ rfl rfl hl.1 rfl (lv_room (Nat.le_of_ble_eq_true rfl)) d_M_readInterrupt_128 (⟨Nat.le_of_ble_eq_true rfl, Nat.le_of_ble_eq_true rfl⟩)) ?_
                  refine tpi (y := 0) (if_neg hbad) ?_
                  refine lv_if_ne (tgt := 137) hx hb d_M_readInterrupt_131 (by decide) (fun c_15 => ?_) (fun c_15 => ?_)
                  · skip
                    exact absurd rfl c_15
                  · skip
                    refine lv_ldc (v := 2147483647) hx hb hown (hg _ gw_698) d_M_readInterrupt_134 ?_
                    exact W.iret (v := 2147483647) hx hb hr (fun t ht hW => ⟨rfl, by rw [ht]; exact hP, (hAe ▸ hS).F ht⟩) (hAe ▸ hS).2.2 d_M_readInterrupt_136
                · skip
                  exact absurd c_14 (by decide)
        · skip
          exact absurd c_4 (nm2 (by omega))
      · skip
        exact absurd c_3 (nm1 (by omega))
    · skip
      exact absurd (by decide) c_2
set_option maxHeartbeats 4000000 in
set_option maxRecDepth 100000 in
theorem c_M_readInterrupt1P (l : Launch) (D : va_G) (y ms mw mu mc mn mr mq md bi ne li sp q sz wa : Nat) (th en la at0 lk : Int32) (cB cI : ClassId) (lw su cu nu wq : Nat → Int32) (rw sm ct ng K z : Nat) (hlw : lw 1 = nI rw) (hsu : su 3 = nI sm) (hcu : cu 3 = nI ct) (hnu : nu 3 = nI ng) (hwa : wa ≤ 1000) (hqb : ∀ j, j < wa → wq j = 0 ∨ wq j = 1) (hc0 : ct ≤ 64) (hn0 : ng ≤ 64) (hs0 : sm < 2 ^ 29) (hKb : K ≤ 29) (hK1 : sm + ct / 2 ≤ ct * 2 ^ K) (hK2 : ∀ j, j < K → ct * 2 ^ j < sm + ct / 2) (hsp : sp ≤ 65536) (hq : q ≤ 29) (hli : q + 18 ≤ li) (hlb : li ≤ 200) (hrw : rw ≤ 15) (hz1 : z ≤ (li - 1 - rw - q - 1) + 1) (hz2 : z ≤ wa) (hz3 : ∀ j, j < z → wq j = 0) (hz4 : z = (li - 1 - rw - q - 1) + 1 ∨ z = wa ∨ wq z ≠ 0) (hzm : z ≤ (li - 1 - rw - q - 1)) (hw : z + 1 + tln q K (li - 1 - rw - q - 1) z ≤ wa) (hzk : z * 2 ^ K < 2 ^ 31) (N : Nat) (hN : rnum (mbt wq wa) q K (li - 1 - rw - q - 1) z = nI N) (hNb : N < 2 ^ 29) (hs2 : ((N + 1) % 2 = 1 ↔ (K = 0 ∧ 2 * ng < ct)) ∨ ((N + 1 + 1) / 2) = 0) (hn : ((N + 1 + 1) / 2) ≤ sp / 2) (hn1 : 0 < ((N + 1 + 1) / 2)) : Met l y_M_readInterrupt (WSY y_M_readInterrupt b_M_readInterrupt 7 (some .int)) ({ frames := 3, cells := 0, slots := 0, locals := 72 }) (va_Pc [.ref y, .int 1] (fun U => va_P D CLS [(y, .inr (5, [.int th, .int (nI bi), .int (nI ne), .int (nI li), .int (nI sp), .int (nI q), .ref ms, .ref mw, .ref mu, .ref mc, .ref mn, .int en, .int (nI sz), .ref mr, .int (nI wa), .ref mq, .int la, .ref md, .int at0, .int lk])), (mw, .inl (cI, 2, .inl lw)), (mu, .inl (cI, 4, .inl su)), (mc, .inl (cI, 4, .inl cu)), (mn, .inl (cI, 4, .inl nu)), (mq, .inl (cB, 1000, .inl wq))] U.heap ∧ va_K D CLS [(cB, .byte), (cI, .int)] U ∧ va_D (fun _ => True) [(y, .inr (5, [.int th, .int (nI bi), .int (nI ne), .int (nI li), .int (nI sp), .int (nI q), .ref ms, .ref mw, .ref mu, .ref mc, .ref mn, .int en, .int (nI sz), .ref mr, .int (nI wa), .ref mq, .int la, .ref md, .int at0, .int lk])), (mw, .inl (cI, 2, .inl lw)), (mu, .inl (cI, 4, .inl su)), (mc, .inl (cI, 4, .inl cu)), (mn, .inl (cI, 4, .inl nu)), (mq, .inl (cB, 1000, .inl wq))])) (QM (some (.int (nI ((N + 1 + 1) / 2)))) [(y, .inr (5, [.int th, .int (nI bi), .int (nI ne), .int (nI li), .int (nI sp), .int (nI q), .ref ms, .ref mw, .ref mu, .ref mc, .ref mn, .int en, .int (nI sz), .ref mr, .int (nI wa), .ref mq, .int la, .ref md, .int at0, .int lk])), (mw, .inl (cI, 2, .inl lw)), (mu, .inl (cI, 4, .inl su)), (mc, .inl (cI, 4, .inl cu)), (mn, .inl (cI, 4, .inl nu)), (mq, .inl (cB, 1000, .inl wq))] [(y, .inr (5, [.int 0, .int (nI bi), .int (nI ne), .int (nI li), .int (nI sp), .int (nI q), .ref ms, .ref mw, .ref mu, .ref mc, .ref mn, .int en, .int (nI sz), .ref mr, .int (nI (wa - (z + 1 + tln q K (li - 1 - rw - q - 1) z))), .ref mq, .int la, .ref md, .int (nI (z + 1 + tln q K (li - 1 - rw - q - 1) z)), .int 0])), (mw, .inl (cI, 2, .inl lw)), (mu, .inl (cI, 4, .inl (upd su 3 (nI (hvd ct (sm + (N + 1 - 1) / 2)))))), (mc, .inl (cI, 4, .inl (upd cu 3 (nI (hvd ct ct + 1))))), (mn, .inl (cI, 4, .inl (upd nu 3 (nI (hvd ct ng))))), (mq, .inl (cB, 1000, .inl (gof wq (z + 1 + tln q K (li - 1 - rw - q - 1) z) (wa - (z + 1 + tln q K (li - 1 - rw - q - 1) z)))))] D) 0 0 (ad [(y, .inr (5, [.int th, .int (nI bi), .int (nI ne), .int (nI li), .int (nI sp), .int (nI q), .ref ms, .ref mw, .ref mu, .ref mc, .ref mn, .int en, .int (nI sz), .ref mr, .int (nI wa), .ref mq, .int la, .ref md, .int at0, .int lk])), (mw, .inl (cI, 2, .inl lw)), (mu, .inl (cI, 4, .inl su)), (mc, .inl (cI, 4, .inl cu)), (mn, .inl (cI, 4, .inl nu)), (mq, .inl (cB, 1000, .inl wq))]) := by
  refine Met.ofW (cc := b_M_readInterrupt) (maxL := 7) (ret := (some .int)) (by decide) rfl ?_
  intro p e s m args below meth c s₁ B hml hv
  obtain ⟨rfl, hP, hK, hD0⟩ := hv
  have hx := B.exec
  have hb := B.bytes
  have hr := B.returns
  have hts := atoms_spec (ws := WSY y_M_readInterrupt b_M_readInterrupt 7 (some .int)) B.pre
  have hg : ∀ w ∈ GW, w.before _ s = true := fun w h => hts w (List.mem_cons_of_mem _ h)
  have hown : s.vm.findClass "LineGolombModel" = some m.cls := findClass_of_methodNamed B.named
  have hlocks := B.notSynchronized
  obtain ⟨A, hAe⟩ : ∃ A, A = ad [(y, .inr (5, [.int th, .int (nI bi), .int (nI ne), .int (nI li), .int (nI sp), .int (nI q), .ref ms, .ref mw, .ref mu, .ref mc, .ref mn, .int en, .int (nI sz), .ref mr, .int (nI wa), .ref mq, .int la, .ref md, .int at0, .int lk])), (mw, .inl (cI, 2, .inl lw)), (mu, .inl (cI, 4, .inl su)), (mc, .inl (cI, 4, .inl cu)), (mn, .inl (cI, 4, .inl nu)), (mq, .inl (cB, 1000, .inl wq))] := ⟨_, rfl⟩
  have hD : va_D A [(y, .inr (5, [.int th, .int (nI bi), .int (nI ne), .int (nI li), .int (nI sp), .int (nI q), .ref ms, .ref mw, .ref mu, .ref mc, .ref mn, .int en, .int (nI sz), .ref mr, .int (nI wa), .ref mq, .int la, .ref md, .int at0, .int lk])), (mw, .inl (cI, 2, .inl lw)), (mu, .inl (cI, 4, .inl su)), (mc, .inl (cI, 4, .inl cu)), (mn, .inl (cI, 4, .inl nu)), (mq, .inl (cB, 1000, .inl wq))] := by rw [hAe]; exact va_D_ad hD0
  have hS : va_S A s.heap s.heap [] := va_S.rf
  have hl := lv_entry ([.ref y, .int 1]) (n := 7) (Nat.le_of_ble_eq_true rfl)
  rw [lg_entry_eq]
  generalize (lg_sl ([.ref y, .int 1]) ++ List.replicate (7 - (lg_sl ([.ref y, .int 1])).length) Slot.unset).toArray = ls at hl ⊢
  have hl : lv_has ls 7 [(0, .ref y), (1, .int 1)] := hl
  refine lv_aload_n hx hb d_M_readInterrupt_0 rfl (lv_at hl 0 rfl) ?_
  refine lv_aload_n hx hb d_M_readInterrupt_1 rfl (lv_at hl 0 rfl) ?_
  refine lv_iload_n hx hb d_M_readInterrupt_2 rfl (lv_at hl 1 rfl) ?_
  have hPc := hP.sub (ws' := [(y, .inr (5, [.int th, .int (nI bi), .int (nI ne), .int (nI li), .int (nI sp), .int (nI q), .ref ms, .ref mw, .ref mu, .ref mc, .ref mn, .int en, .int (nI sz), .ref mr, .int (nI wa), .ref mq, .int la, .ref md, .int at0, .int lk]))]) [0] rfl
  have hKc := hK.sub (tys' := []) [] rfl
  refine pci (va_runV (As := [.int 1]) (rest := [.ref y]) ⟨hx, hb, hml, hown, hg⟩ (c_M_isKind l D y ms mw mu mc mn mr mq md bi ne li sp q sz wa th en la at0 lk 1) (cwV 1 hg (gV gw_626 gw_628 gs_18 gw_7 gw_629) rfl rfl rfl (by decide +kernel) ⟨Nat.le_of_ble_eq_true rfl, Nat.le_of_ble_eq_true rfl⟩) ⟨fun a U g mk q => by obtain ⟨q0, qP, qK⟩ := q; exact ⟨q0, qP, va_K.moved (u := U) (U := U.calling g mk a) (Vm.Alike.refl U.vm) qK⟩, va_recv hKc hPc (ci := 5) (q0 := 0) rfl rfl, fun U hU hW => ⟨rfl, by rw [hU]; exact hPc, va_K.moved hW.alike hKc⟩⟩ rfl rfl hl.1 rfl (lv_room (Nat.le_of_ble_eq_true rfl)) d_M_readInterrupt_3 (⟨Nat.le_of_ble_eq_true rfl, Nat.le_of_ble_eq_true rfl⟩)) ?_
  refine tpi (y := 1) (by decide) ?_
  refine lv_if_eq (tgt := 13) hx hb d_M_readInterrupt_6 (by decide) (fun c_1 => ?_) (fun c_1 => ?_)
  · skip
    exact absurd c_1 (by decide)
  · skip
    refine lv_iconst (v := 0) hx hb d_M_readInterrupt_9 (by decide) ?_
    refine lv_goto (tgt := 14) hx hb d_M_readInterrupt_10 (by decide) ?_
    refine va_put (D := D) (ci := 5) (v := .int 0) (ty := .int) (C := R_M) (T := T_M) (N := 20) hx hb hg in_M ty_M tok_M nm_M hown hK hP hD hS 0 rfl rfl 0 (by decide) (hg _ gw_524) (fun _ h9 => h9) rfl (by decide +kernel) (rfl) (rfl) (Nat.le_of_ble_eq_true rfl) d_M_readInterrupt_14 (fun H locs hP hD hS => ?_)
    have hP : va_P D CLS [(y, .inr (5, [.int 0, .int (nI bi), .int (nI ne), .int (nI li), .int (nI sp), .int (nI q), .ref ms, .ref mw, .ref mu, .ref mc, .ref mn, .int en, .int (nI sz), .ref mr, .int (nI wa), .ref mq, .int la, .ref md, .int at0, .int lk])), (mw, .inl (cI, 2, .inl lw)), (mu, .inl (cI, 4, .inl su)), (mc, .inl (cI, 4, .inl cu)), (mn, .inl (cI, 4, .inl nu)), (mq, .inl (cB, 1000, .inl wq))] H := hP
    have hD : va_D A [(y, .inr (5, [.int 0, .int (nI bi), .int (nI ne), .int (nI li), .int (nI sp), .int (nI q), .ref ms, .ref mw, .ref mu, .ref mc, .ref mn, .int en, .int (nI sz), .ref mr, .int (nI wa), .ref mq, .int la, .ref md, .int at0, .int lk])), (mw, .inl (cI, 2, .inl lw)), (mu, .inl (cI, 4, .inl su)), (mc, .inl (cI, 4, .inl cu)), (mn, .inl (cI, 4, .inl nu)), (mq, .inl (cB, 1000, .inl wq))] := hD
    refine lv_aload_n hx hb d_M_readInterrupt_17 rfl (lv_at hl 0 rfl) ?_
    refine va_get (D := D) (ci := 5) (v := .int 0) (C := R_M) (T := T_M) (N := 20) hx hb hg in_M hown hK hP 0 rfl rfl 0 (by decide) (hg _ gw_524) (fun _ h9 => h9) rfl d_M_readInterrupt_18 ?_
    refine lv_if_le (tgt := 26) hx hb d_M_readInterrupt_21 (by decide) (fun c_2 => ?_) (fun c_2 => ?_)
    · skip
      refine lv_iconst (v := 2) hx hb d_M_readInterrupt_26 (by decide) ?_
      refine lv_iload_n hx hb d_M_readInterrupt_27 rfl (lv_at hl 1 rfl) ?_
      refine lv_iadd hx hb d_M_readInterrupt_28 ?_
      refine tpi (y := 3) (by decide) ?_
      refine lv_istore_n (lv' := [(2, .int 3), (0, .ref y), (1, .int 1)]) hx hb d_M_readInterrupt_29 rfl hl (by decide) rfl (fun ls hl => ?_)
      refine lv_aload_n hx hb d_M_readInterrupt_30 rfl (lv_at hl 1 rfl) ?_
      refine lv_aload_n hx hb d_M_readInterrupt_31 rfl (lv_at hl 1 rfl) ?_
      refine lv_iload_n hx hb d_M_readInterrupt_32 rfl (lv_at hl 0 rfl) ?_
      have hPc := hP.sub (ws' := [(y, .inr (5, [.int 0, .int (nI bi), .int (nI ne), .int (nI li), .int (nI sp), .int (nI q), .ref ms, .ref mw, .ref mu, .ref mc, .ref mn, .int en, .int (nI sz), .ref mr, .int (nI wa), .ref mq, .int la, .ref md, .int at0, .int lk])), (mu, .inl (cI, 4, .inl su)), (mc, .inl (cI, 4, .inl cu)), (mn, .inl (cI, 4, .inl nu))]) [0, 2, 3, 4] rfl
      have hKc := hK.sub (tys' := [(cI, .int)]) [1] rfl
      refine pci (va_runV (As := [.int 3]) (rest := [.ref y]) ⟨hx, hb, hml, hown, hg⟩ (c_M_kOf3 l D y ms mw mu mc mn mr mq md bi ne li sp q sz wa 0 en la at0 lk cI su cu nu sm ct ng K hsu hcu hnu hc0 hn0 (by omega) hKb hK1 hK2) (cwV 1 hg (gV gw_638 gw_640 gs_21 gw_7 gw_641) rfl rfl rfl (by decide +kernel) ⟨Nat.le_of_ble_eq_true rfl, Nat.le_of_ble_eq_true rfl⟩) ⟨fun a U g mk q => by obtain ⟨q0, qP, qK⟩ := q; exact ⟨q0, qP, va_K.moved (u := U) (U := U.calling g mk a) (Vm.Alike.refl U.vm) qK⟩, va_recv hKc hPc (ci := 5) (q0 := 0) rfl rfl, fun U hU hW => ⟨rfl, by rw [hU]; exact hPc, va_K.moved hW.alike hKc⟩⟩ rfl rfl hl.1 rfl (lv_room (Nat.le_of_ble_eq_true rfl)) d_M_readInterrupt_33 (⟨Nat.le_of_ble_eq_true rfl, Nat.le_of_ble_eq_true rfl⟩)) ?_
      refine lv_aload_n hx hb d_M_readInterrupt_36 rfl (lv_at hl 1 rfl) ?_
      refine lv_iconst (v := 1) hx hb d_M_readInterrupt_37 (by decide) ?_
      have hPc := hP.sub (ws' := [(y, .inr (5, [.int 0, .int (nI bi), .int (nI ne), .int (nI li), .int (nI sp), .int (nI q), .ref ms, .ref mw, .ref mu, .ref mc, .ref mn, .int en, .int (nI sz), .ref mr, .int (nI wa), .ref mq, .int la, .ref md, .int at0, .int lk])), (mw, .inl (cI, 2, .inl lw))]) [0, 1] rfl
      have hKc := hK.sub (tys' := [(cI, .int)]) [1] rfl
      refine pci (va_runV (As := [.int 1]) (rest := [.int (nI K), .ref y]) ⟨hx, hb, hml, hown, hg⟩ (c_M_limitFor1 l D y ms mw mu mc mn mr mq md bi ne li sp q sz wa 0 en la at0 lk cI lw rw hlw (by omega)) (cwV 1 hg (gV gw_642 gw_644 gs_22 gw_7 gw_645) rfl rfl rfl (by decide +kernel) ⟨Nat.le_of_ble_eq_true rfl, Nat.le_of_ble_eq_true rfl⟩) ⟨fun a U g mk q => by obtain ⟨q0, qP, qK⟩ := q; exact ⟨q0, qP, va_K.moved (u := U) (U := U.calling g mk a) (Vm.Alike.refl U.vm) qK⟩, va_recv hKc hPc (ci := 5) (q0 := 0) rfl rfl, fun U hU hW => ⟨rfl, by rw [hU]; exact hPc, va_K.moved hW.alike hKc⟩⟩ rfl rfl hl.1 rfl (lv_room (Nat.le_of_ble_eq_true rfl)) d_M_readInterrupt_38 (⟨Nat.le_of_ble_eq_true rfl, Nat.le_of_ble_eq_true rfl⟩)) ?_
      have hPc := hP.sub (ws' := [(y, .inr (5, [.int 0, .int (nI bi), .int (nI ne), .int (nI li), .int (nI sp), .int (nI q), .ref ms, .ref mw, .ref mu, .ref mc, .ref mn, .int en, .int (nI sz), .ref mr, .int (nI wa), .ref mq, .int la, .ref md, .int at0, .int lk])), (mq, .inl (cB, 1000, .inl wq))]) [0, 5] rfl
      have hDc := hD.sub (ws' := [(y, .inr (5, [.int 0, .int (nI bi), .int (nI ne), .int (nI li), .int (nI sp), .int (nI q), .ref ms, .ref mw, .ref mu, .ref mc, .ref mn, .int en, .int (nI sz), .ref mr, .int (nI wa), .ref mq, .int la, .ref md, .int at0, .int lk])), (mq, .inl (cB, 1000, .inl wq))]) [0, 5] (by decide) rfl
      have hKc := hK.sub (tys' := [(cB, .byte)]) [0] rfl
      refine mci (va_runV (As := [.int (nI K), .int (nI (li - 1 - rw))]) (rest := []) ⟨hx, hb, hml, hown, hg⟩ (c_M_lookG l D y ms mw mu mc mn mr mq md bi ne li sp q sz wa 0 en la at0 lk cB wq K (li - 1 - rw) z hwa (by omega) (by omega) (by omega) (by omega) hz1 hz2 hz3 hz4 hzm hw hzk) (cwV 2 hg (gV gw_674 gw_676 gs_25 gw_7 gw_677) rfl rfl rfl (by decide +kernel) ⟨Nat.le_of_ble_eq_true rfl, Nat.le_of_ble_eq_true rfl⟩) ⟨fun a U g mk q => by obtain ⟨q0, qP, qK, qD⟩ := q; exact ⟨q0, qP, va_K.moved (u := U) (U := U.calling g mk a) (Vm.Alike.refl U.vm) qK, qD⟩, va_recv hKc hPc (ci := 5) (q0 := 0) rfl rfl, fun U hU hW => ⟨rfl, by rw [hU]; exact hPc, va_K.moved hW.alike hKc, hDc.weaken (fun _ _ _ _ => trivial)⟩⟩ rfl rfl hl.1 rfl (lv_room (Nat.le_of_ble_eq_true rfl)) d_M_readInterrupt_41 (⟨Nat.le_of_ble_eq_true rfl, Nat.le_of_ble_eq_true rfl⟩)) hS hP hD [0, 5] rfl rfl rfl (fun H locs hP hD hS => ?_)
      have hP : va_P D CLS [(y, .inr (5, [.int 0, .int (nI bi), .int (nI ne), .int (nI li), .int (nI sp), .int (nI q), .ref ms, .ref mw, .ref mu, .ref mc, .ref mn, .int en, .int (nI sz), .ref mr, .int (nI wa), .ref mq, .int la, .ref md, .int (nI (z + 1 + tln q K (li - 1 - rw - q - 1) z)), .int 0])), (mw, .inl (cI, 2, .inl lw)), (mu, .inl (cI, 4, .inl su)), (mc, .inl (cI, 4, .inl cu)), (mn, .inl (cI, 4, .inl nu)), (mq, .inl (cB, 1000, .inl wq))] H := hP
      have hD : va_D A [(y, .inr (5, [.int 0, .int (nI bi), .int (nI ne), .int (nI li), .int (nI sp), .int (nI q), .ref ms, .ref mw, .ref mu, .ref mc, .ref mn, .int en, .int (nI sz), .ref mr, .int (nI wa), .ref mq, .int la, .ref md, .int (nI (z + 1 + tln q K (li - 1 - rw - q - 1) z)), .int 0])), (mw, .inl (cI, 2, .inl lw)), (mu, .inl (cI, 4, .inl su)), (mc, .inl (cI, 4, .inl cu)), (mn, .inl (cI, 4, .inl nu)), (mq, .inl (cB, 1000, .inl wq))] := hD
      refine tpi (y := nI N) (hN) ?_
      refine lv_istore_n (lv' := [(3, .int (nI N)), (2, .int 3), (0, .ref y), (1, .int 1)]) hx hb d_M_readInterrupt_44 rfl hl (by decide) rfl (fun ls hl => ?_)
      refine lv_iload_n hx hb d_M_readInterrupt_45 rfl (lv_at hl 0 rfl) ?_
      refine lv_iconst (v := (-1)) hx hb d_M_readInterrupt_46 (by decide) ?_
      refine lv_icmp_ne (tgt := 53) hx hb d_M_readInterrupt_47 (by decide) (fun c_3 => ?_) (fun c_3 => ?_)
      · skip
        refine lv_aload_n hx hb d_M_readInterrupt_53 rfl (lv_at hl 2 rfl) ?_
        refine lv_aload_n hx hb d_M_readInterrupt_54 rfl (lv_at hl 2 rfl) ?_
        refine va_get (D := D) (ci := 5) (v := .int (nI (z + 1 + tln q K (li - 1 - rw - q - 1) z))) (C := R_M) (T := T_M) (N := 20) hx hb hg in_M hown hK hP 0 rfl rfl 18 (by decide) (hg _ gw_542) (fun _ h9 => h9) rfl d_M_readInterrupt_55 ?_
        have hPc := hP.sub (ws' := [(y, .inr (5, [.int 0, .int (nI bi), .int (nI ne), .int (nI li), .int (nI sp), .int (nI q), .ref ms, .ref mw, .ref mu, .ref mc, .ref mn, .int en, .int (nI sz), .ref mr, .int (nI wa), .ref mq, .int la, .ref md, .int (nI (z + 1 + tln q K (li - 1 - rw - q - 1) z)), .int 0])), (mq, .inl (cB, 1000, .inl wq))]) [0, 5] rfl
        have hDc := hD.sub (ws' := [(y, .inr (5, [.int 0, .int (nI bi), .int (nI ne), .int (nI li), .int (nI sp), .int (nI q), .ref ms, .ref mw, .ref mu, .ref mc, .ref mn, .int en, .int (nI sz), .ref mr, .int (nI wa), .ref mq, .int la, .ref md, .int (nI (z + 1 + tln q K (li - 1 - rw - q - 1) z)), .int 0])), (mq, .inl (cB, 1000, .inl wq))]) [0, 5] (by decide) rfl
        have hKc := hK.sub (tys' := [(cB, .byte)]) [0] rfl
        refine mcv (va_runV (As := [.int (nI (z + 1 + tln q K (li - 1 - rw - q - 1) z))]) (rest := []) ⟨hx, hb, hml, hown, hg⟩ (c_M_go l D y ms mw mu mc mn mr mq md bi ne li sp q sz wa 0 en la (nI (z + 1 + tln q K (li - 1 - rw - q - 1) z)) 0 cB wq (z + 1 + tln q K (li - 1 - rw - q - 1) z) hwa (by omega) hqb) (cwV 1 hg (gV gw_686 gw_688 gs_28 gw_7 gw_689) rfl rfl rfl (by decide +kernel) ⟨Nat.le_of_ble_eq_true rfl, Nat.le_of_ble_eq_true rfl⟩) ⟨fun a U g mk q => by obtain ⟨q0, qP, qK, qD⟩ := q; exact ⟨q0, qP, va_K.moved (u := U) (U := U.calling g mk a) (Vm.Alike.refl U.vm) qK, qD⟩, va_recv hKc hPc (ci := 5) (q0 := 0) rfl rfl, fun U hU hW => ⟨rfl, by rw [hU]; exact hPc, va_K.moved hW.alike hKc, hDc.weaken (fun _ _ _ _ => trivial)⟩⟩ rfl rfl hl.1 rfl (lv_room (Nat.le_of_ble_eq_true rfl)) d_M_readInterrupt_58 (⟨Nat.le_of_ble_eq_true rfl, Nat.le_of_ble_eq_true rfl⟩)) hS hP hD [0, 5] rfl rfl rfl (fun H locs hP hD hS => ?_)
        have hP : va_P D CLS [(y, .inr (5, [.int 0, .int (nI bi), .int (nI ne), .int (nI li), .int (nI sp), .int (nI q), .ref ms, .ref mw, .ref mu, .ref mc, .ref mn, .int en, .int (nI sz), .ref mr, .int (nI (wa - (z + 1 + tln q K (li - 1 - rw - q - 1) z))), .ref mq, .int la, .ref md, .int (nI (z + 1 + tln q K (li - 1 - rw - q - 1) z)), .int 0])), (mw, .inl (cI, 2, .inl lw)), (mu, .inl (cI, 4, .inl su)), (mc, .inl (cI, 4, .inl cu)), (mn, .inl (cI, 4, .inl nu)), (mq, .inl (cB, 1000, .inl (gof wq (z + 1 + tln q K (li - 1 - rw - q - 1) z) (wa - (z + 1 + tln q K (li - 1 - rw - q - 1) z)))))] H := hP
        have hD : va_D A [(y, .inr (5, [.int 0, .int (nI bi), .int (nI ne), .int (nI li), .int (nI sp), .int (nI q), .ref ms, .ref mw, .ref mu, .ref mc, .ref mn, .int en, .int (nI sz), .ref mr, .int (nI (wa - (z + 1 + tln q K (li - 1 - rw - q - 1) z))), .ref mq, .int la, .ref md, .int (nI (z + 1 + tln q K (li - 1 - rw - q - 1) z)), .int 0])), (mw, .inl (cI, 2, .inl lw)), (mu, .inl (cI, 4, .inl su)), (mc, .inl (cI, 4, .inl cu)), (mn, .inl (cI, 4, .inl nu)), (mq, .inl (cB, 1000, .inl (gof wq (z + 1 + tln q K (li - 1 - rw - q - 1) z) (wa - (z + 1 + tln q K (li - 1 - rw - q - 1) z)))))] := hD
        refine lv_iload_n hx hb d_M_readInterrupt_61 rfl (lv_at hl 0 rfl) ?_
        refine lv_bipush (v := (-2)) hx hb d_M_readInterrupt_62 (by decide) ?_
        refine lv_icmp_ne (tgt := 70) hx hb d_M_readInterrupt_64 (by decide) (fun c_4 => ?_) (fun c_4 => ?_)
        · skip
          refine lv_iload_n hx hb d_M_readInterrupt_70 rfl (lv_at hl 0 rfl) ?_
          refine lv_iload_n hx hb d_M_readInterrupt_71 rfl (lv_at hl 3 rfl) ?_
          refine lv_iadd hx hb d_M_readInterrupt_72 ?_
          refine tpi (y := nI (N + 1)) (nI_add _ 1) ?_
          refine lv_iconst (v := 2) hx hb d_M_readInterrupt_73 (by decide) ?_
          refine lv_irem hx hb d_M_readInterrupt_74 (by decide) ?_
          refine tpi (y := nI ((N + 1) % 2)) (rem2 (by omega)) ?_
          refine lv_iconst (v := 1) hx hb d_M_readInterrupt_75 (by decide) ?_
          refine lv_icmp_ne (tgt := 83) hx hb d_M_readInterrupt_76 (by decide) (fun c_5 => ?_) (fun c_5 => ?_)
          · skip
            have hodd : ¬ (N + 1) % 2 = 1 := fun q9 => c_5 (by rw [q9]; rfl)
            refine lv_iconst (v := 0) hx hb d_M_readInterrupt_83 (by decide) ?_
            refine lv_istore (lv' := [(4, .int 0), (3, .int (nI N)), (2, .int 3), (0, .ref y), (1, .int 1)]) hx hb d_M_readInterrupt_84 hl (by decide) rfl (fun ls hl => ?_)
            refine lv_iload_n hx hb d_M_readInterrupt_86 rfl (lv_at hl 1 rfl) ?_
            refine lv_iload_n hx hb d_M_readInterrupt_87 rfl (lv_at hl 4 rfl) ?_
            refine lv_iadd hx hb d_M_readInterrupt_88 ?_
            refine tpi (y := nI (N + 1)) (nI_add _ 1) ?_
            refine lv_iload hx hb d_M_readInterrupt_89 (lv_at hl 0 rfl) ?_
            refine lv_if_eq (tgt := 98) hx hb d_M_readInterrupt_91 (by decide) (fun c_6 => ?_) (fun c_6 => ?_)
            · skip
              refine lv_iconst (v := 0) hx hb d_M_readInterrupt_98 (by decide) ?_
              refine lv_iadd hx hb d_M_readInterrupt_99 ?_
              refine tpi (y := nI (N + 1 + 0)) (nI_add _ 0) ?_
              refine lv_iconst (v := 2) hx hb d_M_readInterrupt_100 (by decide) ?_
              refine lv_idiv hx hb d_M_readInterrupt_101 (by decide) ?_
              refine tpi (y := nI ((N + 1 + 1) / 2)) ((div2 (by omega)).trans (congrArg nI (by omega))) ?_
              refine lv_istore (lv' := [(5, .int (nI ((N + 1 + 1) / 2))), (4, .int 0), (3, .int (nI N)), (2, .int 3), (0, .ref y), (1, .int 1)]) hx hb d_M_readInterrupt_102 hl (by decide) rfl (fun ls hl => ?_)
              refine lv_aload_n hx hb d_M_readInterrupt_104 rfl (lv_at hl 4 rfl) ?_
              refine lv_iload_n hx hb d_M_readInterrupt_105 rfl (lv_at hl 3 rfl) ?_
              have hPc := hP.sub (ws' := [(y, .inr (5, [.int 0, .int (nI bi), .int (nI ne), .int (nI li), .int (nI sp), .int (nI q), .ref ms, .ref mw, .ref mu, .ref mc, .ref mn, .int en, .int (nI sz), .ref mr, .int (nI (wa - (z + 1 + tln q K (li - 1 - rw - q - 1) z))), .ref mq, .int la, .ref md, .int (nI (z + 1 + tln q K (li - 1 - rw - q - 1) z)), .int 0])), (mu, .inl (cI, 4, .inl su)), (mc, .inl (cI, 4, .inl cu)), (mn, .inl (cI, 4, .inl nu))]) [0, 2, 3, 4] rfl
              have hKc := hK.sub (tys' := [(cI, .int)]) [1] rfl
              refine pci (va_runV (As := [.int 3]) (rest := []) ⟨hx, hb, hml, hown, hg⟩ (c_M_isUp3 l D y ms mw mu mc mn mr mq md bi ne li sp q sz (wa - (z + 1 + tln q K (li - 1 - rw - q - 1) z)) 0 en la (nI (z + 1 + tln q K (li - 1 - rw - q - 1) z)) 0 cI su cu nu sm ct ng K hsu hcu hnu hc0 hn0 (by omega) hKb hK1 hK2) (cwV 1 hg (gV gw_634 gw_636 gs_20 gw_7 gw_637) rfl rfl rfl (by decide +kernel) ⟨Nat.le_of_ble_eq_true rfl, Nat.le_of_ble_eq_true rfl⟩) ⟨fun a U g mk q => by obtain ⟨q0, qP, qK⟩ := q; exact ⟨q0, qP, va_K.moved (u := U) (U := U.calling g mk a) (Vm.Alike.refl U.vm) qK⟩, va_recv hKc hPc (ci := 5) (q0 := 0) rfl rfl, fun U hU hW => ⟨rfl, by rw [hU]; exact hPc, va_K.moved hW.alike hKc⟩⟩ rfl rfl hl.1 rfl (lv_room (Nat.le_of_ble_eq_true rfl)) d_M_readInterrupt_106 (⟨Nat.le_of_ble_eq_true rfl, Nat.le_of_ble_eq_true rfl⟩)) ?_
              by_cases hup : (K = 0 ∧ 2 * ng < ct)
              · skip
                refine tpi (y := 1) (if_pos hup) ?_
                have hcn : ¬ ((N + 1) % 2 = 1 ↔ (K = 0 ∧ 2 * ng < ct)) := fun q9 => hodd (q9.mpr hup)
                refine lv_iload hx hb d_M_readInterrupt_109 (lv_at hl 1 rfl) ?_
                refine lv_icmp_ne (tgt := 119) hx hb d_M_readInterrupt_111 (by decide) (fun c_7 => ?_) (fun c_7 => ?_)
                · skip
                  refine lv_iload hx hb d_M_readInterrupt_119 (lv_at hl 0 rfl) ?_
                  refine lv_ineg hx hb d_M_readInterrupt_121 ?_
                  refine tpi (y := nI ((N + 1 + 1) / 2)) (by rw [hs2.resolve_left hcn]; rfl) ?_
                  refine lv_istore (lv' := [(6, .int (nI ((N + 1 + 1) / 2))), (5, .int (nI ((N + 1 + 1) / 2))), (4, .int 0), (3, .int (nI N)), (2, .int 3), (0, .ref y), (1, .int 1)]) hx hb d_M_readInterrupt_122 hl (by decide) rfl (fun ls hl => ?_)
                  refine lv_aload_n hx hb d_M_readInterrupt_124 rfl (lv_at hl 5 rfl) ?_
                  refine lv_iload_n hx hb d_M_readInterrupt_125 rfl (lv_at hl 6 rfl) ?_
                  refine lv_iload hx hb d_M_readInterrupt_126 (lv_at hl 0 rfl) ?_
                  have hPc := hP.sub (ws' := [(y, .inr (5, [.int 0, .int (nI bi), .int (nI ne), .int (nI li), .int (nI sp), .int (nI q), .ref ms, .ref mw, .ref mu, .ref mc, .ref mn, .int en, .int (nI sz), .ref mr, .int (nI (wa - (z + 1 + tln q K (li - 1 - rw - q - 1) z))), .ref mq, .int la, .ref md, .int (nI (z + 1 + tln q K (li - 1 - rw - q - 1) z)), .int 0]))]) [0] rfl
                  have hKc := hK.sub (tys' := []) [] rfl
                  refine pci (va_runV (As := [.int 1, .int (nI ((N + 1 + 1) / 2))]) (rest := []) ⟨hx, hb, hml, hown, hg⟩ (c_M_isError l D y ms mw mu mc mn mr mq md bi ne li sp q sz (wa - (z + 1 + tln q K (li - 1 - rw - q - 1) z)) 0 en la (nI (z + 1 + tln q K (li - 1 - rw - q - 1) z)) 0 1 (nI ((N + 1 + 1) / 2)) (by omega)) (cwV 2 hg (gV gw_630 gw_632 gs_19 gw_7 gw_633) rfl rfl rfl (by decide +kernel) ⟨Nat.le_of_ble_eq_true rfl, Nat.le_of_ble_eq_true rfl⟩) ⟨fun a U g mk q => by obtain ⟨q0, qP, qK⟩ := q; exact ⟨q0, qP, va_K.moved (u := U) (U := U.calling g mk a) (Vm.Alike.refl U.vm) qK⟩, va_recv hKc hPc (ci := 5) (q0 := 0) rfl rfl, fun U hU hW => ⟨rfl, by rw [hU]; exact hPc, va_K.moved hW.alike hKc⟩⟩ rfl rfl hl.1 rfl (lv_room (Nat.le_of_ble_eq_true rfl)) d_M_readInterrupt_128 (⟨Nat.le_of_ble_eq_true rfl, Nat.le_of_ble_eq_true rfl⟩)) ?_
                  refine tpi (y := 1) (if_pos ⟨by rw [nI_toInt (by omega)]; omega, by rw [nI_toInt (by omega)]; omega, Or.inl (nI_ne0 hn1 (by omega))⟩) ?_
                  refine lv_if_ne (tgt := 137) hx hb d_M_readInterrupt_131 (by decide) (fun c_8 => ?_) (fun c_8 => ?_)
                  · skip
                    refine lv_aload_n hx hb d_M_readInterrupt_137 rfl (lv_at hl 5 rfl) ?_
                    refine lv_iload_n hx hb d_M_readInterrupt_138 rfl (lv_at hl 4 rfl) ?_
                    refine lv_iload_n hx hb d_M_readInterrupt_139 rfl (lv_at hl 6 rfl) ?_
                    refine lv_iload_n hx hb d_M_readInterrupt_140 rfl (lv_at hl 3 rfl) ?_
                    refine lv_iload hx hb d_M_readInterrupt_141 (lv_at hl 0 rfl) ?_
                    have hPc := hP.sub (ws' := [(y, .inr (5, [.int 0, .int (nI bi), .int (nI ne), .int (nI li), .int (nI sp), .int (nI q), .ref ms, .ref mw, .ref mu, .ref mc, .ref mn, .int en, .int (nI sz), .ref mr, .int (nI (wa - (z + 1 + tln q K (li - 1 - rw - q - 1) z))), .ref mq, .int la, .ref md, .int (nI (z + 1 + tln q K (li - 1 - rw - q - 1) z)), .int 0])), (mu, .inl (cI, 4, .inl su)), (mc, .inl (cI, 4, .inl cu)), (mn, .inl (cI, 4, .inl nu))]) [0, 2, 3, 4] rfl
                    have hDc := hD.sub (ws' := [(y, .inr (5, [.int 0, .int (nI bi), .int (nI ne), .int (nI li), .int (nI sp), .int (nI q), .ref ms, .ref mw, .ref mu, .ref mc, .ref mn, .int en, .int (nI sz), .ref mr, .int (nI (wa - (z + 1 + tln q K (li - 1 - rw - q - 1) z))), .ref mq, .int la, .ref md, .int (nI (z + 1 + tln q K (li - 1 - rw - q - 1) z)), .int 0])), (mu, .inl (cI, 4, .inl su)), (mc, .inl (cI, 4, .inl cu)), (mn, .inl (cI, 4, .inl nu))]) [0, 2, 3, 4] (by decide) rfl
                    have hKc := hK.sub (tys' := [(cI, .int)]) [1] rfl
                    refine mcv (va_runV (As := [.int 3, .int 1, .int (nI N), .int (nI ((N + 1 + 1) / 2))]) (rest := []) ⟨hx, hb, hml, hown, hg⟩ (c_M_learn3P l D y ms mw mu mc mn mr mq md bi ne li sp q sz (wa - (z + 1 + tln q K (li - 1 - rw - q - 1) z)) 0 en la (nI (z + 1 + tln q K (li - 1 - rw - q - 1) z)) 0 cI su cu nu sm ct ng ((N + 1 + 1) / 2) N hsu hcu hnu hc0 hn0 hs0 (by omega) (by omega)) (cwV 4 hg (gV gw_646 gw_648 gs_23 gw_7 gw_649) rfl rfl rfl (by decide +kernel) ⟨Nat.le_of_ble_eq_true rfl, Nat.le_of_ble_eq_true rfl⟩) ⟨fun a U g mk q => by obtain ⟨q0, qP, qK, qD⟩ := q; exact ⟨q0, qP, va_K.moved (u := U) (U := U.calling g mk a) (Vm.Alike.refl U.vm) qK, qD⟩, va_recv hKc hPc (ci := 5) (q0 := 0) rfl rfl, fun U hU hW => ⟨rfl, by rw [hU]; exact hPc, va_K.moved hW.alike hKc, hDc.weaken (fun _ _ _ _ => trivial)⟩⟩ rfl rfl hl.1 rfl (lv_room (Nat.le_of_ble_eq_true rfl)) d_M_readInterrupt_143 (⟨Nat.le_of_ble_eq_true rfl, Nat.le_of_ble_eq_true rfl⟩)) hS hP hD [0, 2, 3, 4] rfl rfl rfl (fun H locs hP hD hS => ?_)
                    have hP : va_P D CLS [(y, .inr (5, [.int 0, .int (nI bi), .int (nI ne), .int (nI li), .int (nI sp), .int (nI q), .ref ms, .ref mw, .ref mu, .ref mc, .ref mn, .int en, .int (nI sz), .ref mr, .int (nI (wa - (z + 1 + tln q K (li - 1 - rw - q - 1) z))), .ref mq, .int la, .ref md, .int (nI (z + 1 + tln q K (li - 1 - rw - q - 1) z)), .int 0])), (mw, .inl (cI, 2, .inl lw)), (mu, .inl (cI, 4, .inl (upd su 3 (nI (hvd ct (sm + (N + 1 - 1) / 2)))))), (mc, .inl (cI, 4, .inl (upd cu 3 (nI (hvd ct ct + 1))))), (mn, .inl (cI, 4, .inl (upd nu 3 (nI (hvd ct ng))))), (mq, .inl (cB, 1000, .inl (gof wq (z + 1 + tln q K (li - 1 - rw - q - 1) z) (wa - (z + 1 + tln q K (li - 1 - rw - q - 1) z)))))] H := hP
                    have hD : va_D A [(y, .inr (5, [.int 0, .int (nI bi), .int (nI ne), .int (nI li), .int (nI sp), .int (nI q), .ref ms, .ref mw, .ref mu, .ref mc, .ref mn, .int en, .int (nI sz), .ref mr, .int (nI (wa - (z + 1 + tln q K (li - 1 - rw - q - 1) z))), .ref mq, .int la, .ref md, .int (nI (z + 1 + tln q K (li - 1 - rw - q - 1) z)), .int 0])), (mw, .inl (cI, 2, .inl lw)), (mu, .inl (cI, 4, .inl (upd su 3 (nI (hvd ct (sm + (N + 1 - 1) / 2)))))), (mc, .inl (cI, 4, .inl (upd cu 3 (nI (hvd ct ct + 1))))), (mn, .inl (cI, 4, .inl (upd nu 3 (nI (hvd ct ng))))), (mq, .inl (cB, 1000, .inl (gof wq (z + 1 + tln q K (li - 1 - rw - q - 1) z) (wa - (z + 1 + tln q K (li - 1 - rw - q - 1) z)))))] := hD
                    refine lv_iload hx hb d_M_readInterrupt_146 (lv_at hl 0 rfl) ?_
                    exact W.iret (v := nI ((N + 1 + 1) / 2)) hx hb hr (fun t ht hW => ⟨rfl, by rw [ht]; exact hP, (hAe ▸ hS).F ht⟩) (hAe ▸ hS).2.2 d_M_readInterrupt_148
                  · skip
                    exact absurd c_8 (by decide)
                · skip
                  exact absurd c_7 (by decide)
              · skip
                refine tpi (y := 0) (if_neg hup) ?_
                have hcn : ((N + 1) % 2 = 1 ↔ (K = 0 ∧ 2 * ng < ct)) := ⟨fun q9 => absurd q9 hodd, fun q9 => absurd q9 hup⟩
                refine lv_iload hx hb d_M_readInterrupt_109 (lv_at hl 1 rfl) ?_
                refine lv_icmp_ne (tgt := 119) hx hb d_M_readInterrupt_111 (by decide) (fun c_9 => ?_) (fun c_9 => ?_)
                · skip
                  exact absurd rfl c_9
                · skip
                  refine lv_iload hx hb d_M_readInterrupt_114 (lv_at hl 0 rfl) ?_
                  refine lv_goto (tgt := 122) hx hb d_M_readInterrupt_116 (by decide) ?_
                  refine lv_istore (lv' := [(6, .int (nI ((N + 1 + 1) / 2))), (5, .int (nI ((N + 1 + 1) / 2))), (4, .int 0), (3, .int (nI N)), (2, .int 3), (0, .ref y), (1, .int 1)]) hx hb d_M_readInterrupt_122 hl (by decide) rfl (fun ls hl => ?_)
                  refine lv_aload_n hx hb d_M_readInterrupt_124 rfl (lv_at hl 5 rfl) ?_
                  refine lv_iload_n hx hb d_M_readInterrupt_125 rfl (lv_at hl 6 rfl) ?_
                  refine lv_iload hx hb d_M_readInterrupt_126 (lv_at hl 0 rfl) ?_
                  have hPc := hP.sub (ws' := [(y, .inr (5, [.int 0, .int (nI bi), .int (nI ne), .int (nI li), .int (nI sp), .int (nI q), .ref ms, .ref mw, .ref mu, .ref mc, .ref mn, .int en, .int (nI sz), .ref mr, .int (nI (wa - (z + 1 + tln q K (li - 1 - rw - q - 1) z))), .ref mq, .int la, .ref md, .int (nI (z + 1 + tln q K (li - 1 - rw - q - 1) z)), .int 0]))]) [0] rfl
                  have hKc := hK.sub (tys' := []) [] rfl
                  refine pci (va_runV (As := [.int 1, .int (nI ((N + 1 + 1) / 2))]) (rest := []) ⟨hx, hb, hml, hown, hg⟩ (c_M_isError l D y ms mw mu mc mn mr mq md bi ne li sp q sz (wa - (z + 1 + tln q K (li - 1 - rw - q - 1) z)) 0 en la (nI (z + 1 + tln q K (li - 1 - rw - q - 1) z)) 0 1 (nI ((N + 1 + 1) / 2)) (by omega)) (cwV 2 hg (gV gw_630 gw_632 gs_19 gw_7 gw_633) rfl rfl rfl (by decide +kernel) ⟨Nat.le_of_ble_eq_true rfl, Nat.le_of_ble_eq_true rfl⟩) ⟨fun a U g mk q => by obtain ⟨q0, qP, qK⟩ := q; exact ⟨q0, qP, va_K.moved (u := U) (U := U.calling g mk a) (Vm.Alike.refl U.vm) qK⟩, va_recv hKc hPc (ci := 5) (q0 := 0) rfl rfl, fun U hU hW => ⟨rfl, by rw [hU]; exact hPc, va_K.moved hW.alike hKc⟩⟩ rfl rfl hl.1 rfl (lv_room (Nat.le_of_ble_eq_true rfl)) d_M_readInterrupt_128 (⟨Nat.le_of_ble_eq_true rfl, Nat.le_of_ble_eq_true rfl⟩)) ?_
                  refine tpi (y := 1) (if_pos ⟨by rw [nI_toInt (by omega)]; omega, by rw [nI_toInt (by omega)]; omega, Or.inl (nI_ne0 hn1 (by omega))⟩) ?_
                  refine lv_if_ne (tgt := 137) hx hb d_M_readInterrupt_131 (by decide) (fun c_10 => ?_) (fun c_10 => ?_)
                  · skip
                    refine lv_aload_n hx hb d_M_readInterrupt_137 rfl (lv_at hl 5 rfl) ?_
                    refine lv_iload_n hx hb d_M_readInterrupt_138 rfl (lv_at hl 4 rfl) ?_
                    refine lv_iload_n hx hb d_M_readInterrupt_139 rfl (lv_at hl 6 rfl) ?_
                    refine lv_iload_n hx hb d_M_readInterrupt_140 rfl (lv_at hl 3 rfl) ?_
                    refine lv_iload hx hb d_M_readInterrupt_141 (lv_at hl 0 rfl) ?_
                    have hPc := hP.sub (ws' := [(y, .inr (5, [.int 0, .int (nI bi), .int (nI ne), .int (nI li), .int (nI sp), .int (nI q), .ref ms, .ref mw, .ref mu, .ref mc, .ref mn, .int en, .int (nI sz), .ref mr, .int (nI (wa - (z + 1 + tln q K (li - 1 - rw - q - 1) z))), .ref mq, .int la, .ref md, .int (nI (z + 1 + tln q K (li - 1 - rw - q - 1) z)), .int 0])), (mu, .inl (cI, 4, .inl su)), (mc, .inl (cI, 4, .inl cu)), (mn, .inl (cI, 4, .inl nu))]) [0, 2, 3, 4] rfl
                    have hDc := hD.sub (ws' := [(y, .inr (5, [.int 0, .int (nI bi), .int (nI ne), .int (nI li), .int (nI sp), .int (nI q), .ref ms, .ref mw, .ref mu, .ref mc, .ref mn, .int en, .int (nI sz), .ref mr, .int (nI (wa - (z + 1 + tln q K (li - 1 - rw - q - 1) z))), .ref mq, .int la, .ref md, .int (nI (z + 1 + tln q K (li - 1 - rw - q - 1) z)), .int 0])), (mu, .inl (cI, 4, .inl su)), (mc, .inl (cI, 4, .inl cu)), (mn, .inl (cI, 4, .inl nu))]) [0, 2, 3, 4] (by decide) rfl
                    have hKc := hK.sub (tys' := [(cI, .int)]) [1] rfl
                    refine mcv (va_runV (As := [.int 3, .int 1, .int (nI N), .int (nI ((N + 1 + 1) / 2))]) (rest := []) ⟨hx, hb, hml, hown, hg⟩ (c_M_learn3P l D y ms mw mu mc mn mr mq md bi ne li sp q sz (wa - (z + 1 + tln q K (li - 1 - rw - q - 1) z)) 0 en la (nI (z + 1 + tln q K (li - 1 - rw - q - 1) z)) 0 cI su cu nu sm ct ng ((N + 1 + 1) / 2) N hsu hcu hnu hc0 hn0 hs0 (by omega) (by omega)) (cwV 4 hg (gV gw_646 gw_648 gs_23 gw_7 gw_649) rfl rfl rfl (by decide +kernel) ⟨Nat.le_of_ble_eq_true rfl, Nat.le_of_ble_eq_true rfl⟩) ⟨fun a U g mk q => by obtain ⟨q0, qP, qK, qD⟩ := q; exact ⟨q0, qP, va_K.moved (u := U) (U := U.calling g mk a) (Vm.Alike.refl U.vm) qK, qD⟩, va_recv hKc hPc (ci := 5) (q0 := 0) rfl rfl, fun U hU hW => ⟨rfl, by rw [hU]; exact hPc, va_K.moved hW.alike hKc, hDc.weaken (fun _ _ _ _ => trivial)⟩⟩ rfl rfl hl.1 rfl (lv_room (Nat.le_of_ble_eq_true rfl)) d_M_readInterrupt_143 (⟨Nat.le_of_ble_eq_true rfl, Nat.le_of_ble_eq_true rfl⟩)) hS hP hD [0, 2, 3, 4] rfl rfl rfl (fun H locs hP hD hS => ?_)
                    have hP : va_P D CLS [(y, .inr (5, [.int 0, .int (nI bi), .int (nI ne), .int (nI li), .int (nI sp), .int (nI q), .ref ms, .ref mw, .ref mu, .ref mc, .ref mn, .int en, .int (nI sz), .ref mr, .int (nI (wa - (z + 1 + tln q K (li - 1 - rw - q - 1) z))), .ref mq, .int la, .ref md, .int (nI (z + 1 + tln q K (li - 1 - rw - q - 1) z)), .int 0])), (mw, .inl (cI, 2, .inl lw)), (mu, .inl (cI, 4, .inl (upd su 3 (nI (hvd ct (sm + (N + 1 - 1) / 2)))))), (mc, .inl (cI, 4, .inl (upd cu 3 (nI (hvd ct ct + 1))))), (mn, .inl (cI, 4, .inl (upd nu 3 (nI (hvd ct ng))))), (mq, .inl (cB, 1000, .inl (gof wq (z + 1 + tln q K (li - 1 - rw - q - 1) z) (wa - (z + 1 + tln q K (li - 1 - rw - q - 1) z)))))] H := hP
                    have hD : va_D A [(y, .inr (5, [.int 0, .int (nI bi), .int (nI ne), .int (nI li), .int (nI sp), .int (nI q), .ref ms, .ref mw, .ref mu, .ref mc, .ref mn, .int en, .int (nI sz), .ref mr, .int (nI (wa - (z + 1 + tln q K (li - 1 - rw - q - 1) z))), .ref mq, .int la, .ref md, .int (nI (z + 1 + tln q K (li - 1 - rw - q - 1) z)), .int 0])), (mw, .inl (cI, 2, .inl lw)), (mu, .inl (cI, 4, .inl (upd su 3 (nI (hvd ct (sm + (N + 1 - 1) / 2)))))), (mc, .inl (cI, 4, .inl (upd cu 3 (nI (hvd ct ct + 1))))), (mn, .inl (cI, 4, .inl (upd nu 3 (nI (hvd ct ng))))), (mq, .inl (cB, 1000, .inl (gof wq (z + 1 + tln q K (li - 1 - rw - q - 1) z) (wa - (z + 1 + tln q K (li - 1 - rw - q - 1) z)))))] := hD
                    refine lv_iload hx hb d_M_readInterrupt_146 (lv_at hl 0 rfl) ?_
                    exact W.iret (v := nI ((N + 1 + 1) / 2)) hx hb hr (fun t ht hW => ⟨rfl, by rw [ht]; exact hP, (hAe ▸ hS).F ht⟩) (hAe ▸ hS).2.2 d_M_readInterrupt_148
                  · skip
                    exact absurd c_10 (by decide)
            · skip
              exact absurd rfl c_6
          · skip
            have hodd : (N + 1) % 2 = 1 := (nI_eq (b := 1) (by omega) (by omega)).mp c_5
            refine lv_iconst (v := 1) hx hb d_M_readInterrupt_79 (by decide) ?_
            refine lv_goto (tgt := 84) hx hb d_M_readInterrupt_80 (by decide) ?_
            refine lv_istore (lv' := [(4, .int 1), (3, .int (nI N)), (2, .int 3), (0, .ref y), (1, .int 1)]) hx hb d_M_readInterrupt_84 hl (by decide) rfl (fun ls hl => ?_)
            refine lv_iload_n hx hb d_M_readInterrupt_86 rfl (lv_at hl 1 rfl) ?_
            refine lv_iload_n hx hb d_M_readInterrupt_87 rfl (lv_at hl 4 rfl) ?_
            refine lv_iadd hx hb d_M_readInterrupt_88 ?_
            refine tpi (y := nI (N + 1)) (nI_add _ 1) ?_
            refine lv_iload hx hb d_M_readInterrupt_89 (lv_at hl 0 rfl) ?_
            refine lv_if_eq (tgt := 98) hx hb d_M_readInterrupt_91 (by decide) (fun c_11 => ?_) (fun c_11 => ?_)
            · skip
              exact absurd c_11 (by decide)
            · skip
              refine lv_iconst (v := 1) hx hb d_M_readInterrupt_94 (by decide) ?_
              refine lv_goto (tgt := 99) hx hb d_M_readInterrupt_95 (by decide) ?_
              refine lv_iadd hx hb d_M_readInterrupt_99 ?_
              refine tpi (y := nI (N + 1 + 1)) (nI_add _ 1) ?_
              refine lv_iconst (v := 2) hx hb d_M_readInterrupt_100 (by decide) ?_
              refine lv_idiv hx hb d_M_readInterrupt_101 (by decide) ?_
              refine tpi (y := nI ((N + 1 + 1) / 2)) ((div2 (by omega)).trans (congrArg nI (by omega))) ?_
              refine lv_istore (lv' := [(5, .int (nI ((N + 1 + 1) / 2))), (4, .int 1), (3, .int (nI N)), (2, .int 3), (0, .ref y), (1, .int 1)]) hx hb d_M_readInterrupt_102 hl (by decide) rfl (fun ls hl => ?_)
              refine lv_aload_n hx hb d_M_readInterrupt_104 rfl (lv_at hl 4 rfl) ?_
              refine lv_iload_n hx hb d_M_readInterrupt_105 rfl (lv_at hl 3 rfl) ?_
              have hPc := hP.sub (ws' := [(y, .inr (5, [.int 0, .int (nI bi), .int (nI ne), .int (nI li), .int (nI sp), .int (nI q), .ref ms, .ref mw, .ref mu, .ref mc, .ref mn, .int en, .int (nI sz), .ref mr, .int (nI (wa - (z + 1 + tln q K (li - 1 - rw - q - 1) z))), .ref mq, .int la, .ref md, .int (nI (z + 1 + tln q K (li - 1 - rw - q - 1) z)), .int 0])), (mu, .inl (cI, 4, .inl su)), (mc, .inl (cI, 4, .inl cu)), (mn, .inl (cI, 4, .inl nu))]) [0, 2, 3, 4] rfl
              have hKc := hK.sub (tys' := [(cI, .int)]) [1] rfl
              refine pci (va_runV (As := [.int 3]) (rest := []) ⟨hx, hb, hml, hown, hg⟩ (c_M_isUp3 l D y ms mw mu mc mn mr mq md bi ne li sp q sz (wa - (z + 1 + tln q K (li - 1 - rw - q - 1) z)) 0 en la (nI (z + 1 + tln q K (li - 1 - rw - q - 1) z)) 0 cI su cu nu sm ct ng K hsu hcu hnu hc0 hn0 (by omega) hKb hK1 hK2) (cwV 1 hg (gV gw_634 gw_636 gs_20 gw_7 gw_637) rfl rfl rfl (by decide +kernel) ⟨Nat.le_of_ble_eq_true rfl, Nat.le_of_ble_eq_true rfl⟩) ⟨fun a U g mk q => by obtain ⟨q0, qP, qK⟩ := q; exact ⟨q0, qP, va_K.moved (u := U) (U := U.calling g mk a) (Vm.Alike.refl U.vm) qK⟩, va_recv hKc hPc (ci := 5) (q0 := 0) rfl rfl, fun U hU hW => ⟨rfl, by rw [hU]; exact hPc, va_K.moved hW.alike hKc⟩⟩ rfl rfl hl.1 rfl (lv_room (Nat.le_of_ble_eq_true rfl)) d_M_readInterrupt_106 (⟨Nat.le_of_ble_eq_true rfl, Nat.le_of_ble_eq_true rfl⟩)) ?_
              by_cases hup : (K = 0 ∧ 2 * ng < ct)
              · skip
                refine tpi (y := 1) (if_pos hup) ?_
                have hcn : ((N + 1) % 2 = 1 ↔ (K = 0 ∧ 2 * ng < ct)) := ⟨fun _ => hup, fun _ => hodd⟩
                refine lv_iload hx hb d_M_readInterrupt_109 (lv_at hl 1 rfl) ?_
                refine lv_icmp_ne (tgt := 119) hx hb d_M_readInterrupt_111 (by decide) (fun c_12 => ?_) (fun c_12 => ?_)
                · skip
                  exact absurd rfl c_12
                · skip
                  refine lv_iload hx hb d_M_readInterrupt_114 (lv_at hl 0 rfl) ?_
                  refine lv_goto (tgt := 122) hx hb d_M_readInterrupt_116 (by decide) ?_
                  refine lv_istore (lv' := [(6, .int (nI ((N + 1 + 1) / 2))), (5, .int (nI ((N + 1 + 1) / 2))), (4, .int 1), (3, .int (nI N)), (2, .int 3), (0, .ref y), (1, .int 1)]) hx hb d_M_readInterrupt_122 hl (by decide) rfl (fun ls hl => ?_)
                  refine lv_aload_n hx hb d_M_readInterrupt_124 rfl (lv_at hl 5 rfl) ?_
                  refine lv_iload_n hx hb d_M_readInterrupt_125 rfl (lv_at hl 6 rfl) ?_
                  refine lv_iload hx hb d_M_readInterrupt_126 (lv_at hl 0 rfl) ?_
                  have hPc := hP.sub (ws' := [(y, .inr (5, [.int 0, .int (nI bi), .int (nI ne), .int (nI li), .int (nI sp), .int (nI q), .ref ms, .ref mw, .ref mu, .ref mc, .ref mn, .int en, .int (nI sz), .ref mr, .int (nI (wa - (z + 1 + tln q K (li - 1 - rw - q - 1) z))), .ref mq, .int la, .ref md, .int (nI (z + 1 + tln q K (li - 1 - rw - q - 1) z)), .int 0]))]) [0] rfl
                  have hKc := hK.sub (tys' := []) [] rfl
                  refine pci (va_runV (As := [.int 1, .int (nI ((N + 1 + 1) / 2))]) (rest := []) ⟨hx, hb, hml, hown, hg⟩ (c_M_isError l D y ms mw mu mc mn mr mq md bi ne li sp q sz (wa - (z + 1 + tln q K (li - 1 - rw - q - 1) z)) 0 en la (nI (z + 1 + tln q K (li - 1 - rw - q - 1) z)) 0 1 (nI ((N + 1 + 1) / 2)) (by omega)) (cwV 2 hg (gV gw_630 gw_632 gs_19 gw_7 gw_633) rfl rfl rfl (by decide +kernel) ⟨Nat.le_of_ble_eq_true rfl, Nat.le_of_ble_eq_true rfl⟩) ⟨fun a U g mk q => by obtain ⟨q0, qP, qK⟩ := q; exact ⟨q0, qP, va_K.moved (u := U) (U := U.calling g mk a) (Vm.Alike.refl U.vm) qK⟩, va_recv hKc hPc (ci := 5) (q0 := 0) rfl rfl, fun U hU hW => ⟨rfl, by rw [hU]; exact hPc, va_K.moved hW.alike hKc⟩⟩ rfl rfl hl.1 rfl (lv_room (Nat.le_of_ble_eq_true rfl)) d_M_readInterrupt_128 (⟨Nat.le_of_ble_eq_true rfl, Nat.le_of_ble_eq_true rfl⟩)) ?_
                  refine tpi (y := 1) (if_pos ⟨by rw [nI_toInt (by omega)]; omega, by rw [nI_toInt (by omega)]; omega, Or.inl (nI_ne0 hn1 (by omega))⟩) ?_
                  refine lv_if_ne (tgt := 137) hx hb d_M_readInterrupt_131 (by decide) (fun c_13 => ?_) (fun c_13 => ?_)
                  · skip
                    refine lv_aload_n hx hb d_M_readInterrupt_137 rfl (lv_at hl 5 rfl) ?_
                    refine lv_iload_n hx hb d_M_readInterrupt_138 rfl (lv_at hl 4 rfl) ?_
                    refine lv_iload_n hx hb d_M_readInterrupt_139 rfl (lv_at hl 6 rfl) ?_
                    refine lv_iload_n hx hb d_M_readInterrupt_140 rfl (lv_at hl 3 rfl) ?_
                    refine lv_iload hx hb d_M_readInterrupt_141 (lv_at hl 0 rfl) ?_
                    have hPc := hP.sub (ws' := [(y, .inr (5, [.int 0, .int (nI bi), .int (nI ne), .int (nI li), .int (nI sp), .int (nI q), .ref ms, .ref mw, .ref mu, .ref mc, .ref mn, .int en, .int (nI sz), .ref mr, .int (nI (wa - (z + 1 + tln q K (li - 1 - rw - q - 1) z))), .ref mq, .int la, .ref md, .int (nI (z + 1 + tln q K (li - 1 - rw - q - 1) z)), .int 0])), (mu, .inl (cI, 4, .inl su)), (mc, .inl (cI, 4, .inl cu)), (mn, .inl (cI, 4, .inl nu))]) [0, 2, 3, 4] rfl
                    have hDc := hD.sub (ws' := [(y, .inr (5, [.int 0, .int (nI bi), .int (nI ne), .int (nI li), .int (nI sp), .int (nI q), .ref ms, .ref mw, .ref mu, .ref mc, .ref mn, .int en, .int (nI sz), .ref mr, .int (nI (wa - (z + 1 + tln q K (li - 1 - rw - q - 1) z))), .ref mq, .int la, .ref md, .int (nI (z + 1 + tln q K (li - 1 - rw - q - 1) z)), .int 0])), (mu, .inl (cI, 4, .inl su)), (mc, .inl (cI, 4, .inl cu)), (mn, .inl (cI, 4, .inl nu))]) [0, 2, 3, 4] (by decide) rfl
                    have hKc := hK.sub (tys' := [(cI, .int)]) [1] rfl
                    refine mcv (va_runV (As := [.int 3, .int 1, .int (nI N), .int (nI ((N + 1 + 1) / 2))]) (rest := []) ⟨hx, hb, hml, hown, hg⟩ (c_M_learn3P l D y ms mw mu mc mn mr mq md bi ne li sp q sz (wa - (z + 1 + tln q K (li - 1 - rw - q - 1) z)) 0 en la (nI (z + 1 + tln q K (li - 1 - rw - q - 1) z)) 0 cI su cu nu sm ct ng ((N + 1 + 1) / 2) N hsu hcu hnu hc0 hn0 hs0 (by omega) (by omega)) (cwV 4 hg (gV gw_646 gw_648 gs_23 gw_7 gw_649) rfl rfl rfl (by decide +kernel) ⟨Nat.le_of_ble_eq_true rfl, Nat.le_of_ble_eq_true rfl⟩) ⟨fun a U g mk q => by obtain ⟨q0, qP, qK, qD⟩ := q; exact ⟨q0, qP, va_K.moved (u := U) (U := U.calling g mk a) (Vm.Alike.refl U.vm) qK, qD⟩, va_recv hKc hPc (ci := 5) (q0 := 0) rfl rfl, fun U hU hW => ⟨rfl, by rw [hU]; exact hPc, va_K.moved hW.alike hKc, hDc.weaken (fun _ _ _ _ => trivial)⟩⟩ rfl rfl hl.1 rfl (lv_room (Nat.le_of_ble_eq_true rfl)) d_M_readInterrupt_143 (⟨Nat.le_of_ble_eq_true rfl, Nat.le_of_ble_eq_true rfl⟩)) hS hP hD [0, 2, 3, 4] rfl rfl rfl (fun H locs hP hD hS => ?_)
                    have hP : va_P D CLS [(y, .inr (5, [.int 0, .int (nI bi), .int (nI ne), .int (nI li), .int (nI sp), .int (nI q), .ref ms, .ref mw, .ref mu, .ref mc, .ref mn, .int en, .int (nI sz), .ref mr, .int (nI (wa - (z + 1 + tln q K (li - 1 - rw - q - 1) z))), .ref mq, .int la, .ref md, .int (nI (z + 1 + tln q K (li - 1 - rw - q - 1) z)), .int 0])), (mw, .inl (cI, 2, .inl lw)), (mu, .inl (cI, 4, .inl (upd su 3 (nI (hvd ct (sm + (N + 1 - 1) / 2)))))), (mc, .inl (cI, 4, .inl (upd cu 3 (nI (hvd ct ct + 1))))), (mn, .inl (cI, 4, .inl (upd nu 3 (nI (hvd ct ng))))), (mq, .inl (cB, 1000, .inl (gof wq (z + 1 + tln q K (li - 1 - rw - q - 1) z) (wa - (z + 1 + tln q K (li - 1 - rw - q - 1) z)))))] H := hP
                    have hD : va_D A [(y, .inr (5, [.int 0, .int (nI bi), .int (nI ne), .int (nI li), .int (nI sp), .int (nI q), .ref ms, .ref mw, .ref mu, .ref mc, .ref mn, .int en, .int (nI sz), .ref mr, .int (nI (wa - (z + 1 + tln q K (li - 1 - rw - q - 1) z))), .ref mq, .int la, .ref md, .int (nI (z + 1 + tln q K (li - 1 - rw - q - 1) z)), .int 0])), (mw, .inl (cI, 2, .inl lw)), (mu, .inl (cI, 4, .inl (upd su 3 (nI (hvd ct (sm + (N + 1 - 1) / 2)))))), (mc, .inl (cI, 4, .inl (upd cu 3 (nI (hvd ct ct + 1))))), (mn, .inl (cI, 4, .inl (upd nu 3 (nI (hvd ct ng))))), (mq, .inl (cB, 1000, .inl (gof wq (z + 1 + tln q K (li - 1 - rw - q - 1) z) (wa - (z + 1 + tln q K (li - 1 - rw - q - 1) z)))))] := hD
                    refine lv_iload hx hb d_M_readInterrupt_146 (lv_at hl 0 rfl) ?_
                    exact W.iret (v := nI ((N + 1 + 1) / 2)) hx hb hr (fun t ht hW => ⟨rfl, by rw [ht]; exact hP, (hAe ▸ hS).F ht⟩) (hAe ▸ hS).2.2 d_M_readInterrupt_148
                  · skip
                    exact absurd c_13 (by decide)
              · skip
                refine tpi (y := 0) (if_neg hup) ?_
                have hcn : ¬ ((N + 1) % 2 = 1 ↔ (K = 0 ∧ 2 * ng < ct)) := fun q9 => hup (q9.mp hodd)
                refine lv_iload hx hb d_M_readInterrupt_109 (lv_at hl 1 rfl) ?_
                refine lv_icmp_ne (tgt := 119) hx hb d_M_readInterrupt_111 (by decide) (fun c_14 => ?_) (fun c_14 => ?_)
                · skip
                  refine lv_iload hx hb d_M_readInterrupt_119 (lv_at hl 0 rfl) ?_
                  refine lv_ineg hx hb d_M_readInterrupt_121 ?_
                  refine tpi (y := nI ((N + 1 + 1) / 2)) (by rw [hs2.resolve_left hcn]; rfl) ?_
                  refine lv_istore (lv' := [(6, .int (nI ((N + 1 + 1) / 2))), (5, .int (nI ((N + 1 + 1) / 2))), (4, .int 1), (3, .int (nI N)), (2, .int 3), (0, .ref y), (1, .int 1)]) hx hb d_M_readInterrupt_122 hl (by decide) rfl (fun ls hl => ?_)
                  refine lv_aload_n hx hb d_M_readInterrupt_124 rfl (lv_at hl 5 rfl) ?_
                  refine lv_iload_n hx hb d_M_readInterrupt_125 rfl (lv_at hl 6 rfl) ?_
                  refine lv_iload hx hb d_M_readInterrupt_126 (lv_at hl 0 rfl) ?_
                  have hPc := hP.sub (ws' := [(y, .inr (5, [.int 0, .int (nI bi), .int (nI ne), .int (nI li), .int (nI sp), .int (nI q), .ref ms, .ref mw, .ref mu, .ref mc, .ref mn, .int en, .int (nI sz), .ref mr, .int (nI (wa - (z + 1 + tln q K (li - 1 - rw - q - 1) z))), .ref mq, .int la, .ref md, .int (nI (z + 1 + tln q K (li - 1 - rw - q - 1) z)), .int 0]))]) [0] rfl
                  have hKc := hK.sub (tys' := []) [] rfl
                  refine pci (va_runV (As := [.int 1, .int (nI ((N + 1 + 1) / 2))]) (rest := []) ⟨hx, hb, hml, hown, hg⟩ (c_M_isError l D y ms mw mu mc mn mr mq md bi ne li sp q sz (wa - (z + 1 + tln q K (li - 1 - rw - q - 1) z)) 0 en la (nI (z + 1 + tln q K (li - 1 - rw - q - 1) z)) 0 1 (nI ((N + 1 + 1) / 2)) (by omega)) (cwV 2 hg (gV gw_630 gw_632 gs_19 gw_7 gw_633) rfl rfl rfl (by decide +kernel) ⟨Nat.le_of_ble_eq_true rfl, Nat.le_of_ble_eq_true rfl⟩) ⟨fun a U g mk q => by obtain ⟨q0, qP, qK⟩ := q; exact ⟨q0, qP, va_K.moved (u := U) (U := U.calling g mk a) (Vm.Alike.refl U.vm) qK⟩, va_recv hKc hPc (ci := 5) (q0 := 0) rfl rfl, fun U hU hW => ⟨rfl, by rw [hU]; exact hPc, va_K.moved hW.alike hKc⟩⟩ rfl rfl hl.1 rfl (lv_room (Nat.le_of_ble_eq_true rfl)) d_M_readInterrupt_128 (⟨Nat.le_of_ble_eq_true rfl, Nat.le_of_ble_eq_true rfl⟩)) ?_
                  refine tpi (y := 1) (if_pos ⟨by rw [nI_toInt (by omega)]; omega, by rw [nI_toInt (by omega)]; omega, Or.inl (nI_ne0 hn1 (by omega))⟩) ?_
                  refine lv_if_ne (tgt := 137) hx hb d_M_readInterrupt_131 (by decide) (fun c_15 => ?_) (fun c_15 => ?_)
                  · skip
                    refine lv_aload_n hx hb d_M_readInterrupt_137 rfl (lv_at hl 5 rfl) ?_
                    refine lv_iload_n hx hb d_M_readInterrupt_138 rfl (lv_at hl 4 rfl) ?_
                    refine lv_iload_n hx hb d_M_readInterrupt_139 rfl (lv_at hl 6 rfl) ?_
                    refine lv_iload_n hx hb d_M_readInterrupt_140 rfl (lv_at hl 3 rfl) ?_
                    refine lv_iload hx hb d_M_readInterrupt_141 (lv_at hl 0 rfl) ?_
                    have hPc := hP.sub (ws' := [(y, .inr (5, [.int 0, .int (nI bi), .int (nI ne), .int (nI li), .int (nI sp), .int (nI q), .ref ms, .ref mw, .ref mu, .ref mc, .ref mn, .int en, .int (nI sz), .ref mr, .int (nI (wa - (z + 1 + tln q K (li - 1 - rw - q - 1) z))), .ref mq, .int la, .ref md, .int (nI (z + 1 + tln q K (li - 1 - rw - q - 1) z)), .int 0])), (mu, .inl (cI, 4, .inl su)), (mc, .inl (cI, 4, .inl cu)), (mn, .inl (cI, 4, .inl nu))]) [0, 2, 3, 4] rfl
                    have hDc := hD.sub (ws' := [(y, .inr (5, [.int 0, .int (nI bi), .int (nI ne), .int (nI li), .int (nI sp), .int (nI q), .ref ms, .ref mw, .ref mu, .ref mc, .ref mn, .int en, .int (nI sz), .ref mr, .int (nI (wa - (z + 1 + tln q K (li - 1 - rw - q - 1) z))), .ref mq, .int la, .ref md, .int (nI (z + 1 + tln q K (li - 1 - rw - q - 1) z)), .int 0])), (mu, .inl (cI, 4, .inl su)), (mc, .inl (cI, 4, .inl cu)), (mn, .inl (cI, 4, .inl nu))]) [0, 2, 3, 4] (by decide) rfl
                    have hKc := hK.sub (tys' := [(cI, .int)]) [1] rfl
                    refine mcv (va_runV (As := [.int 3, .int 1, .int (nI N), .int (nI ((N + 1 + 1) / 2))]) (rest := []) ⟨hx, hb, hml, hown, hg⟩ (c_M_learn3P l D y ms mw mu mc mn mr mq md bi ne li sp q sz (wa - (z + 1 + tln q K (li - 1 - rw - q - 1) z)) 0 en la (nI (z + 1 + tln q K (li - 1 - rw - q - 1) z)) 0 cI su cu nu sm ct ng ((N + 1 + 1) / 2) N hsu hcu hnu hc0 hn0 hs0 (by omega) (by omega)) (cwV 4 hg (gV gw_646 gw_648 gs_23 gw_7 gw_649) rfl rfl rfl (by decide +kernel) ⟨Nat.le_of_ble_eq_true rfl, Nat.le_of_ble_eq_true rfl⟩) ⟨fun a U g mk q => by obtain ⟨q0, qP, qK, qD⟩ := q; exact ⟨q0, qP, va_K.moved (u := U) (U := U.calling g mk a) (Vm.Alike.refl U.vm) qK, qD⟩, va_recv hKc hPc (ci := 5) (q0 := 0) rfl rfl, fun U hU hW => ⟨rfl, by rw [hU]; exact hPc, va_K.moved hW.alike hKc, hDc.weaken (fun _ _ _ _ => trivial)⟩⟩ rfl rfl hl.1 rfl (lv_room (Nat.le_of_ble_eq_true rfl)) d_M_readInterrupt_143 (⟨Nat.le_of_ble_eq_true rfl, Nat.le_of_ble_eq_true rfl⟩)) hS hP hD [0, 2, 3, 4] rfl rfl rfl (fun H locs hP hD hS => ?_)
                    have hP : va_P D CLS [(y, .inr (5, [.int 0, .int (nI bi), .int (nI ne), .int (nI li), .int (nI sp), .int (nI q), .ref ms, .ref mw, .ref mu, .ref mc, .ref mn, .int en, .int (nI sz), .ref mr, .int (nI (wa - (z + 1 + tln q K (li - 1 - rw - q - 1) z))), .ref mq, .int la, .ref md, .int (nI (z + 1 + tln q K (li - 1 - rw - q - 1) z)), .int 0])), (mw, .inl (cI, 2, .inl lw)), (mu, .inl (cI, 4, .inl (upd su 3 (nI (hvd ct (sm + (N + 1 - 1) / 2)))))), (mc, .inl (cI, 4, .inl (upd cu 3 (nI (hvd ct ct + 1))))), (mn, .inl (cI, 4, .inl (upd nu 3 (nI (hvd ct ng))))), (mq, .inl (cB, 1000, .inl (gof wq (z + 1 + tln q K (li - 1 - rw - q - 1) z) (wa - (z + 1 + tln q K (li - 1 - rw - q - 1) z)))))] H := hP
                    have hD : va_D A [(y, .inr (5, [.int 0, .int (nI bi), .int (nI ne), .int (nI li), .int (nI sp), .int (nI q), .ref ms, .ref mw, .ref mu, .ref mc, .ref mn, .int en, .int (nI sz), .ref mr, .int (nI (wa - (z + 1 + tln q K (li - 1 - rw - q - 1) z))), .ref mq, .int la, .ref md, .int (nI (z + 1 + tln q K (li - 1 - rw - q - 1) z)), .int 0])), (mw, .inl (cI, 2, .inl lw)), (mu, .inl (cI, 4, .inl (upd su 3 (nI (hvd ct (sm + (N + 1 - 1) / 2)))))), (mc, .inl (cI, 4, .inl (upd cu 3 (nI (hvd ct ct + 1))))), (mn, .inl (cI, 4, .inl (upd nu 3 (nI (hvd ct ng))))), (mq, .inl (cB, 1000, .inl (gof wq (z + 1 + tln q K (li - 1 - rw - q - 1) z) (wa - (z + 1 + tln q K (li - 1 - rw - q - 1) z)))))] := hD
                    refine lv_iload hx hb d_M_readInterrupt_146 (lv_at hl 0 rfl) ?_
                    exact W.iret (v := nI ((N + 1 + 1) / 2)) hx hb hr (fun t ht hW => ⟨rfl, by rw [ht]; exact hP, (hAe ▸ hS).F ht⟩) (hAe ▸ hS).2.2 d_M_readInterrupt_148
                  · skip
                    exact absurd c_15 (by decide)
                · skip
                  exact absurd c_14 (by decide)
        · skip
          exact absurd c_4 (nm2 (by omega))
      · skip
        exact absurd c_3 (nm1 (by omega))
    · skip
      exact absurd (by decide) c_2
set_option maxHeartbeats 4000000 in
set_option maxRecDepth 100000 in
theorem c_M_readInterrupt1M (l : Launch) (D : va_G) (y ms mw mu mc mn mr mq md bi ne li sp q sz wa : Nat) (th en la at0 lk : Int32) (cB cI : ClassId) (lw su cu nu wq : Nat → Int32) (rw sm ct ng K z : Nat) (hlw : lw 1 = nI rw) (hsu : su 3 = nI sm) (hcu : cu 3 = nI ct) (hnu : nu 3 = nI ng) (hwa : wa ≤ 1000) (hqb : ∀ j, j < wa → wq j = 0 ∨ wq j = 1) (hc0 : ct ≤ 64) (hn0 : ng ≤ 64) (hs0 : sm < 2 ^ 29) (hKb : K ≤ 29) (hK1 : sm + ct / 2 ≤ ct * 2 ^ K) (hK2 : ∀ j, j < K → ct * 2 ^ j < sm + ct / 2) (hsp : sp ≤ 65536) (hq : q ≤ 29) (hli : q + 18 ≤ li) (hlb : li ≤ 200) (hrw : rw ≤ 15) (hz1 : z ≤ (li - 1 - rw - q - 1) + 1) (hz2 : z ≤ wa) (hz3 : ∀ j, j < z → wq j = 0) (hz4 : z = (li - 1 - rw - q - 1) + 1 ∨ z = wa ∨ wq z ≠ 0) (hzm : z ≤ (li - 1 - rw - q - 1)) (hw : z + 1 + tln q K (li - 1 - rw - q - 1) z ≤ wa) (hzk : z * 2 ^ K < 2 ^ 31) (N : Nat) (hN : rnum (mbt wq wa) q K (li - 1 - rw - q - 1) z = nI N) (hNb : N < 2 ^ 29) (hs2 : ¬ ((N + 1) % 2 = 1 ↔ (K = 0 ∧ 2 * ng < ct))) (hn : ((N + 1 + 1) / 2) ≤ sp / 2) (hn1 : 0 < ((N + 1 + 1) / 2)) : Met l y_M_readInterrupt (WSY y_M_readInterrupt b_M_readInterrupt 7 (some .int)) ({ frames := 3, cells := 0, slots := 0, locals := 72 }) (va_Pc [.ref y, .int 1] (fun U => va_P D CLS [(y, .inr (5, [.int th, .int (nI bi), .int (nI ne), .int (nI li), .int (nI sp), .int (nI q), .ref ms, .ref mw, .ref mu, .ref mc, .ref mn, .int en, .int (nI sz), .ref mr, .int (nI wa), .ref mq, .int la, .ref md, .int at0, .int lk])), (mw, .inl (cI, 2, .inl lw)), (mu, .inl (cI, 4, .inl su)), (mc, .inl (cI, 4, .inl cu)), (mn, .inl (cI, 4, .inl nu)), (mq, .inl (cB, 1000, .inl wq))] U.heap ∧ va_K D CLS [(cB, .byte), (cI, .int)] U ∧ va_D (fun _ => True) [(y, .inr (5, [.int th, .int (nI bi), .int (nI ne), .int (nI li), .int (nI sp), .int (nI q), .ref ms, .ref mw, .ref mu, .ref mc, .ref mn, .int en, .int (nI sz), .ref mr, .int (nI wa), .ref mq, .int la, .ref md, .int at0, .int lk])), (mw, .inl (cI, 2, .inl lw)), (mu, .inl (cI, 4, .inl su)), (mc, .inl (cI, 4, .inl cu)), (mn, .inl (cI, 4, .inl nu)), (mq, .inl (cB, 1000, .inl wq))])) (QM (some (.int (-nI ((N + 1 + 1) / 2)))) [(y, .inr (5, [.int th, .int (nI bi), .int (nI ne), .int (nI li), .int (nI sp), .int (nI q), .ref ms, .ref mw, .ref mu, .ref mc, .ref mn, .int en, .int (nI sz), .ref mr, .int (nI wa), .ref mq, .int la, .ref md, .int at0, .int lk])), (mw, .inl (cI, 2, .inl lw)), (mu, .inl (cI, 4, .inl su)), (mc, .inl (cI, 4, .inl cu)), (mn, .inl (cI, 4, .inl nu)), (mq, .inl (cB, 1000, .inl wq))] [(y, .inr (5, [.int 0, .int (nI bi), .int (nI ne), .int (nI li), .int (nI sp), .int (nI q), .ref ms, .ref mw, .ref mu, .ref mc, .ref mn, .int en, .int (nI sz), .ref mr, .int (nI (wa - (z + 1 + tln q K (li - 1 - rw - q - 1) z))), .ref mq, .int la, .ref md, .int (nI (z + 1 + tln q K (li - 1 - rw - q - 1) z)), .int 0])), (mw, .inl (cI, 2, .inl lw)), (mu, .inl (cI, 4, .inl (upd su 3 (nI (hvd ct (sm + (N + 1 - 1) / 2)))))), (mc, .inl (cI, 4, .inl (upd cu 3 (nI (hvd ct ct + 1))))), (mn, .inl (cI, 4, .inl (upd nu 3 (nI (hvd ct (ng + 1)))))), (mq, .inl (cB, 1000, .inl (gof wq (z + 1 + tln q K (li - 1 - rw - q - 1) z) (wa - (z + 1 + tln q K (li - 1 - rw - q - 1) z)))))] D) 0 0 (ad [(y, .inr (5, [.int th, .int (nI bi), .int (nI ne), .int (nI li), .int (nI sp), .int (nI q), .ref ms, .ref mw, .ref mu, .ref mc, .ref mn, .int en, .int (nI sz), .ref mr, .int (nI wa), .ref mq, .int la, .ref md, .int at0, .int lk])), (mw, .inl (cI, 2, .inl lw)), (mu, .inl (cI, 4, .inl su)), (mc, .inl (cI, 4, .inl cu)), (mn, .inl (cI, 4, .inl nu)), (mq, .inl (cB, 1000, .inl wq))]) := by
  refine Met.ofW (cc := b_M_readInterrupt) (maxL := 7) (ret := (some .int)) (by decide) rfl ?_
  intro p e s m args below meth c s₁ B hml hv
  obtain ⟨rfl, hP, hK, hD0⟩ := hv
  have hx := B.exec
  have hb := B.bytes
  have hr := B.returns
  have hts := atoms_spec (ws := WSY y_M_readInterrupt b_M_readInterrupt 7 (some .int)) B.pre
  have hg : ∀ w ∈ GW, w.before _ s = true := fun w h => hts w (List.mem_cons_of_mem _ h)
  have hown : s.vm.findClass "LineGolombModel" = some m.cls := findClass_of_methodNamed B.named
  have hlocks := B.notSynchronized
  obtain ⟨A, hAe⟩ : ∃ A, A = ad [(y, .inr (5, [.int th, .int (nI bi), .int (nI ne), .int (nI li), .int (nI sp), .int (nI q), .ref ms, .ref mw, .ref mu, .ref mc, .ref mn, .int en, .int (nI sz), .ref mr, .int (nI wa), .ref mq, .int la, .ref md, .int at0, .int lk])), (mw, .inl (cI, 2, .inl lw)), (mu, .inl (cI, 4, .inl su)), (mc, .inl (cI, 4, .inl cu)), (mn, .inl (cI, 4, .inl nu)), (mq, .inl (cB, 1000, .inl wq))] := ⟨_, rfl⟩
  have hD : va_D A [(y, .inr (5, [.int th, .int (nI bi), .int (nI ne), .int (nI li), .int (nI sp), .int (nI q), .ref ms, .ref mw, .ref mu, .ref mc, .ref mn, .int en, .int (nI sz), .ref mr, .int (nI wa), .ref mq, .int la, .ref md, .int at0, .int lk])), (mw, .inl (cI, 2, .inl lw)), (mu, .inl (cI, 4, .inl su)), (mc, .inl (cI, 4, .inl cu)), (mn, .inl (cI, 4, .inl nu)), (mq, .inl (cB, 1000, .inl wq))] := by rw [hAe]; exact va_D_ad hD0
  have hS : va_S A s.heap s.heap [] := va_S.rf
  have hl := lv_entry ([.ref y, .int 1]) (n := 7) (Nat.le_of_ble_eq_true rfl)
  rw [lg_entry_eq]
  generalize (lg_sl ([.ref y, .int 1]) ++ List.replicate (7 - (lg_sl ([.ref y, .int 1])).length) Slot.unset).toArray = ls at hl ⊢
  have hl : lv_has ls 7 [(0, .ref y), (1, .int 1)] := hl
  refine lv_aload_n hx hb d_M_readInterrupt_0 rfl (lv_at hl 0 rfl) ?_
  refine lv_aload_n hx hb d_M_readInterrupt_1 rfl (lv_at hl 0 rfl) ?_
  refine lv_iload_n hx hb d_M_readInterrupt_2 rfl (lv_at hl 1 rfl) ?_
  have hPc := hP.sub (ws' := [(y, .inr (5, [.int th, .int (nI bi), .int (nI ne), .int (nI li), .int (nI sp), .int (nI q), .ref ms, .ref mw, .ref mu, .ref mc, .ref mn, .int en, .int (nI sz), .ref mr, .int (nI wa), .ref mq, .int la, .ref md, .int at0, .int lk]))]) [0] rfl
  have hKc := hK.sub (tys' := []) [] rfl
  refine pci (va_runV (As := [.int 1]) (rest := [.ref y]) ⟨hx, hb, hml, hown, hg⟩ (c_M_isKind l D y ms mw mu mc mn mr mq md bi ne li sp q sz wa th en la at0 lk 1) (cwV 1 hg (gV gw_626 gw_628 gs_18 gw_7 gw_629) rfl rfl rfl (by decide +kernel) ⟨Nat.le_of_ble_eq_true rfl, Nat.le_of_ble_eq_true rfl⟩) ⟨fun a U g mk q => by obtain ⟨q0, qP, qK⟩ := q; exact ⟨q0, qP, va_K.moved (u := U) (U := U.calling g mk a) (Vm.Alike.refl U.vm) qK⟩, va_recv hKc hPc (ci := 5) (q0 := 0) rfl rfl, fun U hU hW => ⟨rfl, by rw [hU]; exact hPc, va_K.moved hW.alike hKc⟩⟩ rfl rfl hl.1 rfl (lv_room (Nat.le_of_ble_eq_true rfl)) d_M_readInterrupt_3 (⟨Nat.le_of_ble_eq_true rfl, Nat.le_of_ble_eq_true rfl⟩)) ?_
  refine tpi (y := 1) (by decide) ?_
  refine lv_if_eq (tgt := 13) hx hb d_M_readInterrupt_6 (by decide) (fun c_1 => ?_) (fun c_1 => ?_)
  · skip
    exact absurd c_1 (by decide)
  · skip
    refine lv_iconst (v := 0) hx hb d_M_readInterrupt_9 (by decide) ?_
    refine lv_goto (tgt := 14) hx hb d_M_readInterrupt_10 (by decide) ?_
    refine va_put (D := D) (ci := 5) (v := .int 0) (ty := .int) (C := R_M) (T := T_M) (N := 20) hx hb hg in_M ty_M tok_M nm_M hown hK hP hD hS 0 rfl rfl 0 (by decide) (hg _ gw_524) (fun _ h9 => h9) rfl (by decide +kernel) (rfl) (rfl) (Nat.le_of_ble_eq_true rfl) d_M_readInterrupt_14 (fun H locs hP hD hS => ?_)
    have hP : va_P D CLS [(y, .inr (5, [.int 0, .int (nI bi), .int (nI ne), .int (nI li), .int (nI sp), .int (nI q), .ref ms, .ref mw, .ref mu, .ref mc, .ref mn, .int en, .int (nI sz), .ref mr, .int (nI wa), .ref mq, .int la, .ref md, .int at0, .int lk])), (mw, .inl (cI, 2, .inl lw)), (mu, .inl (cI, 4, .inl su)), (mc, .inl (cI, 4, .inl cu)), (mn, .inl (cI, 4, .inl nu)), (mq, .inl (cB, 1000, .inl wq))] H := hP
    have hD : va_D A [(y, .inr (5, [.int 0, .int (nI bi), .int (nI ne), .int (nI li), .int (nI sp), .int (nI q), .ref ms, .ref mw, .ref mu, .ref mc, .ref mn, .int en, .int (nI sz), .ref mr, .int (nI wa), .ref mq, .int la, .ref md, .int at0, .int lk])), (mw, .inl (cI, 2, .inl lw)), (mu, .inl (cI, 4, .inl su)), (mc, .inl (cI, 4, .inl cu)), (mn, .inl (cI, 4, .inl nu)), (mq, .inl (cB, 1000, .inl wq))] := hD
    refine lv_aload_n hx hb d_M_readInterrupt_17 rfl (lv_at hl 0 rfl) ?_
    refine va_get (D := D) (ci := 5) (v := .int 0) (C := R_M) (T := T_M) (N := 20) hx hb hg in_M hown hK hP 0 rfl rfl 0 (by decide) (hg _ gw_524) (fun _ h9 => h9) rfl d_M_readInterrupt_18 ?_
    refine lv_if_le (tgt := 26) hx hb d_M_readInterrupt_21 (by decide) (fun c_2 => ?_) (fun c_2 => ?_)
    · skip
      refine lv_iconst (v := 2) hx hb d_M_readInterrupt_26 (by decide) ?_
      refine lv_iload_n hx hb d_M_readInterrupt_27 rfl (lv_at hl 1 rfl) ?_
      refine lv_iadd hx hb d_M_readInterrupt_28 ?_
      refine tpi (y := 3) (by decide) ?_
      refine lv_istore_n (lv' := [(2, .int 3), (0, .ref y), (1, .int 1)]) hx hb d_M_readInterrupt_29 rfl hl (by decide) rfl (fun ls hl => ?_)
      refine lv_aload_n hx hb d_M_readInterrupt_30 rfl (lv_at hl 1 rfl) ?_
      refine lv_aload_n hx hb d_M_readInterrupt_31 rfl (lv_at hl 1 rfl) ?_
      refine lv_iload_n hx hb d_M_readInterrupt_32 rfl (lv_at hl 0 rfl) ?_
      have hPc := hP.sub (ws' := [(y, .inr (5, [.int 0, .int (nI bi), .int (nI ne), .int (nI li), .int (nI sp), .int (nI q), .ref ms, .ref mw, .ref mu, .ref mc, .ref mn, .int en, .int (nI sz), .ref mr, .int (nI wa), .ref mq, .int la, .ref md, .int at0, .int lk])), (mu, .inl (cI, 4, .inl su)), (mc, .inl (cI, 4, .inl cu)), (mn, .inl (cI, 4, .inl nu))]) [0, 2, 3, 4] rfl
      have hKc := hK.sub (tys' := [(cI, .int)]) [1] rfl
      refine pci (va_runV (As := [.int 3]) (rest := [.ref y]) ⟨hx, hb, hml, hown, hg⟩ (c_M_kOf3 l D y ms mw mu mc mn mr mq md bi ne li sp q sz wa 0 en la at0 lk cI su cu nu sm ct ng K hsu hcu hnu hc0 hn0 (by omega) hKb hK1 hK2) (cwV 1 hg (gV gw_638 gw_640 gs_21 gw_7 gw_641) rfl rfl rfl (by decide +kernel) ⟨Nat.le_of_ble_eq_true rfl, Nat.le_of_ble_eq_true rfl⟩) ⟨fun a U g mk q => by obtain ⟨q0, qP, qK⟩ := q; exact ⟨q0, qP, va_K.moved (u := U) (U := U.calling g mk a) (Vm.Alike.refl U.vm) qK⟩, va_recv hKc hPc (ci := 5) (q0 := 0) rfl rfl, fun U hU hW => ⟨rfl, by rw [hU]; exact hPc, va_K.moved hW.alike hKc⟩⟩ rfl rfl hl.1 rfl (lv_room (Nat.le_of_ble_eq_true rfl)) d_M_readInterrupt_33 (⟨Nat.le_of_ble_eq_true rfl, Nat.le_of_ble_eq_true rfl⟩)) ?_
      refine lv_aload_n hx hb d_M_readInterrupt_36 rfl (lv_at hl 1 rfl) ?_
      refine lv_iconst (v := 1) hx hb d_M_readInterrupt_37 (by decide) ?_
      have hPc := hP.sub (ws' := [(y, .inr (5, [.int 0, .int (nI bi), .int (nI ne), .int (nI li), .int (nI sp), .int (nI q), .ref ms, .ref mw, .ref mu, .ref mc, .ref mn, .int en, .int (nI sz), .ref mr, .int (nI wa), .ref mq, .int la, .ref md, .int at0, .int lk])), (mw, .inl (cI, 2, .inl lw))]) [0, 1] rfl
      have hKc := hK.sub (tys' := [(cI, .int)]) [1] rfl
      refine pci (va_runV (As := [.int 1]) (rest := [.int (nI K), .ref y]) ⟨hx, hb, hml, hown, hg⟩ (c_M_limitFor1 l D y ms mw mu mc mn mr mq md bi ne li sp q sz wa 0 en la at0 lk cI lw rw hlw (by omega)) (cwV 1 hg (gV gw_642 gw_644 gs_22 gw_7 gw_645) rfl rfl rfl (by decide +kernel) ⟨Nat.le_of_ble_eq_true rfl, Nat.le_of_ble_eq_true rfl⟩) ⟨fun a U g mk q => by obtain ⟨q0, qP, qK⟩ := q; exact ⟨q0, qP, va_K.moved (u := U) (U := U.calling g mk a) (Vm.Alike.refl U.vm) qK⟩, va_recv hKc hPc (ci := 5) (q0 := 0) rfl rfl, fun U hU hW => ⟨rfl, by rw [hU]; exact hPc, va_K.moved hW.alike hKc⟩⟩ rfl rfl hl.1 rfl (lv_room (Nat.le_of_ble_eq_true rfl)) d_M_readInterrupt_38 (⟨Nat.le_of_ble_eq_true rfl, Nat.le_of_ble_eq_true rfl⟩)) ?_
      have hPc := hP.sub (ws' := [(y, .inr (5, [.int 0, .int (nI bi), .int (nI ne), .int (nI li), .int (nI sp), .int (nI q), .ref ms, .ref mw, .ref mu, .ref mc, .ref mn, .int en, .int (nI sz), .ref mr, .int (nI wa), .ref mq, .int la, .ref md, .int at0, .int lk])), (mq, .inl (cB, 1000, .inl wq))]) [0, 5] rfl
      have hDc := hD.sub (ws' := [(y, .inr (5, [.int 0, .int (nI bi), .int (nI ne), .int (nI li), .int (nI sp), .int (nI q), .ref ms, .ref mw, .ref mu, .ref mc, .ref mn, .int en, .int (nI sz), .ref mr, .int (nI wa), .ref mq, .int la, .ref md, .int at0, .int lk])), (mq, .inl (cB, 1000, .inl wq))]) [0, 5] (by decide) rfl
      have hKc := hK.sub (tys' := [(cB, .byte)]) [0] rfl
      refine mci (va_runV (As := [.int (nI K), .int (nI (li - 1 - rw))]) (rest := []) ⟨hx, hb, hml, hown, hg⟩ (c_M_lookG l D y ms mw mu mc mn mr mq md bi ne li sp q sz wa 0 en la at0 lk cB wq K (li - 1 - rw) z hwa (by omega) (by omega) (by omega) (by omega) hz1 hz2 hz3 hz4 hzm hw hzk) (cwV 2 hg (gV gw_674 gw_676 gs_25 gw_7 gw_677) rfl rfl rfl (by decide +kernel) ⟨Nat.le_of_ble_eq_true rfl, Nat.le_of_ble_eq_true rfl⟩) ⟨fun a U g mk q => by obtain ⟨q0, qP, qK, qD⟩ := q; exact ⟨q0, qP, va_K.moved (u := U) (U := U.calling g mk a) (Vm.Alike.refl U.vm) qK, qD⟩, va_recv hKc hPc (ci := 5) (q0 := 0) rfl rfl, fun U hU hW => ⟨rfl, by rw [hU]; exact hPc, va_K.moved hW.alike hKc, hDc.weaken (fun _ _ _ _ => trivial)⟩⟩ rfl rfl hl.1 rfl (lv_room (Nat.le_of_ble_eq_true rfl)) d_M_readInterrupt_41 (⟨Nat.le_of_ble_eq_true rfl, Nat.le_of_ble_eq_true rfl⟩)) hS hP hD [0, 5] rfl rfl rfl (fun H locs hP hD hS => ?_)
      have hP : va_P D CLS [(y, .inr (5, [.int 0, .int (nI bi), .int (nI ne), .int (nI li), .int (nI sp), .int (nI q), .ref ms, .ref mw, .ref mu, .ref mc, .ref mn, .int en, .int (nI sz), .ref mr, .int (nI wa), .ref mq, .int la, .ref md, .int (nI (z + 1 + tln q K (li - 1 - rw - q - 1) z)), .int 0])), (mw, .inl (cI, 2, .inl lw)), (mu, .inl (cI, 4, .inl su)), (mc, .inl (cI, 4, .inl cu)), (mn, .inl (cI, 4, .inl nu)), (mq, .inl (cB, 1000, .inl wq))] H := hP
      have hD : va_D A [(y, .inr (5, [.int 0, .int (nI bi), .int (nI ne), .int (nI li), .int (nI sp), .int (nI q), .ref ms, .ref mw, .ref mu, .ref mc, .ref mn, .int en, .int (nI sz), .ref mr, .int (nI wa), .ref mq, .int la, .ref md, .int (nI (z + 1 + tln q K (li - 1 - rw - q - 1) z)), .int 0])), (mw, .inl (cI, 2, .inl lw)), (mu, .inl (cI, 4, .inl su)), (mc, .inl (cI, 4, .inl cu)), (mn, .inl (cI, 4, .inl nu)), (mq, .inl (cB, 1000, .inl wq))] := hD
      refine tpi (y := nI N) (hN) ?_
      refine lv_istore_n (lv' := [(3, .int (nI N)), (2, .int 3), (0, .ref y), (1, .int 1)]) hx hb d_M_readInterrupt_44 rfl hl (by decide) rfl (fun ls hl => ?_)
      refine lv_iload_n hx hb d_M_readInterrupt_45 rfl (lv_at hl 0 rfl) ?_
      refine lv_iconst (v := (-1)) hx hb d_M_readInterrupt_46 (by decide) ?_
      refine lv_icmp_ne (tgt := 53) hx hb d_M_readInterrupt_47 (by decide) (fun c_3 => ?_) (fun c_3 => ?_)
      · skip
        refine lv_aload_n hx hb d_M_readInterrupt_53 rfl (lv_at hl 2 rfl) ?_
        refine lv_aload_n hx hb d_M_readInterrupt_54 rfl (lv_at hl 2 rfl) ?_
        refine va_get (D := D) (ci := 5) (v := .int (nI (z + 1 + tln q K (li - 1 - rw - q - 1) z))) (C := R_M) (T := T_M) (N := 20) hx hb hg in_M hown hK hP 0 rfl rfl 18 (by decide) (hg _ gw_542) (fun _ h9 => h9) rfl d_M_readInterrupt_55 ?_
        have hPc := hP.sub (ws' := [(y, .inr (5, [.int 0, .int (nI bi), .int (nI ne), .int (nI li), .int (nI sp), .int (nI q), .ref ms, .ref mw, .ref mu, .ref mc, .ref mn, .int en, .int (nI sz), .ref mr, .int (nI wa), .ref mq, .int la, .ref md, .int (nI (z + 1 + tln q K (li - 1 - rw - q - 1) z)), .int 0])), (mq, .inl (cB, 1000, .inl wq))]) [0, 5] rfl
        have hDc := hD.sub (ws' := [(y, .inr (5, [.int 0, .int (nI bi), .int (nI ne), .int (nI li), .int (nI sp), .int (nI q), .ref ms, .ref mw, .ref mu, .ref mc, .ref mn, .int en, .int (nI sz), .ref mr, .int (nI wa), .ref mq, .int la, .ref md, .int (nI (z + 1 + tln q K (li - 1 - rw - q - 1) z)), .int 0])), (mq, .inl (cB, 1000, .inl wq))]) [0, 5] (by decide) rfl
        have hKc := hK.sub (tys' := [(cB, .byte)]) [0] rfl
        refine mcv (va_runV (As := [.int (nI (z + 1 + tln q K (li - 1 - rw - q - 1) z))]) (rest := []) ⟨hx, hb, hml, hown, hg⟩ (c_M_go l D y ms mw mu mc mn mr mq md bi ne li sp q sz wa 0 en la (nI (z + 1 + tln q K (li - 1 - rw - q - 1) z)) 0 cB wq (z + 1 + tln q K (li - 1 - rw - q - 1) z) hwa (by omega) hqb) (cwV 1 hg (gV gw_686 gw_688 gs_28 gw_7 gw_689) rfl rfl rfl (by decide +kernel) ⟨Nat.le_of_ble_eq_true rfl, Nat.le_of_ble_eq_true rfl⟩) ⟨fun a U g mk q => by obtain ⟨q0, qP, qK, qD⟩ := q; exact ⟨q0, qP, va_K.moved (u := U) (U := U.calling g mk a) (Vm.Alike.refl U.vm) qK, qD⟩, va_recv hKc hPc (ci := 5) (q0 := 0) rfl rfl, fun U hU hW => ⟨rfl, by rw [hU]; exact hPc, va_K.moved hW.alike hKc, hDc.weaken (fun _ _ _ _ => trivial)⟩⟩ rfl rfl hl.1 rfl (lv_room (Nat.le_of_ble_eq_true rfl)) d_M_readInterrupt_58 (⟨Nat.le_of_ble_eq_true rfl, Nat.le_of_ble_eq_true rfl⟩)) hS hP hD [0, 5] rfl rfl rfl (fun H locs hP hD hS => ?_)
        have hP : va_P D CLS [(y, .inr (5, [.int 0, .int (nI bi), .int (nI ne), .int (nI li), .int (nI sp), .int (nI q), .ref ms, .ref mw, .ref mu, .ref mc, .ref mn, .int en, .int (nI sz), .ref mr, .int (nI (wa - (z + 1 + tln q K (li - 1 - rw - q - 1) z))), .ref mq, .int la, .ref md, .int (nI (z + 1 + tln q K (li - 1 - rw - q - 1) z)), .int 0])), (mw, .inl (cI, 2, .inl lw)), (mu, .inl (cI, 4, .inl su)), (mc, .inl (cI, 4, .inl cu)), (mn, .inl (cI, 4, .inl nu)), (mq, .inl (cB, 1000, .inl (gof wq (z + 1 + tln q K (li - 1 - rw - q - 1) z) (wa - (z + 1 + tln q K (li - 1 - rw - q - 1) z)))))] H := hP
        have hD : va_D A [(y, .inr (5, [.int 0, .int (nI bi), .int (nI ne), .int (nI li), .int (nI sp), .int (nI q), .ref ms, .ref mw, .ref mu, .ref mc, .ref mn, .int en, .int (nI sz), .ref mr, .int (nI (wa - (z + 1 + tln q K (li - 1 - rw - q - 1) z))), .ref mq, .int la, .ref md, .int (nI (z + 1 + tln q K (li - 1 - rw - q - 1) z)), .int 0])), (mw, .inl (cI, 2, .inl lw)), (mu, .inl (cI, 4, .inl su)), (mc, .inl (cI, 4, .inl cu)), (mn, .inl (cI, 4, .inl nu)), (mq, .inl (cB, 1000, .inl (gof wq (z + 1 + tln q K (li - 1 - rw - q - 1) z) (wa - (z + 1 + tln q K (li - 1 - rw - q - 1) z)))))] := hD
        refine lv_iload_n hx hb d_M_readInterrupt_61 rfl (lv_at hl 0 rfl) ?_
        refine lv_bipush (v := (-2)) hx hb d_M_readInterrupt_62 (by decide) ?_
        refine lv_icmp_ne (tgt := 70) hx hb d_M_readInterrupt_64 (by decide) (fun c_4 => ?_) (fun c_4 => ?_)
        · skip
          refine lv_iload_n hx hb d_M_readInterrupt_70 rfl (lv_at hl 0 rfl) ?_
          refine lv_iload_n hx hb d_M_readInterrupt_71 rfl (lv_at hl 3 rfl) ?_
          refine lv_iadd hx hb d_M_readInterrupt_72 ?_
          refine tpi (y := nI (N + 1)) (nI_add _ 1) ?_
          refine lv_iconst (v := 2) hx hb d_M_readInterrupt_73 (by decide) ?_
          refine lv_irem hx hb d_M_readInterrupt_74 (by decide) ?_
          refine tpi (y := nI ((N + 1) % 2)) (rem2 (by omega)) ?_
          refine lv_iconst (v := 1) hx hb d_M_readInterrupt_75 (by decide) ?_
          refine lv_icmp_ne (tgt := 83) hx hb d_M_readInterrupt_76 (by decide) (fun c_5 => ?_) (fun c_5 => ?_)
          · skip
            have hodd : ¬ (N + 1) % 2 = 1 := fun q9 => c_5 (by rw [q9]; rfl)
            refine lv_iconst (v := 0) hx hb d_M_readInterrupt_83 (by decide) ?_
            refine lv_istore (lv' := [(4, .int 0), (3, .int (nI N)), (2, .int 3), (0, .ref y), (1, .int 1)]) hx hb d_M_readInterrupt_84 hl (by decide) rfl (fun ls hl => ?_)
            refine lv_iload_n hx hb d_M_readInterrupt_86 rfl (lv_at hl 1 rfl) ?_
            refine lv_iload_n hx hb d_M_readInterrupt_87 rfl (lv_at hl 4 rfl) ?_
            refine lv_iadd hx hb d_M_readInterrupt_88 ?_
            refine tpi (y := nI (N + 1)) (nI_add _ 1) ?_
            refine lv_iload hx hb d_M_readInterrupt_89 (lv_at hl 0 rfl) ?_
            refine lv_if_eq (tgt := 98) hx hb d_M_readInterrupt_91 (by decide) (fun c_6 => ?_) (fun c_6 => ?_)
            · skip
              refine lv_iconst (v := 0) hx hb d_M_readInterrupt_98 (by decide) ?_
              refine lv_iadd hx hb d_M_readInterrupt_99 ?_
              refine tpi (y := nI (N + 1 + 0)) (nI_add _ 0) ?_
              refine lv_iconst (v := 2) hx hb d_M_readInterrupt_100 (by decide) ?_
              refine lv_idiv hx hb d_M_readInterrupt_101 (by decide) ?_
              refine tpi (y := nI ((N + 1 + 1) / 2)) ((div2 (by omega)).trans (congrArg nI (by omega))) ?_
              refine lv_istore (lv' := [(5, .int (nI ((N + 1 + 1) / 2))), (4, .int 0), (3, .int (nI N)), (2, .int 3), (0, .ref y), (1, .int 1)]) hx hb d_M_readInterrupt_102 hl (by decide) rfl (fun ls hl => ?_)
              refine lv_aload_n hx hb d_M_readInterrupt_104 rfl (lv_at hl 4 rfl) ?_
              refine lv_iload_n hx hb d_M_readInterrupt_105 rfl (lv_at hl 3 rfl) ?_
              have hPc := hP.sub (ws' := [(y, .inr (5, [.int 0, .int (nI bi), .int (nI ne), .int (nI li), .int (nI sp), .int (nI q), .ref ms, .ref mw, .ref mu, .ref mc, .ref mn, .int en, .int (nI sz), .ref mr, .int (nI (wa - (z + 1 + tln q K (li - 1 - rw - q - 1) z))), .ref mq, .int la, .ref md, .int (nI (z + 1 + tln q K (li - 1 - rw - q - 1) z)), .int 0])), (mu, .inl (cI, 4, .inl su)), (mc, .inl (cI, 4, .inl cu)), (mn, .inl (cI, 4, .inl nu))]) [0, 2, 3, 4] rfl
              have hKc := hK.sub (tys' := [(cI, .int)]) [1] rfl
              refine pci (va_runV (As := [.int 3]) (rest := []) ⟨hx, hb, hml, hown, hg⟩ (c_M_isUp3 l D y ms mw mu mc mn mr mq md bi ne li sp q sz (wa - (z + 1 + tln q K (li - 1 - rw - q - 1) z)) 0 en la (nI (z + 1 + tln q K (li - 1 - rw - q - 1) z)) 0 cI su cu nu sm ct ng K hsu hcu hnu hc0 hn0 (by omega) hKb hK1 hK2) (cwV 1 hg (gV gw_634 gw_636 gs_20 gw_7 gw_637) rfl rfl rfl (by decide +kernel) ⟨Nat.le_of_ble_eq_true rfl, Nat.le_of_ble_eq_true rfl⟩) ⟨fun a U g mk q => by obtain ⟨q0, qP, qK⟩ := q; exact ⟨q0, qP, va_K.moved (u := U) (U := U.calling g mk a) (Vm.Alike.refl U.vm) qK⟩, va_recv hKc hPc (ci := 5) (q0 := 0) rfl rfl, fun U hU hW => ⟨rfl, by rw [hU]; exact hPc, va_K.moved hW.alike hKc⟩⟩ rfl rfl hl.1 rfl (lv_room (Nat.le_of_ble_eq_true rfl)) d_M_readInterrupt_106 (⟨Nat.le_of_ble_eq_true rfl, Nat.le_of_ble_eq_true rfl⟩)) ?_
              by_cases hup : (K = 0 ∧ 2 * ng < ct)
              · skip
                refine tpi (y := 1) (if_pos hup) ?_
                have hcn : ¬ ((N + 1) % 2 = 1 ↔ (K = 0 ∧ 2 * ng < ct)) := fun q9 => hodd (q9.mpr hup)
                refine lv_iload hx hb d_M_readInterrupt_109 (lv_at hl 1 rfl) ?_
                refine lv_icmp_ne (tgt := 119) hx hb d_M_readInterrupt_111 (by decide) (fun c_7 => ?_) (fun c_7 => ?_)
                · skip
                  refine lv_iload hx hb d_M_readInterrupt_119 (lv_at hl 0 rfl) ?_
                  refine lv_ineg hx hb d_M_readInterrupt_121 ?_
                  refine lv_istore (lv' := [(6, .int (-(nI ((N + 1 + 1) / 2)))), (5, .int (nI ((N + 1 + 1) / 2))), (4, .int 0), (3, .int (nI N)), (2, .int 3), (0, .ref y), (1, .int 1)]) hx hb d_M_readInterrupt_122 hl (by decide) rfl (fun ls hl => ?_)
                  refine lv_aload_n hx hb d_M_readInterrupt_124 rfl (lv_at hl 5 rfl) ?_
                  refine lv_iload_n hx hb d_M_readInterrupt_125 rfl (lv_at hl 6 rfl) ?_
                  refine lv_iload hx hb d_M_readInterrupt_126 (lv_at hl 0 rfl) ?_
                  have hPc := hP.sub (ws' := [(y, .inr (5, [.int 0, .int (nI bi), .int (nI ne), .int (nI li), .int (nI sp), .int (nI q), .ref ms, .ref mw, .ref mu, .ref mc, .ref mn, .int en, .int (nI sz), .ref mr, .int (nI (wa - (z + 1 + tln q K (li - 1 - rw - q - 1) z))), .ref mq, .int la, .ref md, .int (nI (z + 1 + tln q K (li - 1 - rw - q - 1) z)), .int 0]))]) [0] rfl
                  have hKc := hK.sub (tys' := []) [] rfl
                  refine pci (va_runV (As := [.int 1, .int (-(nI ((N + 1 + 1) / 2)))]) (rest := []) ⟨hx, hb, hml, hown, hg⟩ (c_M_isError l D y ms mw mu mc mn mr mq md bi ne li sp q sz (wa - (z + 1 + tln q K (li - 1 - rw - q - 1) z)) 0 en la (nI (z + 1 + tln q K (li - 1 - rw - q - 1) z)) 0 1 (-nI ((N + 1 + 1) / 2)) (by omega)) (cwV 2 hg (gV gw_630 gw_632 gs_19 gw_7 gw_633) rfl rfl rfl (by decide +kernel) ⟨Nat.le_of_ble_eq_true rfl, Nat.le_of_ble_eq_true rfl⟩) ⟨fun a U g mk q => by obtain ⟨q0, qP, qK⟩ := q; exact ⟨q0, qP, va_K.moved (u := U) (U := U.calling g mk a) (Vm.Alike.refl U.vm) qK⟩, va_recv hKc hPc (ci := 5) (q0 := 0) rfl rfl, fun U hU hW => ⟨rfl, by rw [hU]; exact hPc, va_K.moved hW.alike hKc⟩⟩ rfl rfl hl.1 rfl (lv_room (Nat.le_of_ble_eq_true rfl)) d_M_readInterrupt_128 (⟨Nat.le_of_ble_eq_true rfl, Nat.le_of_ble_eq_true rfl⟩)) ?_
                  refine tpi (y := 1) (if_pos ⟨by rw [ngT (by omega)]; omega, by rw [ngT (by omega)]; omega, Or.inl (by rw [eqT, ngT (by omega), zT]; omega)⟩) ?_
                  refine lv_if_ne (tgt := 137) hx hb d_M_readInterrupt_131 (by decide) (fun c_8 => ?_) (fun c_8 => ?_)
                  · skip
                    refine lv_aload_n hx hb d_M_readInterrupt_137 rfl (lv_at hl 5 rfl) ?_
                    refine lv_iload_n hx hb d_M_readInterrupt_138 rfl (lv_at hl 4 rfl) ?_
                    refine lv_iload_n hx hb d_M_readInterrupt_139 rfl (lv_at hl 6 rfl) ?_
                    refine lv_iload_n hx hb d_M_readInterrupt_140 rfl (lv_at hl 3 rfl) ?_
                    refine lv_iload hx hb d_M_readInterrupt_141 (lv_at hl 0 rfl) ?_
                    have hPc := hP.sub (ws' := [(y, .inr (5, [.int 0, .int (nI bi), .int (nI ne), .int (nI li), .int (nI sp), .int (nI q), .ref ms, .ref mw, .ref mu, .ref mc, .ref mn, .int en, .int (nI sz), .ref mr, .int (nI (wa - (z + 1 + tln q K (li - 1 - rw - q - 1) z))), .ref mq, .int la, .ref md, .int (nI (z + 1 + tln q K (li - 1 - rw - q - 1) z)), .int 0])), (mu, .inl (cI, 4, .inl su)), (mc, .inl (cI, 4, .inl cu)), (mn, .inl (cI, 4, .inl nu))]) [0, 2, 3, 4] rfl
                    have hDc := hD.sub (ws' := [(y, .inr (5, [.int 0, .int (nI bi), .int (nI ne), .int (nI li), .int (nI sp), .int (nI q), .ref ms, .ref mw, .ref mu, .ref mc, .ref mn, .int en, .int (nI sz), .ref mr, .int (nI (wa - (z + 1 + tln q K (li - 1 - rw - q - 1) z))), .ref mq, .int la, .ref md, .int (nI (z + 1 + tln q K (li - 1 - rw - q - 1) z)), .int 0])), (mu, .inl (cI, 4, .inl su)), (mc, .inl (cI, 4, .inl cu)), (mn, .inl (cI, 4, .inl nu))]) [0, 2, 3, 4] (by decide) rfl
                    have hKc := hK.sub (tys' := [(cI, .int)]) [1] rfl
                    refine mcv (va_runV (As := [.int 3, .int 1, .int (nI N), .int (-(nI ((N + 1 + 1) / 2)))]) (rest := []) ⟨hx, hb, hml, hown, hg⟩ (c_M_learn3N l D y ms mw mu mc mn mr mq md bi ne li sp q sz (wa - (z + 1 + tln q K (li - 1 - rw - q - 1) z)) 0 en la (nI (z + 1 + tln q K (li - 1 - rw - q - 1) z)) 0 cI su cu nu sm ct ng ((N + 1 + 1) / 2) N hsu hcu hnu hc0 hn0 hs0 (by omega) (by omega) hn1) (cwV 4 hg (gV gw_646 gw_648 gs_23 gw_7 gw_649) rfl rfl rfl (by decide +kernel) ⟨Nat.le_of_ble_eq_true rfl, Nat.le_of_ble_eq_true rfl⟩) ⟨fun a U g mk q => by obtain ⟨q0, qP, qK, qD⟩ := q; exact ⟨q0, qP, va_K.moved (u := U) (U := U.calling g mk a) (Vm.Alike.refl U.vm) qK, qD⟩, va_recv hKc hPc (ci := 5) (q0 := 0) rfl rfl, fun U hU hW => ⟨rfl, by rw [hU]; exact hPc, va_K.moved hW.alike hKc, hDc.weaken (fun _ _ _ _ => trivial)⟩⟩ rfl rfl hl.1 rfl (lv_room (Nat.le_of_ble_eq_true rfl)) d_M_readInterrupt_143 (⟨Nat.le_of_ble_eq_true rfl, Nat.le_of_ble_eq_true rfl⟩)) hS hP hD [0, 2, 3, 4] rfl rfl rfl (fun H locs hP hD hS => ?_)
                    have hP : va_P D CLS [(y, .inr (5, [.int 0, .int (nI bi), .int (nI ne), .int (nI li), .int (nI sp), .int (nI q), .ref ms, .ref mw, .ref mu, .ref mc, .ref mn, .int en, .int (nI sz), .ref mr, .int (nI (wa - (z + 1 + tln q K (li - 1 - rw - q - 1) z))), .ref mq, .int la, .ref md, .int (nI (z + 1 + tln q K (li - 1 - rw - q - 1) z)), .int 0])), (mw, .inl (cI, 2, .inl lw)), (mu, .inl (cI, 4, .inl (upd su 3 (nI (hvd ct (sm + (N + 1 - 1) / 2)))))), (mc, .inl (cI, 4, .inl (upd cu 3 (nI (hvd ct ct + 1))))), (mn, .inl (cI, 4, .inl (upd nu 3 (nI (hvd ct (ng + 1)))))), (mq, .inl (cB, 1000, .inl (gof wq (z + 1 + tln q K (li - 1 - rw - q - 1) z) (wa - (z + 1 + tln q K (li - 1 - rw - q - 1) z)))))] H := hP
                    have hD : va_D A [(y, .inr (5, [.int 0, .int (nI bi), .int (nI ne), .int (nI li), .int (nI sp), .int (nI q), .ref ms, .ref mw, .ref mu, .ref mc, .ref mn, .int en, .int (nI sz), .ref mr, .int (nI (wa - (z + 1 + tln q K (li - 1 - rw - q - 1) z))), .ref mq, .int la, .ref md, .int (nI (z + 1 + tln q K (li - 1 - rw - q - 1) z)), .int 0])), (mw, .inl (cI, 2, .inl lw)), (mu, .inl (cI, 4, .inl (upd su 3 (nI (hvd ct (sm + (N + 1 - 1) / 2)))))), (mc, .inl (cI, 4, .inl (upd cu 3 (nI (hvd ct ct + 1))))), (mn, .inl (cI, 4, .inl (upd nu 3 (nI (hvd ct (ng + 1)))))), (mq, .inl (cB, 1000, .inl (gof wq (z + 1 + tln q K (li - 1 - rw - q - 1) z) (wa - (z + 1 + tln q K (li - 1 - rw - q - 1) z)))))] := hD
                    refine lv_iload hx hb d_M_readInterrupt_146 (lv_at hl 0 rfl) ?_
                    exact W.iret (v := -(nI ((N + 1 + 1) / 2))) hx hb hr (fun t ht hW => ⟨rfl, by rw [ht]; exact hP, (hAe ▸ hS).F ht⟩) (hAe ▸ hS).2.2 d_M_readInterrupt_148
                  · skip
                    exact absurd c_8 (by decide)
                · skip
                  exact absurd c_7 (by decide)
              · skip
                refine tpi (y := 0) (if_neg hup) ?_
                have hcn : ((N + 1) % 2 = 1 ↔ (K = 0 ∧ 2 * ng < ct)) := ⟨fun q9 => absurd q9 hodd, fun q9 => absurd q9 hup⟩
                refine lv_iload hx hb d_M_readInterrupt_109 (lv_at hl 1 rfl) ?_
                refine lv_icmp_ne (tgt := 119) hx hb d_M_readInterrupt_111 (by decide) (fun c_9 => ?_) (fun c_9 => ?_)
                · skip
                  exact absurd rfl c_9
                · skip
                  exact absurd hcn hs2
            · skip
              exact absurd rfl c_6
          · skip
            have hodd : (N + 1) % 2 = 1 := (nI_eq (b := 1) (by omega) (by omega)).mp c_5
            refine lv_iconst (v := 1) hx hb d_M_readInterrupt_79 (by decide) ?_
            refine lv_goto (tgt := 84) hx hb d_M_readInterrupt_80 (by decide) ?_
            refine lv_istore (lv' := [(4, .int 1), (3, .int (nI N)), (2, .int 3), (0, .ref y), (1, .int 1)]) hx hb d_M_readInterrupt_84 hl (by decide) rfl (fun ls hl => ?_)
            refine lv_iload_n hx hb d_M_readInterrupt_86 rfl (lv_at hl 1 rfl) ?_
            refine lv_iload_n hx hb d_M_readInterrupt_87 rfl (lv_at hl 4 rfl) ?_
            refine lv_iadd hx hb d_M_readInterrupt_88 ?_
            refine tpi (y := nI (N + 1)) (nI_add _ 1) ?_
            refine lv_iload hx hb d_M_readInterrupt_89 (lv_at hl 0 rfl) ?_
            refine lv_if_eq (tgt := 98) hx hb d_M_readInterrupt_91 (by decide) (fun c_10 => ?_) (fun c_10 => ?_)
            · skip
              exact absurd c_10 (by decide)
            · skip
              refine lv_iconst (v := 1) hx hb d_M_readInterrupt_94 (by decide) ?_
              refine lv_goto (tgt := 99) hx hb d_M_readInterrupt_95 (by decide) ?_
              refine lv_iadd hx hb d_M_readInterrupt_99 ?_
              refine tpi (y := nI (N + 1 + 1)) (nI_add _ 1) ?_
              refine lv_iconst (v := 2) hx hb d_M_readInterrupt_100 (by decide) ?_
              refine lv_idiv hx hb d_M_readInterrupt_101 (by decide) ?_
              refine tpi (y := nI ((N + 1 + 1) / 2)) ((div2 (by omega)).trans (congrArg nI (by omega))) ?_
              refine lv_istore (lv' := [(5, .int (nI ((N + 1 + 1) / 2))), (4, .int 1), (3, .int (nI N)), (2, .int 3), (0, .ref y), (1, .int 1)]) hx hb d_M_readInterrupt_102 hl (by decide) rfl (fun ls hl => ?_)
              refine lv_aload_n hx hb d_M_readInterrupt_104 rfl (lv_at hl 4 rfl) ?_
              refine lv_iload_n hx hb d_M_readInterrupt_105 rfl (lv_at hl 3 rfl) ?_
              have hPc := hP.sub (ws' := [(y, .inr (5, [.int 0, .int (nI bi), .int (nI ne), .int (nI li), .int (nI sp), .int (nI q), .ref ms, .ref mw, .ref mu, .ref mc, .ref mn, .int en, .int (nI sz), .ref mr, .int (nI (wa - (z + 1 + tln q K (li - 1 - rw - q - 1) z))), .ref mq, .int la, .ref md, .int (nI (z + 1 + tln q K (li - 1 - rw - q - 1) z)), .int 0])), (mu, .inl (cI, 4, .inl su)), (mc, .inl (cI, 4, .inl cu)), (mn, .inl (cI, 4, .inl nu))]) [0, 2, 3, 4] rfl
              have hKc := hK.sub (tys' := [(cI, .int)]) [1] rfl
              refine pci (va_runV (As := [.int 3]) (rest := []) ⟨hx, hb, hml, hown, hg⟩ (c_M_isUp3 l D y ms mw mu mc mn mr mq md bi ne li sp q sz (wa - (z + 1 + tln q K (li - 1 - rw - q - 1) z)) 0 en la (nI (z + 1 + tln q K (li - 1 - rw - q - 1) z)) 0 cI su cu nu sm ct ng K hsu hcu hnu hc0 hn0 (by omega) hKb hK1 hK2) (cwV 1 hg (gV gw_634 gw_636 gs_20 gw_7 gw_637) rfl rfl rfl (by decide +kernel) ⟨Nat.le_of_ble_eq_true rfl, Nat.le_of_ble_eq_true rfl⟩) ⟨fun a U g mk q => by obtain ⟨q0, qP, qK⟩ := q; exact ⟨q0, qP, va_K.moved (u := U) (U := U.calling g mk a) (Vm.Alike.refl U.vm) qK⟩, va_recv hKc hPc (ci := 5) (q0 := 0) rfl rfl, fun U hU hW => ⟨rfl, by rw [hU]; exact hPc, va_K.moved hW.alike hKc⟩⟩ rfl rfl hl.1 rfl (lv_room (Nat.le_of_ble_eq_true rfl)) d_M_readInterrupt_106 (⟨Nat.le_of_ble_eq_true rfl, Nat.le_of_ble_eq_true rfl⟩)) ?_
              by_cases hup : (K = 0 ∧ 2 * ng < ct)
              · skip
                refine tpi (y := 1) (if_pos hup) ?_
                have hcn : ((N + 1) % 2 = 1 ↔ (K = 0 ∧ 2 * ng < ct)) := ⟨fun _ => hup, fun _ => hodd⟩
                refine lv_iload hx hb d_M_readInterrupt_109 (lv_at hl 1 rfl) ?_
                refine lv_icmp_ne (tgt := 119) hx hb d_M_readInterrupt_111 (by decide) (fun c_11 => ?_) (fun c_11 => ?_)
                · skip
                  exact absurd rfl c_11
                · skip
                  exact absurd hcn hs2
              · skip
                refine tpi (y := 0) (if_neg hup) ?_
                have hcn : ¬ ((N + 1) % 2 = 1 ↔ (K = 0 ∧ 2 * ng < ct)) := fun q9 => hup (q9.mp hodd)
                refine lv_iload hx hb d_M_readInterrupt_109 (lv_at hl 1 rfl) ?_
                refine lv_icmp_ne (tgt := 119) hx hb d_M_readInterrupt_111 (by decide) (fun c_12 => ?_) (fun c_12 => ?_)
                · skip
                  refine lv_iload hx hb d_M_readInterrupt_119 (lv_at hl 0 rfl) ?_
                  refine lv_ineg hx hb d_M_readInterrupt_121 ?_
                  refine lv_istore (lv' := [(6, .int (-(nI ((N + 1 + 1) / 2)))), (5, .int (nI ((N + 1 + 1) / 2))), (4, .int 1), (3, .int (nI N)), (2, .int 3), (0, .ref y), (1, .int 1)]) hx hb d_M_readInterrupt_122 hl (by decide) rfl (fun ls hl => ?_)
                  refine lv_aload_n hx hb d_M_readInterrupt_124 rfl (lv_at hl 5 rfl) ?_
                  refine lv_iload_n hx hb d_M_readInterrupt_125 rfl (lv_at hl 6 rfl) ?_
                  refine lv_iload hx hb d_M_readInterrupt_126 (lv_at hl 0 rfl) ?_
                  have hPc := hP.sub (ws' := [(y, .inr (5, [.int 0, .int (nI bi), .int (nI ne), .int (nI li), .int (nI sp), .int (nI q), .ref ms, .ref mw, .ref mu, .ref mc, .ref mn, .int en, .int (nI sz), .ref mr, .int (nI (wa - (z + 1 + tln q K (li - 1 - rw - q - 1) z))), .ref mq, .int la, .ref md, .int (nI (z + 1 + tln q K (li - 1 - rw - q - 1) z)), .int 0]))]) [0] rfl
                  have hKc := hK.sub (tys' := []) [] rfl
                  refine pci (va_runV (As := [.int 1, .int (-(nI ((N + 1 + 1) / 2)))]) (rest := []) ⟨hx, hb, hml, hown, hg⟩ (c_M_isError l D y ms mw mu mc mn mr mq md bi ne li sp q sz (wa - (z + 1 + tln q K (li - 1 - rw - q - 1) z)) 0 en la (nI (z + 1 + tln q K (li - 1 - rw - q - 1) z)) 0 1 (-nI ((N + 1 + 1) / 2)) (by omega)) (cwV 2 hg (gV gw_630 gw_632 gs_19 gw_7 gw_633) rfl rfl rfl (by decide +kernel) ⟨Nat.le_of_ble_eq_true rfl, Nat.le_of_ble_eq_true rfl⟩) ⟨fun a U g mk q => by obtain ⟨q0, qP, qK⟩ := q; exact ⟨q0, qP, va_K.moved (u := U) (U := U.calling g mk a) (Vm.Alike.refl U.vm) qK⟩, va_recv hKc hPc (ci := 5) (q0 := 0) rfl rfl, fun U hU hW => ⟨rfl, by rw [hU]; exact hPc, va_K.moved hW.alike hKc⟩⟩ rfl rfl hl.1 rfl (lv_room (Nat.le_of_ble_eq_true rfl)) d_M_readInterrupt_128 (⟨Nat.le_of_ble_eq_true rfl, Nat.le_of_ble_eq_true rfl⟩)) ?_
                  refine tpi (y := 1) (if_pos ⟨by rw [ngT (by omega)]; omega, by rw [ngT (by omega)]; omega, Or.inl (by rw [eqT, ngT (by omega), zT]; omega)⟩) ?_
                  refine lv_if_ne (tgt := 137) hx hb d_M_readInterrupt_131 (by decide) (fun c_13 => ?_) (fun c_13 => ?_)
                  · skip
                    refine lv_aload_n hx hb d_M_readInterrupt_137 rfl (lv_at hl 5 rfl) ?_
                    refine lv_iload_n hx hb d_M_readInterrupt_138 rfl (lv_at hl 4 rfl) ?_
                    refine lv_iload_n hx hb d_M_readInterrupt_139 rfl (lv_at hl 6 rfl) ?_
                    refine lv_iload_n hx hb d_M_readInterrupt_140 rfl (lv_at hl 3 rfl) ?_
                    refine lv_iload hx hb d_M_readInterrupt_141 (lv_at hl 0 rfl) ?_
                    have hPc := hP.sub (ws' := [(y, .inr (5, [.int 0, .int (nI bi), .int (nI ne), .int (nI li), .int (nI sp), .int (nI q), .ref ms, .ref mw, .ref mu, .ref mc, .ref mn, .int en, .int (nI sz), .ref mr, .int (nI (wa - (z + 1 + tln q K (li - 1 - rw - q - 1) z))), .ref mq, .int la, .ref md, .int (nI (z + 1 + tln q K (li - 1 - rw - q - 1) z)), .int 0])), (mu, .inl (cI, 4, .inl su)), (mc, .inl (cI, 4, .inl cu)), (mn, .inl (cI, 4, .inl nu))]) [0, 2, 3, 4] rfl
                    have hDc := hD.sub (ws' := [(y, .inr (5, [.int 0, .int (nI bi), .int (nI ne), .int (nI li), .int (nI sp), .int (nI q), .ref ms, .ref mw, .ref mu, .ref mc, .ref mn, .int en, .int (nI sz), .ref mr, .int (nI (wa - (z + 1 + tln q K (li - 1 - rw - q - 1) z))), .ref mq, .int la, .ref md, .int (nI (z + 1 + tln q K (li - 1 - rw - q - 1) z)), .int 0])), (mu, .inl (cI, 4, .inl su)), (mc, .inl (cI, 4, .inl cu)), (mn, .inl (cI, 4, .inl nu))]) [0, 2, 3, 4] (by decide) rfl
                    have hKc := hK.sub (tys' := [(cI, .int)]) [1] rfl
                    refine mcv (va_runV (As := [.int 3, .int 1, .int (nI N), .int (-(nI ((N + 1 + 1) / 2)))]) (rest := []) ⟨hx, hb, hml, hown, hg⟩ (c_M_learn3N l D y ms mw mu mc mn mr mq md bi ne li sp q sz (wa - (z + 1 + tln q K (li - 1 - rw - q - 1) z)) 0 en la (nI (z + 1 + tln q K (li - 1 - rw - q - 1) z)) 0 cI su cu nu sm ct ng ((N + 1 + 1) / 2) N hsu hcu hnu hc0 hn0 hs0 (by omega) (by omega) hn1) (cwV 4 hg (gV gw_646 gw_648 gs_23 gw_7 gw_649) rfl rfl rfl (by decide +kernel) ⟨Nat.le_of_ble_eq_true rfl, Nat.le_of_ble_eq_true rfl⟩) ⟨fun a U g mk q => by obtain ⟨q0, qP, qK, qD⟩ := q; exact ⟨q0, qP, va_K.moved (u := U) (U := U.calling g mk a) (Vm.Alike.refl U.vm) qK, qD⟩, va_recv hKc hPc (ci := 5) (q0 := 0) rfl rfl, fun U hU hW => ⟨rfl, by rw [hU]; exact hPc, va_K.moved hW.alike hKc, hDc.weaken (fun _ _ _ _ => trivial)⟩⟩ rfl rfl hl.1 rfl (lv_room (Nat.le_of_ble_eq_true rfl)) d_M_readInterrupt_143 (⟨Nat.le_of_ble_eq_true rfl, Nat.le_of_ble_eq_true rfl⟩)) hS hP hD [0, 2, 3, 4] rfl rfl rfl (fun H locs hP hD hS => ?_)
                    have hP : va_P D CLS [(y, .inr (5, [.int 0, .int (nI bi), .int (nI ne), .int (nI li), .int (nI sp), .int (nI q), .ref ms, .ref mw, .ref mu, .ref mc, .ref mn, .int en, .int (nI sz), .ref mr, .int (nI (wa - (z + 1 + tln q K (li - 1 - rw - q - 1) z))), .ref mq, .int la, .ref md, .int (nI (z + 1 + tln q K (li - 1 - rw - q - 1) z)), .int 0])), (mw, .inl (cI, 2, .inl lw)), (mu, .inl (cI, 4, .inl (upd su 3 (nI (hvd ct (sm + (N + 1 - 1) / 2)))))), (mc, .inl (cI, 4, .inl (upd cu 3 (nI (hvd ct ct + 1))))), (mn, .inl (cI, 4, .inl (upd nu 3 (nI (hvd ct (ng + 1)))))), (mq, .inl (cB, 1000, .inl (gof wq (z + 1 + tln q K (li - 1 - rw - q - 1) z) (wa - (z + 1 + tln q K (li - 1 - rw - q - 1) z)))))] H := hP
                    have hD : va_D A [(y, .inr (5, [.int 0, .int (nI bi), .int (nI ne), .int (nI li), .int (nI sp), .int (nI q), .ref ms, .ref mw, .ref mu, .ref mc, .ref mn, .int en, .int (nI sz), .ref mr, .int (nI (wa - (z + 1 + tln q K (li - 1 - rw - q - 1) z))), .ref mq, .int la, .ref md, .int (nI (z + 1 + tln q K (li - 1 - rw - q - 1) z)), .int 0])), (mw, .inl (cI, 2, .inl lw)), (mu, .inl (cI, 4, .inl (upd su 3 (nI (hvd ct (sm + (N + 1 - 1) / 2)))))), (mc, .inl (cI, 4, .inl (upd cu 3 (nI (hvd ct ct + 1))))), (mn, .inl (cI, 4, .inl (upd nu 3 (nI (hvd ct (ng + 1)))))), (mq, .inl (cB, 1000, .inl (gof wq (z + 1 + tln q K (li - 1 - rw - q - 1) z) (wa - (z + 1 + tln q K (li - 1 - rw - q - 1) z)))))] := hD
                    refine lv_iload hx hb d_M_readInterrupt_146 (lv_at hl 0 rfl) ?_
                    exact W.iret (v := -(nI ((N + 1 + 1) / 2))) hx hb hr (fun t ht hW => ⟨rfl, by rw [ht]; exact hP, (hAe ▸ hS).F ht⟩) (hAe ▸ hS).2.2 d_M_readInterrupt_148
                  · skip
                    exact absurd c_13 (by decide)
                · skip
                  exact absurd c_12 (by decide)
        · skip
          exact absurd c_4 (nm2 (by omega))
      · skip
        exact absurd c_3 (nm1 (by omega))
    · skip
      exact absurd (by decide) c_2
set_option maxHeartbeats 4000000 in
set_option maxRecDepth 100000 in
theorem c_M_readInterruptK (l : Launch) (D : va_G) (y ms mw mu mc mn mr mq md bi ne li sp q sz wa : Nat) (th en la at0 lk : Int32) (v0 : Int32) (hbad : ¬ (v0 = 0 ∨ v0 = 1)) : Met l y_M_readInterrupt (WSY y_M_readInterrupt b_M_readInterrupt 7 (some .int)) ({ frames := 3, cells := 0, slots := 0, locals := 72 }) (va_Pc [.ref y, .int v0] (fun U => va_P D CLS [(y, .inr (5, [.int th, .int (nI bi), .int (nI ne), .int (nI li), .int (nI sp), .int (nI q), .ref ms, .ref mw, .ref mu, .ref mc, .ref mn, .int en, .int (nI sz), .ref mr, .int (nI wa), .ref mq, .int la, .ref md, .int at0, .int lk]))] U.heap ∧ va_K D CLS [] U ∧ va_D (fun _ => True) [(y, .inr (5, [.int th, .int (nI bi), .int (nI ne), .int (nI li), .int (nI sp), .int (nI q), .ref ms, .ref mw, .ref mu, .ref mc, .ref mn, .int en, .int (nI sz), .ref mr, .int (nI wa), .ref mq, .int la, .ref md, .int at0, .int lk]))])) (QM (some (.int 0)) [(y, .inr (5, [.int th, .int (nI bi), .int (nI ne), .int (nI li), .int (nI sp), .int (nI q), .ref ms, .ref mw, .ref mu, .ref mc, .ref mn, .int en, .int (nI sz), .ref mr, .int (nI wa), .ref mq, .int la, .ref md, .int at0, .int lk]))] [(y, .inr (5, [.int 1, .int (nI bi), .int (nI ne), .int (nI li), .int (nI sp), .int (nI q), .ref ms, .ref mw, .ref mu, .ref mc, .ref mn, .int en, .int (nI sz), .ref mr, .int (nI wa), .ref mq, .int la, .ref md, .int at0, .int lk]))] D) 0 0 (ad [(y, .inr (5, [.int th, .int (nI bi), .int (nI ne), .int (nI li), .int (nI sp), .int (nI q), .ref ms, .ref mw, .ref mu, .ref mc, .ref mn, .int en, .int (nI sz), .ref mr, .int (nI wa), .ref mq, .int la, .ref md, .int at0, .int lk]))]) := by
  refine Met.ofW (cc := b_M_readInterrupt) (maxL := 7) (ret := (some .int)) (by decide) rfl ?_
  intro p e s m args below meth c s₁ B hml hv
  obtain ⟨rfl, hP, hK, hD0⟩ := hv
  have hx := B.exec
  have hb := B.bytes
  have hr := B.returns
  have hts := atoms_spec (ws := WSY y_M_readInterrupt b_M_readInterrupt 7 (some .int)) B.pre
  have hg : ∀ w ∈ GW, w.before _ s = true := fun w h => hts w (List.mem_cons_of_mem _ h)
  have hown : s.vm.findClass "LineGolombModel" = some m.cls := findClass_of_methodNamed B.named
  have hlocks := B.notSynchronized
  obtain ⟨A, hAe⟩ : ∃ A, A = ad [(y, .inr (5, [.int th, .int (nI bi), .int (nI ne), .int (nI li), .int (nI sp), .int (nI q), .ref ms, .ref mw, .ref mu, .ref mc, .ref mn, .int en, .int (nI sz), .ref mr, .int (nI wa), .ref mq, .int la, .ref md, .int at0, .int lk]))] := ⟨_, rfl⟩
  have hD : va_D A [(y, .inr (5, [.int th, .int (nI bi), .int (nI ne), .int (nI li), .int (nI sp), .int (nI q), .ref ms, .ref mw, .ref mu, .ref mc, .ref mn, .int en, .int (nI sz), .ref mr, .int (nI wa), .ref mq, .int la, .ref md, .int at0, .int lk]))] := by rw [hAe]; exact va_D_ad hD0
  have hS : va_S A s.heap s.heap [] := va_S.rf
  have hl := lv_entry ([.ref y, .int v0]) (n := 7) (Nat.le_of_ble_eq_true rfl)
  rw [lg_entry_eq]
  generalize (lg_sl ([.ref y, .int v0]) ++ List.replicate (7 - (lg_sl ([.ref y, .int v0])).length) Slot.unset).toArray = ls at hl ⊢
  have hl : lv_has ls 7 [(0, .ref y), (1, .int v0)] := hl
  refine lv_aload_n hx hb d_M_readInterrupt_0 rfl (lv_at hl 0 rfl) ?_
  refine lv_aload_n hx hb d_M_readInterrupt_1 rfl (lv_at hl 0 rfl) ?_
  refine lv_iload_n hx hb d_M_readInterrupt_2 rfl (lv_at hl 1 rfl) ?_
  have hPc := hP.sub (ws' := [(y, .inr (5, [.int th, .int (nI bi), .int (nI ne), .int (nI li), .int (nI sp), .int (nI q), .ref ms, .ref mw, .ref mu, .ref mc, .ref mn, .int en, .int (nI sz), .ref mr, .int (nI wa), .ref mq, .int la, .ref md, .int at0, .int lk]))]) [0] rfl
  have hKc := hK.sub (tys' := []) [] rfl
  refine pci (va_runV (As := [.int v0]) (rest := [.ref y]) ⟨hx, hb, hml, hown, hg⟩ (c_M_isKind l D y ms mw mu mc mn mr mq md bi ne li sp q sz wa th en la at0 lk v0) (cwV 1 hg (gV gw_626 gw_628 gs_18 gw_7 gw_629) rfl rfl rfl (by decide +kernel) ⟨Nat.le_of_ble_eq_true rfl, Nat.le_of_ble_eq_true rfl⟩) ⟨fun a U g mk q => by obtain ⟨q0, qP, qK⟩ := q; exact ⟨q0, qP, va_K.moved (u := U) (U := U.calling g mk a) (Vm.Alike.refl U.vm) qK⟩, va_recv hKc hPc (ci := 5) (q0 := 0) rfl rfl, fun U hU hW => ⟨rfl, by rw [hU]; exact hPc, va_K.moved hW.alike hKc⟩⟩ rfl rfl hl.1 rfl (lv_room (Nat.le_of_ble_eq_true rfl)) d_M_readInterrupt_3 (⟨Nat.le_of_ble_eq_true rfl, Nat.le_of_ble_eq_true rfl⟩)) ?_
  refine tpi (y := 0) (if_neg hbad) ?_
  refine lv_if_eq (tgt := 13) hx hb d_M_readInterrupt_6 (by decide) (fun c_1 => ?_) (fun c_1 => ?_)
  · skip
    refine lv_iconst (v := 1) hx hb d_M_readInterrupt_13 (by decide) ?_
    refine va_put (D := D) (ci := 5) (v := .int 1) (ty := .int) (C := R_M) (T := T_M) (N := 20) hx hb hg in_M ty_M tok_M nm_M hown hK hP hD hS 0 rfl rfl 0 (by decide) (hg _ gw_524) (fun _ h9 => h9) rfl (by decide +kernel) (rfl) (rfl) (Nat.le_of_ble_eq_true rfl) d_M_readInterrupt_14 (fun H locs hP hD hS => ?_)
    have hP : va_P D CLS [(y, .inr (5, [.int 1, .int (nI bi), .int (nI ne), .int (nI li), .int (nI sp), .int (nI q), .ref ms, .ref mw, .ref mu, .ref mc, .ref mn, .int en, .int (nI sz), .ref mr, .int (nI wa), .ref mq, .int la, .ref md, .int at0, .int lk]))] H := hP
    have hD : va_D A [(y, .inr (5, [.int 1, .int (nI bi), .int (nI ne), .int (nI li), .int (nI sp), .int (nI q), .ref ms, .ref mw, .ref mu, .ref mc, .ref mn, .int en, .int (nI sz), .ref mr, .int (nI wa), .ref mq, .int la, .ref md, .int at0, .int lk]))] := hD
    refine lv_aload_n hx hb d_M_readInterrupt_17 rfl (lv_at hl 0 rfl) ?_
    refine va_get (D := D) (ci := 5) (v := .int 1) (C := R_M) (T := T_M) (N := 20) hx hb hg in_M hown hK hP 0 rfl rfl 0 (by decide) (hg _ gw_524) (fun _ h9 => h9) rfl d_M_readInterrupt_18 ?_
    refine lv_if_le (tgt := 26) hx hb d_M_readInterrupt_21 (by decide) (fun c_2 => ?_) (fun c_2 => ?_)
    · skip
      exact absurd c_2 (by decide)
    · skip
      refine lv_iconst (v := 0) hx hb d_M_readInterrupt_24 (by decide) ?_
      exact W.iret (v := 0) hx hb hr (fun t ht hW => ⟨rfl, by rw [ht]; exact hP, (hAe ▸ hS).F ht⟩) (hAe ▸ hS).2.2 d_M_readInterrupt_25
  · skip
    exact absurd rfl c_1
