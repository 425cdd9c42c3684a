/-! LineGolombModel: run, interrupt, pass, unmap, state, clear -/
/-- k bits of wr from i on, behind those that wait -/
def mpq (wq : Nat → Int32) (wa : Nat) (wr : Nat → Int32) (i : Nat) : Nat → Nat → Int32
  | 0 => wq
  | k + 1 => upd (mpq wq wa wr i k) (wa + k) (wr (i + k))
set_option maxHeartbeats 4000000 in
set_option maxRecDepth 100000 in
theorem c_M_run0G (l : Launch) (D : va_G) (y ms mw mu mc mn mr mq md bi ne li sp q sz wa : Nat) (th en la at0 lk : Int32) (cB cI : ClassId) (st lw wr dr : Nat → Int32) (pl n0 m0 : Nat) (hst : st 0 = nI pl) (hpl : pl < 32) (hn : n0 ≤ 65535) (hm1 : ∀ j, j < m0 → 2 ^ wdt (rac pl j) ≤ rrc n0 pl j) (hm2 : rrc n0 pl m0 < 2 ^ wdt (rac pl m0)) (hm3 : m0 ≤ 40) (hsz : sz ≤ 6000) (hu : sz + (m0 + 1 + wdt (rac pl m0)) ≤ 6000) : Met l y_M_run (WSY y_M_run b_M_run 6 (some .int)) ({ frames := 2, cells := 0, slots := 0, locals := 50 }) (va_Pc [.ref y, .int (nI n0), .int 0] (fun U => va_P D CLS [(y, .inr (5, [.int th, .int (nI bi), .int (nI ne), .int (nI li), .int (nI sp), .int (nI q), .ref ms, .ref mw, .ref mu, .ref mc, .ref mn, .int en, .int (nI sz), .ref mr, .int (nI wa), .ref mq, .int la, .ref md, .int at0, .int lk])), (ms, .inl (cI, 2, .inl st)), (mw, .inl (cI, 2, .inl lw)), (mr, .inl (cB, 6000, .inl wr)), (md, .inl (cB, 400, .inl dr))] U.heap ∧ va_K D CLS [(cB, .byte), (cI, .int)] U ∧ va_D (fun _ => True) [(y, .inr (5, [.int th, .int (nI bi), .int (nI ne), .int (nI li), .int (nI sp), .int (nI q), .ref ms, .ref mw, .ref mu, .ref mc, .ref mn, .int en, .int (nI sz), .ref mr, .int (nI wa), .ref mq, .int la, .ref md, .int at0, .int lk])), (ms, .inl (cI, 2, .inl st)), (mw, .inl (cI, 2, .inl lw)), (mr, .inl (cB, 6000, .inl wr)), (md, .inl (cB, 400, .inl dr))])) (QM (some (.int (nI (0 + m0 + 1 + wdt (rac pl m0))))) [(y, .inr (5, [.int th, .int (nI bi), .int (nI ne), .int (nI li), .int (nI sp), .int (nI q), .ref ms, .ref mw, .ref mu, .ref mc, .ref mn, .int en, .int (nI sz), .ref mr, .int (nI wa), .ref mq, .int la, .ref md, .int at0, .int lk])), (ms, .inl (cI, 2, .inl st)), (mw, .inl (cI, 2, .inl lw)), (mr, .inl (cB, 6000, .inl wr)), (md, .inl (cB, 400, .inl dr))] [(y, .inr (5, [.int 0, .int (nI bi), .int (nI ne), .int (nI li), .int (nI sp), .int (nI q), .ref ms, .ref mw, .ref mu, .ref mc, .ref mn, .int en, .int (nI (sz + (0 + m0 + 1 + wdt (rac pl m0)))), .ref mr, .int (nI wa), .ref mq, .int (nI (0 + m0 + 1 + wdt (rac pl m0))), .ref md, .int at0, .int lk])), (ms, .inl (cI, 2, .inl (upd st 0 (nI (rac pl m0 - 1))))), (mw, .inl (cI, 2, .inl (upd lw 0 (nI (wdt (rac pl m0)))))), (mr, .inl (cB, 6000, .inl (cpw wr sz (flw (fil (fil dr 1 0 m0) 0 (0 + m0) 1) (nI (rrc n0 pl m0)) (wdt (rac pl m0)) (0 + m0 + 1) (wdt (rac pl m0))) (0 + m0 + 1 + wdt (rac pl m0))))), (md, .inl (cB, 400, .inl (flw (fil (fil dr 1 0 m0) 0 (0 + m0) 1) (nI (rrc n0 pl m0)) (wdt (rac pl m0)) (0 + m0 + 1) (wdt (rac pl m0)))))] D) 0 0 (ad [(y, .inr (5, [.int th, .int (nI bi), .int (nI ne), .int (nI li), .int (nI sp), .int (nI q), .ref ms, .ref mw, .ref mu, .ref mc, .ref mn, .int en, .int (nI sz), .ref mr, .int (nI wa), .ref mq, .int la, .ref md, .int at0, .int lk])), (ms, .inl (cI, 2, .inl st)), (mw, .inl (cI, 2, .inl lw)), (mr, .inl (cB, 6000, .inl wr)), (md, .inl (cB, 400, .inl dr))]) := by
  refine Met.ofW (cc := b_M_run) (maxL := 6) (ret := (some .int)) (by decide) rfl ?_
  intro p e s m args below meth c s₁ B hml hv
  obtain ⟨rfl, hP, hK, hD0⟩ := hv
  have hx := B.exec
  have hb := B.bytes
  have hr := B.returns
  have hts := atoms_spec (ws := WSY y_M_run b_M_run 6 (some .int)) B.pre
  have hg : ∀ w ∈ GW, w.before _ s = true := fun w h => hts w (List.mem_cons_of_mem _ h)
  have hown : s.vm.findClass "LineGolombModel" = some m.cls := findClass_of_methodNamed B.named
  have hlocks := B.notSynchronized
  obtain ⟨A, hAe⟩ : ∃ A, A = ad [(y, .inr (5, [.int th, .int (nI bi), .int (nI ne), .int (nI li), .int (nI sp), .int (nI q), .ref ms, .ref mw, .ref mu, .ref mc, .ref mn, .int en, .int (nI sz), .ref mr, .int (nI wa), .ref mq, .int la, .ref md, .int at0, .int lk])), (ms, .inl (cI, 2, .inl st)), (mw, .inl (cI, 2, .inl lw)), (mr, .inl (cB, 6000, .inl wr)), (md, .inl (cB, 400, .inl dr))] := ⟨_, rfl⟩
  have hD : va_D A [(y, .inr (5, [.int th, .int (nI bi), .int (nI ne), .int (nI li), .int (nI sp), .int (nI q), .ref ms, .ref mw, .ref mu, .ref mc, .ref mn, .int en, .int (nI sz), .ref mr, .int (nI wa), .ref mq, .int la, .ref md, .int at0, .int lk])), (ms, .inl (cI, 2, .inl st)), (mw, .inl (cI, 2, .inl lw)), (mr, .inl (cB, 6000, .inl wr)), (md, .inl (cB, 400, .inl dr))] := by rw [hAe]; exact va_D_ad hD0
  have hS : va_S A s.heap s.heap [] := va_S.rf
  have hl := lv_entry ([.ref y, .int (nI n0), .int 0]) (n := 6) (Nat.le_of_ble_eq_true rfl)
  rw [lg_entry_eq]
  generalize (lg_sl ([.ref y, .int (nI n0), .int 0]) ++ List.replicate (6 - (lg_sl ([.ref y, .int (nI n0), .int 0])).length) Slot.unset).toArray = ls at hl ⊢
  have hl : lv_has ls 6 [(0, .ref y), (1, .int (nI n0)), (2, .int 0)] := hl
  have hwd := wdt_le (rac pl m0) (rac_lt hpl m0)
  have hrl := rrc_le n0 pl m0
  refine lv_aload_n hx hb d_M_run_0 rfl (lv_at hl 0 rfl) ?_
  refine lv_iload_n hx hb d_M_run_1 rfl (lv_at hl 1 rfl) ?_
  refine lv_if_lt (tgt := 11) hx hb d_M_run_2 (by decide) (fun c_1 => ?_) (fun c_1 => ?_)
  · skip
    exact absurd c_1 (nI_pos (by omega))
  · skip
    refine lv_iload_n hx hb d_M_run_5 rfl (lv_at hl 1 rfl) ?_
    refine lv_ldc (v := 65535) hx hb hown (hg _ gw_618) d_M_run_6 ?_
    refine lv_icmp_le (tgt := 15) hx hb d_M_run_8 (by decide) (fun c_2 => ?_) (fun c_2 => ?_)
    · skip
      refine lv_iconst (v := 0) hx hb d_M_run_15 (by decide) ?_
      refine va_put (D := D) (ci := 5) (v := .int 0) (ty := .int) (C := R_M) (T := T_M) (N := 20) hx hb hg in_M ty_M tok_M nm_M hown hK hP hD hS 0 rfl rfl 0 (by decide) (hg _ gw_524) (fun _ h9 => h9) rfl (by decide +kernel) (rfl) (rfl) (Nat.le_of_ble_eq_true rfl) d_M_run_16 (fun H locs hP hD hS => ?_)
      have hP : va_P D CLS [(y, .inr (5, [.int 0, .int (nI bi), .int (nI ne), .int (nI li), .int (nI sp), .int (nI q), .ref ms, .ref mw, .ref mu, .ref mc, .ref mn, .int en, .int (nI sz), .ref mr, .int (nI wa), .ref mq, .int la, .ref md, .int at0, .int lk])), (ms, .inl (cI, 2, .inl st)), (mw, .inl (cI, 2, .inl lw)), (mr, .inl (cB, 6000, .inl wr)), (md, .inl (cB, 400, .inl dr))] H := hP
      have hD : va_D A [(y, .inr (5, [.int 0, .int (nI bi), .int (nI ne), .int (nI li), .int (nI sp), .int (nI q), .ref ms, .ref mw, .ref mu, .ref mc, .ref mn, .int en, .int (nI sz), .ref mr, .int (nI wa), .ref mq, .int la, .ref md, .int at0, .int lk])), (ms, .inl (cI, 2, .inl st)), (mw, .inl (cI, 2, .inl lw)), (mr, .inl (cB, 6000, .inl wr)), (md, .inl (cB, 400, .inl dr))] := hD
      refine lv_aload_n hx hb d_M_run_19 rfl (lv_at hl 0 rfl) ?_
      refine va_get (D := D) (ci := 5) (v := .int 0) (C := R_M) (T := T_M) (N := 20) hx hb hg in_M hown hK hP 0 rfl rfl 0 (by decide) (hg _ gw_524) (fun _ h9 => h9) rfl d_M_run_20 ?_
      refine lv_if_le (tgt := 28) hx hb d_M_run_23 (by decide) (fun c_3 => ?_) (fun c_3 => ?_)
      · skip
        refine lv_aload_n hx hb d_M_run_28 rfl (lv_at hl 0 rfl) ?_
        refine lv_iconst (v := 0) hx hb d_M_run_29 (by decide) ?_
        refine tpi (y := nI 0) (rfl) ?_
        refine va_put (D := D) (ci := 5) (v := .int (nI 0)) (ty := .int) (C := R_M) (T := T_M) (N := 20) hx hb hg in_M ty_M tok_M nm_M hown hK hP hD hS 0 rfl rfl 16 (by decide) (hg _ gw_540) (fun _ h9 => h9) rfl (by decide +kernel) (rfl) (rfl) (Nat.le_of_ble_eq_true rfl) d_M_run_30 (fun H locs hP hD hS => ?_)
        have hP : va_P D CLS [(y, .inr (5, [.int 0, .int (nI bi), .int (nI ne), .int (nI li), .int (nI sp), .int (nI q), .ref ms, .ref mw, .ref mu, .ref mc, .ref mn, .int en, .int (nI sz), .ref mr, .int (nI wa), .ref mq, .int (nI 0), .ref md, .int at0, .int lk])), (ms, .inl (cI, 2, .inl st)), (mw, .inl (cI, 2, .inl lw)), (mr, .inl (cB, 6000, .inl wr)), (md, .inl (cB, 400, .inl dr))] H := hP
        have hD : va_D A [(y, .inr (5, [.int 0, .int (nI bi), .int (nI ne), .int (nI li), .int (nI sp), .int (nI q), .ref ms, .ref mw, .ref mu, .ref mc, .ref mn, .int en, .int (nI sz), .ref mr, .int (nI wa), .ref mq, .int (nI 0), .ref md, .int at0, .int lk])), (ms, .inl (cI, 2, .inl st)), (mw, .inl (cI, 2, .inl lw)), (mr, .inl (cB, 6000, .inl wr)), (md, .inl (cB, 400, .inl dr))] := hD
        refine lv_iload_n hx hb d_M_run_33 rfl (lv_at hl 1 rfl) ?_
        refine lv_istore_n (lv' := [(3, .int (nI n0)), (0, .ref y), (1, .int (nI n0)), (2, .int 0)]) hx hb d_M_run_34 rfl hl (by decide) rfl (fun ls hl => ?_)
        refine lv_aload_n hx hb d_M_run_35 rfl (lv_at hl 1 rfl) ?_
        refine va_get (D := D) (ci := 5) (v := .ref ms) (C := R_M) (T := T_M) (N := 20) hx hb hg in_M hown hK hP 0 rfl rfl 6 (by decide) (hg _ gw_530) (fun _ h9 => h9) rfl d_M_run_36 ?_
        refine lv_iconst (v := 0) hx hb d_M_run_39 (by decide) ?_
        refine va_iald hx hb hK hP 1 1 rfl rfl (vp_in_nI (n := 0) (by decide) (by decide)) d_M_run_40 ?_
        refine tpi (y := nI pl) (hst) ?_
        refine lv_istore (lv' := [(4, .int (nI pl)), (3, .int (nI n0)), (0, .ref y), (1, .int (nI n0)), (2, .int 0)]) hx hb d_M_run_41 hl (by decide) rfl (fun ls hl => ?_)
        have tail : ∀ (H : Heap) (locs : List Loc), va_P D CLS [(y, .inr (5, [.int 0, .int (nI bi), .int (nI ne), .int (nI li), .int (nI sp), .int (nI q), .ref ms, .ref mw, .ref mu, .ref mc, .ref mn, .int en, .int (nI sz), .ref mr, .int (nI wa), .ref mq, .int (nI (0 + m0)), .ref md, .int at0, .int lk])), (ms, .inl (cI, 2, .inl st)), (mw, .inl (cI, 2, .inl lw)), (mr, .inl (cB, 6000, .inl wr)), (md, .inl (cB, 400, .inl (fil dr 1 0 m0)))] H → va_D A [(y, .inr (5, [.int 0, .int (nI bi), .int (nI ne), .int (nI li), .int (nI sp), .int (nI q), .ref ms, .ref mw, .ref mu, .ref mc, .ref mn, .int en, .int (nI sz), .ref mr, .int (nI wa), .ref mq, .int (nI (0 + m0)), .ref md, .int at0, .int lk])), (ms, .inl (cI, 2, .inl st)), (mw, .inl (cI, 2, .inl lw)), (mr, .inl (cB, 6000, .inl wr)), (md, .inl (cB, 400, .inl (fil dr 1 0 m0)))] → va_S A s.heap H locs → ∀ (ls : Array Slot), lv_has ls 6 [(4, .int (nI (rac pl m0))), (3, .int (nI (rrc n0 pl m0))), (0, .ref y), (1, .int (nI n0)), (2, .int 0)] → W p l e (headSpec (WSY y_M_run b_M_run 6 (some .int)) ({ frames := 2, cells := 0, slots := 0, locals := 50 })).room s m ([.ref y, .int (nI n0), .int 0] : List Value).toArray below meth c H locs 0 0 (MQ below (QM (some (.int (nI (0 + m0 + 1 + wdt (rac pl m0))))) [(y, .inr (5, [.int th, .int (nI bi), .int (nI ne), .int (nI li), .int (nI sp), .int (nI q), .ref ms, .ref mw, .ref mu, .ref mc, .ref mn, .int en, .int (nI sz), .ref mr, .int (nI wa), .ref mq, .int la, .ref md, .int at0, .int lk])), (ms, .inl (cI, 2, .inl st)), (mw, .inl (cI, 2, .inl lw)), (mr, .inl (cB, 6000, .inl wr)), (md, .inl (cB, 400, .inl dr))] [(y, .inr (5, [.int 0, .int (nI bi), .int (nI ne), .int (nI li), .int (nI sp), .int (nI q), .ref ms, .ref mw, .ref mu, .ref mc, .ref mn, .int en, .int (nI (sz + (0 + m0 + 1 + wdt (rac pl m0)))), .ref mr, .int (nI wa), .ref mq, .int (nI (0 + m0 + 1 + wdt (rac pl m0))), .ref md, .int at0, .int lk])), (ms, .inl (cI, 2, .inl (upd st 0 (nI (rac pl m0 - 1))))), (mw, .inl (cI, 2, .inl (upd lw 0 (nI (wdt (rac pl m0)))))), (mr, .inl (cB, 6000, .inl (cpw wr sz (flw (fil (fil dr 1 0 m0) 0 (0 + m0) 1) (nI (rrc n0 pl m0)) (wdt (rac pl m0)) (0 + m0 + 1) (wdt (rac pl m0))) (0 + m0 + 1 + wdt (rac pl m0))))), (md, .inl (cB, 400, .inl (flw (fil (fil dr 1 0 m0) 0 (0 + m0) 1) (nI (rrc n0 pl m0)) (wdt (rac pl m0)) (0 + m0 + 1) (wdt (rac pl m0)))))] D) ([.ref y, .int (nI n0), .int 0] : List Value).toArray s 0 0 (ad [(y, .inr (5, [.int th, .int (nI bi), .int (nI ne), .int (nI li), .int (nI sp), .int (nI q), .ref ms, .ref mw, .ref mu, .ref mc, .ref mn, .int en, .int (nI sz), .ref mr, .int (nI wa), .ref mq, .int la, .ref md, .int at0, .int lk])), (ms, .inl (cI, 2, .inl st)), (mw, .inl (cI, 2, .inl lw)), (mr, .inl (cB, 6000, .inl wr)), (md, .inl (cB, 400, .inl dr))])) (F0 m 92 ls []) := by
          intro H locs hP hD hS ls hl
          refine lv_iload hx hb d_M_run_92 (lv_at hl 0 rfl) ?_
          have hPc := hP.sub (ws' := []) [] rfl
          have hKc := hK.sub (tys' := []) [] rfl
          refine pci (va_runS (As := [.int (nI (rac pl m0))]) (rest := []) ⟨hx, hb, hml, hown, hg⟩ (c_M_widthOf l D (rac pl m0) (rac_lt hpl m0)) (va_cwS 1 hg (gS gw_619 gw_620 gw_7 gw_621) rfl rfl rfl (by decide +kernel) ⟨Nat.le_of_ble_eq_true rfl, Nat.le_of_ble_eq_true rfl⟩) ⟨fun a U g mk q => by obtain ⟨q0, qP, qK⟩ := q; exact ⟨q0, qP, va_K.moved (u := U) (U := U.calling g mk a) (Vm.Alike.refl U.vm) qK⟩, fun U hU hW => ⟨rfl, by rw [hU]; exact hPc, va_K.moved hW.alike hKc⟩⟩ rfl rfl hl.1 rfl (lv_room (Nat.le_of_ble_eq_true rfl)) d_M_run_94 (⟨Nat.le_of_ble_eq_true rfl, Nat.le_of_ble_eq_true rfl⟩)) ?_
          refine lv_istore (lv' := [(5, .int (nI (wdt (rac pl m0)))), (4, .int (nI (rac pl m0))), (3, .int (nI (rrc n0 pl m0))), (0, .ref y), (1, .int (nI n0)), (2, .int 0)]) hx hb d_M_run_97 hl (by decide) rfl (fun ls hl => ?_)
          refine lv_iload_n hx hb d_M_run_99 rfl (lv_at hl 5 rfl) ?_
          refine lv_if_eq (tgt := 115) hx hb d_M_run_100 (by decide) (fun c_4 => ?_) (fun c_4 => ?_)
          · skip
            refine lv_aload_n hx hb d_M_run_115 rfl (lv_at hl 3 rfl) ?_
            refine lv_iconst (v := 0) hx hb d_M_run_116 (by decide) ?_
            have hPc := hP.sub (ws' := [(y, .inr (5, [.int 0, .int (nI bi), .int (nI ne), .int (nI li), .int (nI sp), .int (nI q), .ref ms, .ref mw, .ref mu, .ref mc, .ref mn, .int en, .int (nI sz), .ref mr, .int (nI wa), .ref mq, .int (nI (0 + m0)), .ref md, .int at0, .int lk])), (md, .inl (cB, 400, .inl (fil dr 1 0 m0)))]) [0, 4] rfl
            have hDc := hD.sub (ws' := [(y, .inr (5, [.int 0, .int (nI bi), .int (nI ne), .int (nI li), .int (nI sp), .int (nI q), .ref ms, .ref mw, .ref mu, .ref mc, .ref mn, .int en, .int (nI sz), .ref mr, .int (nI wa), .ref mq, .int (nI (0 + m0)), .ref md, .int at0, .int lk])), (md, .inl (cB, 400, .inl (fil dr 1 0 m0)))]) [0, 4] (by decide) rfl
            have hKc := hK.sub (tys' := [(cB, .byte)]) [0] rfl
            refine mcv (va_runV (As := [.int 0]) (rest := []) ⟨hx, hb, hml, hown, hg⟩ (c_M_lay l D y ms mw mu mc mn mr mq md bi ne li sp q sz wa 0 en la at0 lk cB (fil dr 1 0 m0) (0 + m0) 0 (Or.inl rfl) (by omega)) (cwV 1 hg (gV gw_598 gw_600 gs_14 gw_7 gw_601) rfl rfl rfl (by decide +kernel) ⟨Nat.le_of_ble_eq_true rfl, Nat.le_of_ble_eq_true rfl⟩) ⟨fun a U g mk q => by obtain ⟨q0, qP, qK, qD⟩ := q; exact ⟨q0, qP, va_K.moved (u := U) (U := U.calling g mk a) (Vm.Alike.refl U.vm) qK, qD⟩, va_recv hKc hPc (ci := 5) (q0 := 0) rfl rfl, fun U hU hW => ⟨rfl, by rw [hU]; exact hPc, va_K.moved hW.alike hKc, hDc.weaken (fun _ _ _ _ => trivial)⟩⟩ rfl rfl hl.1 rfl (lv_room (Nat.le_of_ble_eq_true rfl)) d_M_run_117 (⟨Nat.le_of_ble_eq_true rfl, Nat.le_of_ble_eq_true rfl⟩)) hS hP hD [0, 4] rfl rfl rfl (fun H locs hP hD hS => ?_)
            have hP : va_P D CLS [(y, .inr (5, [.int 0, .int (nI bi), .int (nI ne), .int (nI li), .int (nI sp), .int (nI q), .ref ms, .ref mw, .ref mu, .ref mc, .ref mn, .int en, .int (nI sz), .ref mr, .int (nI wa), .ref mq, .int (nI (0 + m0 + 1)), .ref md, .int at0, .int lk])), (ms, .inl (cI, 2, .inl st)), (mw, .inl (cI, 2, .inl lw)), (mr, .inl (cB, 6000, .inl wr)), (md, .inl (cB, 400, .inl (fil (fil dr 1 0 m0) 0 (0 + m0) 1)))] H := hP
            have hD : va_D A [(y, .inr (5, [.int 0, .int (nI bi), .int (nI ne), .int (nI li), .int (nI sp), .int (nI q), .ref ms, .ref mw, .ref mu, .ref mc, .ref mn, .int en, .int (nI sz), .ref mr, .int (nI wa), .ref mq, .int (nI (0 + m0 + 1)), .ref md, .int at0, .int lk])), (ms, .inl (cI, 2, .inl st)), (mw, .inl (cI, 2, .inl lw)), (mr, .inl (cB, 6000, .inl wr)), (md, .inl (cB, 400, .inl (fil (fil dr 1 0 m0) 0 (0 + m0) 1)))] := hD
            refine lv_aload_n hx hb d_M_run_120 rfl (lv_at hl 3 rfl) ?_
            refine lv_iload_n hx hb d_M_run_121 rfl (lv_at hl 2 rfl) ?_
            refine lv_iload hx hb d_M_run_122 (lv_at hl 0 rfl) ?_
            have hPc := hP.sub (ws' := [(y, .inr (5, [.int 0, .int (nI bi), .int (nI ne), .int (nI li), .int (nI sp), .int (nI q), .ref ms, .ref mw, .ref mu, .ref mc, .ref mn, .int en, .int (nI sz), .ref mr, .int (nI wa), .ref mq, .int (nI (0 + m0 + 1)), .ref md, .int at0, .int lk])), (md, .inl (cB, 400, .inl (fil (fil dr 1 0 m0) 0 (0 + m0) 1)))]) [0, 4] rfl
            have hDc := hD.sub (ws' := [(y, .inr (5, [.int 0, .int (nI bi), .int (nI ne), .int (nI li), .int (nI sp), .int (nI q), .ref ms, .ref mw, .ref mu, .ref mc, .ref mn, .int en, .int (nI sz), .ref mr, .int (nI wa), .ref mq, .int (nI (0 + m0 + 1)), .ref md, .int at0, .int lk])), (md, .inl (cB, 400, .inl (fil (fil dr 1 0 m0) 0 (0 + m0) 1)))]) [0, 4] (by decide) rfl
            have hKc := hK.sub (tys' := [(cB, .byte)]) [0] rfl
            refine mcv (va_runV (As := [.int (nI (rrc n0 pl m0)), .int (nI (wdt (rac pl m0)))]) (rest := []) ⟨hx, hb, hml, hown, hg⟩ (c_M_layLow l D y ms mw mu mc mn mr mq md bi ne li sp q sz wa 0 en la at0 lk cB (fil (fil dr 1 0 m0) 0 (0 + m0) 1) (0 + m0 + 1) (nI (rrc n0 pl m0)) (wdt (rac pl m0)) (by omega) (by omega)) (cwV 2 hg (gV gw_602 gw_604 gs_15 gw_7 gw_605) rfl rfl rfl (by decide +kernel) ⟨Nat.le_of_ble_eq_true rfl, Nat.le_of_ble_eq_true rfl⟩) ⟨fun a U g mk q => by obtain ⟨q0, qP, qK, qD⟩ := q; exact ⟨q0, qP, va_K.moved (u := U) (U := U.calling g mk a) (Vm.Alike.refl U.vm) qK, qD⟩, va_recv hKc hPc (ci := 5) (q0 := 0) rfl rfl, fun U hU hW => ⟨rfl, by rw [hU]; exact hPc, va_K.moved hW.alike hKc, hDc.weaken (fun _ _ _ _ => trivial)⟩⟩ rfl rfl hl.1 rfl (lv_room (Nat.le_of_ble_eq_true rfl)) d_M_run_124 (⟨Nat.le_of_ble_eq_true rfl, Nat.le_of_ble_eq_true rfl⟩)) hS hP hD [0, 4] rfl rfl rfl (fun H locs hP hD hS => ?_)
            have hP : va_P D CLS [(y, .inr (5, [.int 0, .int (nI bi), .int (nI ne), .int (nI li), .int (nI sp), .int (nI q), .ref ms, .ref mw, .ref mu, .ref mc, .ref mn, .int en, .int (nI sz), .ref mr, .int (nI wa), .ref mq, .int (nI (0 + m0 + 1 + wdt (rac pl m0))), .ref md, .int at0, .int lk])), (ms, .inl (cI, 2, .inl st)), (mw, .inl (cI, 2, .inl lw)), (mr, .inl (cB, 6000, .inl wr)), (md, .inl (cB, 400, .inl (flw (fil (fil dr 1 0 m0) 0 (0 + m0) 1) (nI (rrc n0 pl m0)) (wdt (rac pl m0)) (0 + m0 + 1) (wdt (rac pl m0)))))] H := hP
            have hD : va_D A [(y, .inr (5, [.int 0, .int (nI bi), .int (nI ne), .int (nI li), .int (nI sp), .int (nI q), .ref ms, .ref mw, .ref mu, .ref mc, .ref mn, .int en, .int (nI sz), .ref mr, .int (nI wa), .ref mq, .int (nI (0 + m0 + 1 + wdt (rac pl m0))), .ref md, .int at0, .int lk])), (ms, .inl (cI, 2, .inl st)), (mw, .inl (cI, 2, .inl lw)), (mr, .inl (cB, 6000, .inl wr)), (md, .inl (cB, 400, .inl (flw (fil (fil dr 1 0 m0) 0 (0 + m0) 1) (nI (rrc n0 pl m0)) (wdt (rac pl m0)) (0 + m0 + 1) (wdt (rac pl m0)))))] := hD
            refine lv_iload hx hb d_M_run_127 (lv_at hl 1 rfl) ?_
            refine lv_if_le (tgt := 139) hx hb d_M_run_129 (by decide) (fun c_5 => ?_) (fun c_5 => ?_)
            · skip
              have hr0 : rac pl m0 = 0 := Nat.eq_zero_of_not_pos (fun q9 => nI_nle q9 (by have := rac_lt hpl m0; omega) c_5)
              refine lv_iload hx hb d_M_run_139 (lv_at hl 1 rfl) ?_
              refine tpi (y := nI (rac pl m0 - 1)) (by rw [hr0]) ?_
              refine lv_istore (lv' := [(4, .int (nI (rac pl m0 - 1))), (5, .int (nI (wdt (rac pl m0)))), (3, .int (nI (rrc n0 pl m0))), (0, .ref y), (1, .int (nI n0)), (2, .int 0)]) hx hb d_M_run_141 hl (by decide) rfl (fun ls hl => ?_)
              refine lv_aload_n hx hb d_M_run_143 rfl (lv_at hl 3 rfl) ?_
              refine lv_aload_n hx hb d_M_run_144 rfl (lv_at hl 3 rfl) ?_
              have hPc := hP.sub (ws' := [(y, .inr (5, [.int 0, .int (nI bi), .int (nI ne), .int (nI li), .int (nI sp), .int (nI q), .ref ms, .ref mw, .ref mu, .ref mc, .ref mn, .int en, .int (nI sz), .ref mr, .int (nI wa), .ref mq, .int (nI (0 + m0 + 1 + wdt (rac pl m0))), .ref md, .int at0, .int lk]))]) [0] rfl
              have hKc := hK.sub (tys' := []) [] rfl
              refine pci (va_runV (As := []) (rest := [.ref y]) ⟨hx, hb, hml, hown, hg⟩ (c_M_hasRoom l D y ms mw mu mc mn mr mq md bi ne li sp q sz wa 0 en (nI (0 + m0 + 1 + wdt (rac pl m0))) at0 lk (0 + m0 + 1 + wdt (rac pl m0)) hsz (by omega)) (cwV 0 hg (gV gw_606 gw_608 gs_16 gw_7 gw_609) rfl rfl rfl (by decide +kernel) ⟨Nat.le_of_ble_eq_true rfl, Nat.le_of_ble_eq_true rfl⟩) ⟨fun a U g mk q => by obtain ⟨q0, qP, qK⟩ := q; exact ⟨q0, qP, va_K.moved (u := U) (U := U.calling g mk a) (Vm.Alike.refl U.vm) qK⟩, va_recv hKc hPc (ci := 5) (q0 := 0) rfl rfl, fun U hU hW => ⟨rfl, by rw [hU]; exact hPc, va_K.moved hW.alike hKc⟩⟩ rfl rfl hl.1 rfl (lv_room (Nat.le_of_ble_eq_true rfl)) d_M_run_145 (⟨Nat.le_of_ble_eq_true rfl, Nat.le_of_ble_eq_true rfl⟩)) ?_
              refine tpi (y := 1) (if_pos (by omega)) ?_
              refine lv_if_eq (tgt := 155) hx hb d_M_run_148 (by decide) (fun c_6 => ?_) (fun c_6 => ?_)
              · skip
                exact absurd c_6 (by decide)
              · skip
                refine lv_iconst (v := 0) hx hb d_M_run_151 (by decide) ?_
                refine lv_goto (tgt := 156) hx hb d_M_run_152 (by decide) ?_
                refine va_put (D := D) (ci := 5) (v := .int 0) (ty := .int) (C := R_M) (T := T_M) (N := 20) hx hb hg in_M ty_M tok_M nm_M hown hK hP hD hS 0 rfl rfl 0 (by decide) (hg _ gw_524) (fun _ h9 => h9) rfl (by decide +kernel) (rfl) (rfl) (Nat.le_of_ble_eq_true rfl) d_M_run_156 (fun H locs hP hD hS => ?_)
                have hP : va_P D CLS [(y, .inr (5, [.int 0, .int (nI bi), .int (nI ne), .int (nI li), .int (nI sp), .int (nI q), .ref ms, .ref mw, .ref mu, .ref mc, .ref mn, .int en, .int (nI sz), .ref mr, .int (nI wa), .ref mq, .int (nI (0 + m0 + 1 + wdt (rac pl m0))), .ref md, .int at0, .int lk])), (ms, .inl (cI, 2, .inl st)), (mw, .inl (cI, 2, .inl lw)), (mr, .inl (cB, 6000, .inl wr)), (md, .inl (cB, 400, .inl (flw (fil (fil dr 1 0 m0) 0 (0 + m0) 1) (nI (rrc n0 pl m0)) (wdt (rac pl m0)) (0 + m0 + 1) (wdt (rac pl m0)))))] H := hP
                have hD : va_D A [(y, .inr (5, [.int 0, .int (nI bi), .int (nI ne), .int (nI li), .int (nI sp), .int (nI q), .ref ms, .ref mw, .ref mu, .ref mc, .ref mn, .int en, .int (nI sz), .ref mr, .int (nI wa), .ref mq, .int (nI (0 + m0 + 1 + wdt (rac pl m0))), .ref md, .int at0, .int lk])), (ms, .inl (cI, 2, .inl st)), (mw, .inl (cI, 2, .inl lw)), (mr, .inl (cB, 6000, .inl wr)), (md, .inl (cB, 400, .inl (flw (fil (fil dr 1 0 m0) 0 (0 + m0) 1) (nI (rrc n0 pl m0)) (wdt (rac pl m0)) (0 + m0 + 1) (wdt (rac pl m0)))))] := hD
                refine lv_aload_n hx hb d_M_run_159 rfl (lv_at hl 3 rfl) ?_
                refine va_get (D := D) (ci := 5) (v := .int 0) (C := R_M) (T := T_M) (N := 20) hx hb hg in_M hown hK hP 0 rfl rfl 0 (by decide) (hg _ gw_524) (fun _ h9 => h9) rfl d_M_run_160 ?_
                refine lv_if_le (tgt := 168) hx hb d_M_run_163 (by decide) (fun c_7 => ?_) (fun c_7 => ?_)
                · skip
                  refine lv_aload_n hx hb d_M_run_168 rfl (lv_at hl 3 rfl) ?_
                  refine va_get (D := D) (ci := 5) (v := .ref ms) (C := R_M) (T := T_M) (N := 20) hx hb hg in_M hown hK hP 0 rfl rfl 6 (by decide) (hg _ gw_530) (fun _ h9 => h9) rfl d_M_run_169 ?_
                  refine lv_iconst (v := 0) hx hb d_M_run_172 (by decide) ?_
                  refine lv_iload hx hb d_M_run_173 (lv_at hl 0 rfl) ?_
                  refine va_iast hx hb hK hP hD hS 1 1 rfl rfl (vp_in_nI (n := 0) (by decide) (by decide)) d_M_run_175 (fun H locs hP hD hS => ?_)
                  rw [show (0 : Int32).toNatClampNeg = 0 from rfl] at hP hD
                  have hP : va_P D CLS [(y, .inr (5, [.int 0, .int (nI bi), .int (nI ne), .int (nI li), .int (nI sp), .int (nI q), .ref ms, .ref mw, .ref mu, .ref mc, .ref mn, .int en, .int (nI sz), .ref mr, .int (nI wa), .ref mq, .int (nI (0 + m0 + 1 + wdt (rac pl m0))), .ref md, .int at0, .int lk])), (ms, .inl (cI, 2, .inl (upd st 0 (nI (rac pl m0 - 1))))), (mw, .inl (cI, 2, .inl lw)), (mr, .inl (cB, 6000, .inl wr)), (md, .inl (cB, 400, .inl (flw (fil (fil dr 1 0 m0) 0 (0 + m0) 1) (nI (rrc n0 pl m0)) (wdt (rac pl m0)) (0 + m0 + 1) (wdt (rac pl m0)))))] H := hP
                  have hD : va_D A [(y, .inr (5, [.int 0, .int (nI bi), .int (nI ne), .int (nI li), .int (nI sp), .int (nI q), .ref ms, .ref mw, .ref mu, .ref mc, .ref mn, .int en, .int (nI sz), .ref mr, .int (nI wa), .ref mq, .int (nI (0 + m0 + 1 + wdt (rac pl m0))), .ref md, .int at0, .int lk])), (ms, .inl (cI, 2, .inl (upd st 0 (nI (rac pl m0 - 1))))), (mw, .inl (cI, 2, .inl lw)), (mr, .inl (cB, 6000, .inl wr)), (md, .inl (cB, 400, .inl (flw (fil (fil dr 1 0 m0) 0 (0 + m0) 1) (nI (rrc n0 pl m0)) (wdt (rac pl m0)) (0 + m0 + 1) (wdt (rac pl m0)))))] := hD
                  refine lv_aload_n hx hb d_M_run_176 rfl (lv_at hl 3 rfl) ?_
                  refine va_get (D := D) (ci := 5) (v := .ref mw) (C := R_M) (T := T_M) (N := 20) hx hb hg in_M hown hK hP 0 rfl rfl 7 (by decide) (hg _ gw_531) (fun _ h9 => h9) rfl d_M_run_177 ?_
                  refine lv_iconst (v := 0) hx hb d_M_run_180 (by decide) ?_
                  refine lv_iload hx hb d_M_run_181 (lv_at hl 1 rfl) ?_
                  refine va_iast hx hb hK hP hD hS 2 1 rfl rfl (vp_in_nI (n := 0) (by decide) (by decide)) d_M_run_183 (fun H locs hP hD hS => ?_)
                  rw [show (0 : Int32).toNatClampNeg = 0 from rfl] at hP hD
                  have hP : va_P D CLS [(y, .inr (5, [.int 0, .int (nI bi), .int (nI ne), .int (nI li), .int (nI sp), .int (nI q), .ref ms, .ref mw, .ref mu, .ref mc, .ref mn, .int en, .int (nI sz), .ref mr, .int (nI wa), .ref mq, .int (nI (0 + m0 + 1 + wdt (rac pl m0))), .ref md, .int at0, .int lk])), (ms, .inl (cI, 2, .inl (upd st 0 (nI (rac pl m0 - 1))))), (mw, .inl (cI, 2, .inl (upd lw 0 (nI (wdt (rac pl m0)))))), (mr, .inl (cB, 6000, .inl wr)), (md, .inl (cB, 400, .inl (flw (fil (fil dr 1 0 m0) 0 (0 + m0) 1) (nI (rrc n0 pl m0)) (wdt (rac pl m0)) (0 + m0 + 1) (wdt (rac pl m0)))))] H := hP
                  have hD : va_D A [(y, .inr (5, [.int 0, .int (nI bi), .int (nI ne), .int (nI li), .int (nI sp), .int (nI q), .ref ms, .ref mw, .ref mu, .ref mc, .ref mn, .int en, .int (nI sz), .ref mr, .int (nI wa), .ref mq, .int (nI (0 + m0 + 1 + wdt (rac pl m0))), .ref md, .int at0, .int lk])), (ms, .inl (cI, 2, .inl (upd st 0 (nI (rac pl m0 - 1))))), (mw, .inl (cI, 2, .inl (upd lw 0 (nI (wdt (rac pl m0)))))), (mr, .inl (cB, 6000, .inl wr)), (md, .inl (cB, 400, .inl (flw (fil (fil dr 1 0 m0) 0 (0 + m0) 1) (nI (rrc n0 pl m0)) (wdt (rac pl m0)) (0 + m0 + 1) (wdt (rac pl m0)))))] := hD
                  refine lv_aload_n hx hb d_M_run_184 rfl (lv_at hl 3 rfl) ?_
                  have hPc := hP.sub (ws' := [(y, .inr (5, [.int 0, .int (nI bi), .int (nI ne), .int (nI li), .int (nI sp), .int (nI q), .ref ms, .ref mw, .ref mu, .ref mc, .ref mn, .int en, .int (nI sz), .ref mr, .int (nI wa), .ref mq, .int (nI (0 + m0 + 1 + wdt (rac pl m0))), .ref md, .int at0, .int lk])), (mr, .inl (cB, 6000, .inl wr)), (md, .inl (cB, 400, .inl (flw (fil (fil dr 1 0 m0) 0 (0 + m0) 1) (nI (rrc n0 pl m0)) (wdt (rac pl m0)) (0 + m0 + 1) (wdt (rac pl m0)))))]) [0, 3, 4] rfl
                  have hDc := hD.sub (ws' := [(y, .inr (5, [.int 0, .int (nI bi), .int (nI ne), .int (nI li), .int (nI sp), .int (nI q), .ref ms, .ref mw, .ref mu, .ref mc, .ref mn, .int en, .int (nI sz), .ref mr, .int (nI wa), .ref mq, .int (nI (0 + m0 + 1 + wdt (rac pl m0))), .ref md, .int at0, .int lk])), (mr, .inl (cB, 6000, .inl wr)), (md, .inl (cB, 400, .inl (flw (fil (fil dr 1 0 m0) 0 (0 + m0) 1) (nI (rrc n0 pl m0)) (wdt (rac pl m0)) (0 + m0 + 1) (wdt (rac pl m0)))))]) [0, 3, 4] (by decide) rfl
                  have hKc := hK.sub (tys' := [(cB, .byte)]) [0] rfl
                  refine mci (va_runV (As := []) (rest := []) ⟨hx, hb, hml, hown, hg⟩ (c_M_write l D y ms mw mu mc mn mr mq md bi ne li sp q sz wa 0 en (nI (0 + m0 + 1 + wdt (rac pl m0))) at0 lk cB wr (flw (fil (fil dr 1 0 m0) 0 (0 + m0) 1) (nI (rrc n0 pl m0)) (wdt (rac pl m0)) (0 + m0 + 1) (wdt (rac pl m0))) (0 + m0 + 1 + wdt (rac pl m0)) (by omega) (by omega) (fun j hj => (by obtain ⟨a1, a2⟩ := flw01 (f := fil (fil dr 1 0 m0) 0 (0 + m0) 1) (v := nI (rrc n0 pl m0)) (w := (wdt (rac pl m0))) (u := 0 + m0 + 1) (wdt (rac pl m0)); obtain ⟨b1, b2⟩ := fil01 (f := fil dr 1 0 m0) (b := 0) (u := 0 + m0) (Or.inl rfl) 1; obtain ⟨c1, c2⟩ := fil01 (f := dr) (b := 1) (u := 0) (Or.inr rfl) m0; by_cases h1 : 0 + m0 + 1 ≤ j; exact a1 j h1 (by omega); rw [a2 j (by omega)]; by_cases h2 : 0 + m0 ≤ j; exact b1 j h2 (by omega); rw [b2 j (by omega)]; exact c1 j (Nat.zero_le _) (by omega)))) (cwV 0 hg (gV gw_610 gw_612 gs_17 gw_7 gw_613) rfl rfl rfl (by decide +kernel) ⟨Nat.le_of_ble_eq_true rfl, Nat.le_of_ble_eq_true rfl⟩) ⟨fun a U g mk q => by obtain ⟨q0, qP, qK, qD⟩ := q; exact ⟨q0, qP, va_K.moved (u := U) (U := U.calling g mk a) (Vm.Alike.refl U.vm) qK, qD⟩, va_recv hKc hPc (ci := 5) (q0 := 0) rfl rfl, fun U hU hW => ⟨rfl, by rw [hU]; exact hPc, va_K.moved hW.alike hKc, hDc.weaken (fun _ _ _ _ => trivial)⟩⟩ rfl rfl hl.1 rfl (lv_room (Nat.le_of_ble_eq_true rfl)) d_M_run_185 (⟨Nat.le_of_ble_eq_true rfl, Nat.le_of_ble_eq_true rfl⟩)) hS hP hD [0, 3, 4] rfl rfl rfl (fun H locs hP hD hS => ?_)
                  have hP : va_P D CLS [(y, .inr (5, [.int 0, .int (nI bi), .int (nI ne), .int (nI li), .int (nI sp), .int (nI q), .ref ms, .ref mw, .ref mu, .ref mc, .ref mn, .int en, .int (nI (sz + (0 + m0 + 1 + wdt (rac pl m0)))), .ref mr, .int (nI wa), .ref mq, .int (nI (0 + m0 + 1 + wdt (rac pl m0))), .ref md, .int at0, .int lk])), (ms, .inl (cI, 2, .inl (upd st 0 (nI (rac pl m0 - 1))))), (mw, .inl (cI, 2, .inl (upd lw 0 (nI (wdt (rac pl m0)))))), (mr, .inl (cB, 6000, .inl (cpw wr sz (flw (fil (fil dr 1 0 m0) 0 (0 + m0) 1) (nI (rrc n0 pl m0)) (wdt (rac pl m0)) (0 + m0 + 1) (wdt (rac pl m0))) (0 + m0 + 1 + wdt (rac pl m0))))), (md, .inl (cB, 400, .inl (flw (fil (fil dr 1 0 m0) 0 (0 + m0) 1) (nI (rrc n0 pl m0)) (wdt (rac pl m0)) (0 + m0 + 1) (wdt (rac pl m0)))))] H := hP
                  have hD : va_D A [(y, .inr (5, [.int 0, .int (nI bi), .int (nI ne), .int (nI li), .int (nI sp), .int (nI q), .ref ms, .ref mw, .ref mu, .ref mc, .ref mn, .int en, .int (nI (sz + (0 + m0 + 1 + wdt (rac pl m0)))), .ref mr, .int (nI wa), .ref mq, .int (nI (0 + m0 + 1 + wdt (rac pl m0))), .ref md, .int at0, .int lk])), (ms, .inl (cI, 2, .inl (upd st 0 (nI (rac pl m0 - 1))))), (mw, .inl (cI, 2, .inl (upd lw 0 (nI (wdt (rac pl m0)))))), (mr, .inl (cB, 6000, .inl (cpw wr sz (flw (fil (fil dr 1 0 m0) 0 (0 + m0) 1) (nI (rrc n0 pl m0)) (wdt (rac pl m0)) (0 + m0 + 1) (wdt (rac pl m0))) (0 + m0 + 1 + wdt (rac pl m0))))), (md, .inl (cB, 400, .inl (flw (fil (fil dr 1 0 m0) 0 (0 + m0) 1) (nI (rrc n0 pl m0)) (wdt (rac pl m0)) (0 + m0 + 1) (wdt (rac pl m0)))))] := hD
                  exact W.iret (v := nI (0 + m0 + 1 + wdt (rac pl m0))) hx hb hr (fun t ht hW => ⟨rfl, by rw [ht]; exact hP, (hAe ▸ hS).F ht⟩) (hAe ▸ hS).2.2 d_M_run_188
                · skip
                  exact absurd (by decide) c_7
            · skip
              have hr0 : 0 < rac pl m0 := Nat.pos_of_ne_zero (fun q9 => c_5 (by rw [q9]; decide))
              refine lv_iload hx hb d_M_run_132 (lv_at hl 1 rfl) ?_
              refine lv_iconst (v := 1) hx hb d_M_run_134 (by decide) ?_
              refine lv_isub hx hb d_M_run_135 ?_
              refine tpi (y := nI (rac pl m0 - 1)) (pk_sub (b := 1) (by omega)) ?_
              refine lv_goto (tgt := 141) hx hb d_M_run_136 (by decide) ?_
              refine lv_istore (lv' := [(4, .int (nI (rac pl m0 - 1))), (5, .int (nI (wdt (rac pl m0)))), (3, .int (nI (rrc n0 pl m0))), (0, .ref y), (1, .int (nI n0)), (2, .int 0)]) hx hb d_M_run_141 hl (by decide) rfl (fun ls hl => ?_)
              refine lv_aload_n hx hb d_M_run_143 rfl (lv_at hl 3 rfl) ?_
              refine lv_aload_n hx hb d_M_run_144 rfl (lv_at hl 3 rfl) ?_
              have hPc := hP.sub (ws' := [(y, .inr (5, [.int 0, .int (nI bi), .int (nI ne), .int (nI li), .int (nI sp), .int (nI q), .ref ms, .ref mw, .ref mu, .ref mc, .ref mn, .int en, .int (nI sz), .ref mr, .int (nI wa), .ref mq, .int (nI (0 + m0 + 1 + wdt (rac pl m0))), .ref md, .int at0, .int lk]))]) [0] rfl
              have hKc := hK.sub (tys' := []) [] rfl
              refine pci (va_runV (As := []) (rest := [.ref y]) ⟨hx, hb, hml, hown, hg⟩ (c_M_hasRoom l D y ms mw mu mc mn mr mq md bi ne li sp q sz wa 0 en (nI (0 + m0 + 1 + wdt (rac pl m0))) at0 lk (0 + m0 + 1 + wdt (rac pl m0)) hsz (by omega)) (cwV 0 hg (gV gw_606 gw_608 gs_16 gw_7 gw_609) rfl rfl rfl (by decide +kernel) ⟨Nat.le_of_ble_eq_true rfl, Nat.le_of_ble_eq_true rfl⟩) ⟨fun a U g mk q => by obtain ⟨q0, qP, qK⟩ := q; exact ⟨q0, qP, va_K.moved (u := U) (U := U.calling g mk a) (Vm.Alike.refl U.vm) qK⟩, va_recv hKc hPc (ci := 5) (q0 := 0) rfl rfl, fun U hU hW => ⟨rfl, by rw [hU]; exact hPc, va_K.moved hW.alike hKc⟩⟩ rfl rfl hl.1 rfl (lv_room (Nat.le_of_ble_eq_true rfl)) d_M_run_145 (⟨Nat.le_of_ble_eq_true rfl, Nat.le_of_ble_eq_true rfl⟩)) ?_
              refine tpi (y := 1) (if_pos (by omega)) ?_
              refine lv_if_eq (tgt := 155) hx hb d_M_run_148 (by decide) (fun c_8 => ?_) (fun c_8 => ?_)
              · skip
                exact absurd c_8 (by decide)
              · skip
                refine lv_iconst (v := 0) hx hb d_M_run_151 (by decide) ?_
                refine lv_goto (tgt := 156) hx hb d_M_run_152 (by decide) ?_
                refine va_put (D := D) (ci := 5) (v := .int 0) (ty := .int) (C := R_M) (T := T_M) (N := 20) hx hb hg in_M ty_M tok_M nm_M hown hK hP hD hS 0 rfl rfl 0 (by decide) (hg _ gw_524) (fun _ h9 => h9) rfl (by decide +kernel) (rfl) (rfl) (Nat.le_of_ble_eq_true rfl) d_M_run_156 (fun H locs hP hD hS => ?_)
                have hP : va_P D CLS [(y, .inr (5, [.int 0, .int (nI bi), .int (nI ne), .int (nI li), .int (nI sp), .int (nI q), .ref ms, .ref mw, .ref mu, .ref mc, .ref mn, .int en, .int (nI sz), .ref mr, .int (nI wa), .ref mq, .int (nI (0 + m0 + 1 + wdt (rac pl m0))), .ref md, .int at0, .int lk])), (ms, .inl (cI, 2, .inl st)), (mw, .inl (cI, 2, .inl lw)), (mr, .inl (cB, 6000, .inl wr)), (md, .inl (cB, 400, .inl (flw (fil (fil dr 1 0 m0) 0 (0 + m0) 1) (nI (rrc n0 pl m0)) (wdt (rac pl m0)) (0 + m0 + 1) (wdt (rac pl m0)))))] H := hP
                have hD : va_D A [(y, .inr (5, [.int 0, .int (nI bi), .int (nI ne), .int (nI li), .int (nI sp), .int (nI q), .ref ms, .ref mw, .ref mu, .ref mc, .ref mn, .int en, .int (nI sz), .ref mr, .int (nI wa), .ref mq, .int (nI (0 + m0 + 1 + wdt (rac pl m0))), .ref md, .int at0, .int lk])), (ms, .inl (cI, 2, .inl st)), (mw, .inl (cI, 2, .inl lw)), (mr, .inl (cB, 6000, .inl wr)), (md, .inl (cB, 400, .inl (flw (fil (fil dr 1 0 m0) 0 (0 + m0) 1) (nI (rrc n0 pl m0)) (wdt (rac pl m0)) (0 + m0 + 1) (wdt (rac pl m0)))))] := hD
                refine lv_aload_n hx hb d_M_run_159 rfl (lv_at hl 3 rfl) ?_
                refine va_get (D := D) (ci := 5) (v := .int 0) (C := R_M) (T := T_M) (N := 20) hx hb hg in_M hown hK hP 0 rfl rfl 0 (by decide) (hg _ gw_524) (fun _ h9 => h9) rfl d_M_run_160 ?_
                refine lv_if_le (tgt := 168) hx hb d_M_run_163 (by decide) (fun c_9 => ?_) (fun c_9 => ?_)
                · skip
                  refine lv_aload_n hx hb d_M_run_168 rfl (lv_at hl 3 rfl) ?_
                  refine va_get (D := D) (ci := 5) (v := .ref ms) (C := R_M) (T := T_M) (N := 20) hx hb hg in_M hown hK hP 0 rfl rfl 6 (by decide) (hg _ gw_530) (fun _ h9 => h9) rfl d_M_run_169 ?_
                  refine lv_iconst (v := 0) hx hb d_M_run_172 (by decide) ?_
                  refine lv_iload hx hb d_M_run_173 (lv_at hl 0 rfl) ?_
                  refine va_iast hx hb hK hP hD hS 1 1 rfl rfl (vp_in_nI (n := 0) (by decide) (by decide)) d_M_run_175 (fun H locs hP hD hS => ?_)
                  rw [show (0 : Int32).toNatClampNeg = 0 from rfl] at hP hD
                  have hP : va_P D CLS [(y, .inr (5, [.int 0, .int (nI bi), .int (nI ne), .int (nI li), .int (nI sp), .int (nI q), .ref ms, .ref mw, .ref mu, .ref mc, .ref mn, .int en, .int (nI sz), .ref mr, .int (nI wa), .ref mq, .int (nI (0 + m0 + 1 + wdt (rac pl m0))), .ref md, .int at0, .int lk])), (ms, .inl (cI, 2, .inl (upd st 0 (nI (rac pl m0 - 1))))), (mw, .inl (cI, 2, .inl lw)), (mr, .inl (cB, 6000, .inl wr)), (md, .inl (cB, 400, .inl (flw (fil (fil dr 1 0 m0) 0 (0 + m0) 1) (nI (rrc n0 pl m0)) (wdt (rac pl m0)) (0 + m0 + 1) (wdt (rac pl m0)))))] H := hP
                  have hD : va_D A [(y, .inr (5, [.int 0, .int (nI bi), .int (nI ne), .int (nI li), .int (nI sp), .int (nI q), .ref ms, .ref mw, .ref mu, .ref mc, .ref mn, .int en, .int (nI sz), .ref mr, .int (nI wa), .ref mq, .int (nI (0 + m0 + 1 + wdt (rac pl m0))), .ref md, .int at0, .int lk])), (ms, .inl (cI, 2, .inl (upd st 0 (nI (rac pl m0 - 1))))), (mw, .inl (cI, 2, .inl lw)), (mr, .inl (cB, 6000, .inl wr)), (md, .inl (cB, 400, .inl (flw (fil (fil dr 1 0 m0) 0 (0 + m0) 1) (nI (rrc n0 pl m0)) (wdt (rac pl m0)) (0 + m0 + 1) (wdt (rac pl m0)))))] := hD
                  refine lv_aload_n hx hb d_M_run_176 rfl (lv_at hl 3 rfl) ?_
                  refine va_get (D := D) (ci := 5) (v := .ref mw) (C := R_M) (T := T_M) (N := 20) hx hb hg in_M hown hK hP 0 rfl rfl 7 (by decide) (hg _ gw_531) (fun _ h9 => h9) rfl d_M_run_177 ?_
                  refine lv_iconst (v := 0) hx hb d_M_run_180 (by decide) ?_
                  refine lv_iload hx hb d_M_run_181 (lv_at hl 1 rfl) ?_
                  refine va_iast hx hb hK hP hD hS 2 1 rfl rfl (vp_in_nI (n := 0) (by decide) (by decide)) d_M_run_183 (fun H locs hP hD hS => ?_)
                  rw [show (0 : Int32).toNatClampNeg = 0 from rfl] at hP hD
                  have hP : va_P D CLS [(y, .inr (5, [.int 0, .int (nI bi), .int (nI ne), .int (nI li), .int (nI sp), .int (nI q), .ref ms, .ref mw, .ref mu, .ref mc, .ref mn, .int en, .int (nI sz), .ref mr, .int (nI wa), .ref mq, .int (nI (0 + m0 + 1 + wdt (rac pl m0))), .ref md, .int at0, .int lk])), (ms, .inl (cI, 2, .inl (upd st 0 (nI (rac pl m0 - 1))))), (mw, .inl (cI, 2, .inl (upd lw 0 (nI (wdt (rac pl m0)))))), (mr, .inl (cB, 6000, .inl wr)), (md, .inl (cB, 400, .inl (flw (fil (fil dr 1 0 m0) 0 (0 + m0) 1) (nI (rrc n0 pl m0)) (wdt (rac pl m0)) (0 + m0 + 1) (wdt (rac pl m0)))))] H := hP
                  have hD : va_D A [(y, .inr (5, [.int 0, .int (nI bi), .int (nI ne), .int (nI li), .int (nI sp), .int (nI q), .ref ms, .ref mw, .ref mu, .ref mc, .ref mn, .int en, .int (nI sz), .ref mr, .int (nI wa), .ref mq, .int (nI (0 + m0 + 1 + wdt (rac pl m0))), .ref md, .int at0, .int lk])), (ms, .inl (cI, 2, .inl (upd st 0 (nI (rac pl m0 - 1))))), (mw, .inl (cI, 2, .inl (upd lw 0 (nI (wdt (rac pl m0)))))), (mr, .inl (cB, 6000, .inl wr)), (md, .inl (cB, 400, .inl (flw (fil (fil dr 1 0 m0) 0 (0 + m0) 1) (nI (rrc n0 pl m0)) (wdt (rac pl m0)) (0 + m0 + 1) (wdt (rac pl m0)))))] := hD
                  refine lv_aload_n hx hb d_M_run_184 rfl (lv_at hl 3 rfl) ?_
                  have hPc := hP.sub (ws' := [(y, .inr (5, [.int 0, .int (nI bi), .int (nI ne), .int (nI li), .int (nI sp), .int (nI q), .ref ms, .ref mw, .ref mu, .ref mc, .ref mn, .int en, .int (nI sz), .ref mr, .int (nI wa), .ref mq, .int (nI (0 + m0 + 1 + wdt (rac pl m0))), .ref md, .int at0, .int lk])), (mr, .inl (cB, 6000, .inl wr)), (md, .inl (cB, 400, .inl (flw (fil (fil dr 1 0 m0) 0 (0 + m0) 1) (nI (rrc n0 pl m0)) (wdt (rac pl m0)) (0 + m0 + 1) (wdt (rac pl m0)))))]) [0, 3, 4] rfl
                  have hDc := hD.sub (ws' := [(y, .inr (5, [.int 0, .int (nI bi), .int (nI ne), .int (nI li), .int (nI sp), .int (nI q), .ref ms, .ref mw, .ref mu, .ref mc, .ref mn, .int en, .int (nI sz), .ref mr, .int (nI wa), .ref mq, .int (nI (0 + m0 + 1 + wdt (rac pl m0))), .ref md, .int at0, .int lk])), (mr, .inl (cB, 6000, .inl wr)), (md, .inl (cB, 400, .inl (flw (fil (fil dr 1 0 m0) 0 (0 + m0) 1) (nI (rrc n0 pl m0)) (wdt (rac pl m0)) (0 + m0 + 1) (wdt (rac pl m0)))))]) [0, 3, 4] (by decide) rfl
                  have hKc := hK.sub (tys' := [(cB, .byte)]) [0] rfl
                  refine mci (va_runV (As := []) (rest := []) ⟨hx, hb, hml, hown, hg⟩ (c_M_write l D y ms mw mu mc mn mr mq md bi ne li sp q sz wa 0 en (nI (0 + m0 + 1 + wdt (rac pl m0))) at0 lk cB wr (flw (fil (fil dr 1 0 m0) 0 (0 + m0) 1) (nI (rrc n0 pl m0)) (wdt (rac pl m0)) (0 + m0 + 1) (wdt (rac pl m0))) (0 + m0 + 1 + wdt (rac pl m0)) (by omega) (by omega) (fun j hj => (by obtain ⟨a1, a2⟩ := flw01 (f := fil (fil dr 1 0 m0) 0 (0 + m0) 1) (v := nI (rrc n0 pl m0)) (w := (wdt (rac pl m0))) (u := 0 + m0 + 1) (wdt (rac pl m0)); obtain ⟨b1, b2⟩ := fil01 (f := fil dr 1 0 m0) (b := 0) (u := 0 + m0) (Or.inl rfl) 1; obtain ⟨c1, c2⟩ := fil01 (f := dr) (b := 1) (u := 0) (Or.inr rfl) m0; by_cases h1 : 0 + m0 + 1 ≤ j; exact a1 j h1 (by omega); rw [a2 j (by omega)]; by_cases h2 : 0 + m0 ≤ j; exact b1 j h2 (by omega); rw [b2 j (by omega)]; exact c1 j (Nat.zero_le _) (by omega)))) (cwV 0 hg (gV gw_610 gw_612 gs_17 gw_7 gw_613) rfl rfl rfl (by decide +kernel) ⟨Nat.le_of_ble_eq_true rfl, Nat.le_of_ble_eq_true rfl⟩) ⟨fun a U g mk q => by obtain ⟨q0, qP, qK, qD⟩ := q; exact ⟨q0, qP, va_K.moved (u := U) (U := U.calling g mk a) (Vm.Alike.refl U.vm) qK, qD⟩, va_recv hKc hPc (ci := 5) (q0 := 0) rfl rfl, fun U hU hW => ⟨rfl, by rw [hU]; exact hPc, va_K.moved hW.alike hKc, hDc.weaken (fun _ _ _ _ => trivial)⟩⟩ rfl rfl hl.1 rfl (lv_room (Nat.le_of_ble_eq_true rfl)) d_M_run_185 (⟨Nat.le_of_ble_eq_true rfl, Nat.le_of_ble_eq_true rfl⟩)) hS hP hD [0, 3, 4] rfl rfl rfl (fun H locs hP hD hS => ?_)
                  have hP : va_P D CLS [(y, .inr (5, [.int 0, .int (nI bi), .int (nI ne), .int (nI li), .int (nI sp), .int (nI q), .ref ms, .ref mw, .ref mu, .ref mc, .ref mn, .int en, .int (nI (sz + (0 + m0 + 1 + wdt (rac pl m0)))), .ref mr, .int (nI wa), .ref mq, .int (nI (0 + m0 + 1 + wdt (rac pl m0))), .ref md, .int at0, .int lk])), (ms, .inl (cI, 2, .inl (upd st 0 (nI (rac pl m0 - 1))))), (mw, .inl (cI, 2, .inl (upd lw 0 (nI (wdt (rac pl m0)))))), (mr, .inl (cB, 6000, .inl (cpw wr sz (flw (fil (fil dr 1 0 m0) 0 (0 + m0) 1) (nI (rrc n0 pl m0)) (wdt (rac pl m0)) (0 + m0 + 1) (wdt (rac pl m0))) (0 + m0 + 1 + wdt (rac pl m0))))), (md, .inl (cB, 400, .inl (flw (fil (fil dr 1 0 m0) 0 (0 + m0) 1) (nI (rrc n0 pl m0)) (wdt (rac pl m0)) (0 + m0 + 1) (wdt (rac pl m0)))))] H := hP
                  have hD : va_D A [(y, .inr (5, [.int 0, .int (nI bi), .int (nI ne), .int (nI li), .int (nI sp), .int (nI q), .ref ms, .ref mw, .ref mu, .ref mc, .ref mn, .int en, .int (nI (sz + (0 + m0 + 1 + wdt (rac pl m0)))), .ref mr, .int (nI wa), .ref mq, .int (nI (0 + m0 + 1 + wdt (rac pl m0))), .ref md, .int at0, .int lk])), (ms, .inl (cI, 2, .inl (upd st 0 (nI (rac pl m0 - 1))))), (mw, .inl (cI, 2, .inl (upd lw 0 (nI (wdt (rac pl m0)))))), (mr, .inl (cB, 6000, .inl (cpw wr sz (flw (fil (fil dr 1 0 m0) 0 (0 + m0) 1) (nI (rrc n0 pl m0)) (wdt (rac pl m0)) (0 + m0 + 1) (wdt (rac pl m0))) (0 + m0 + 1 + wdt (rac pl m0))))), (md, .inl (cB, 400, .inl (flw (fil (fil dr 1 0 m0) 0 (0 + m0) 1) (nI (rrc n0 pl m0)) (wdt (rac pl m0)) (0 + m0 + 1) (wdt (rac pl m0)))))] := hD
                  exact W.iret (v := nI (0 + m0 + 1 + wdt (rac pl m0))) hx hb hr (fun t ht hW => ⟨rfl, by rw [ht]; exact hP, (hAe ▸ hS).F ht⟩) (hAe ▸ hS).2.2 d_M_run_188
                · skip
                  exact absurd (by decide) c_9
          · skip
            exact absurd rfl c_4
        have loop : ∀ (d j : Nat), j + d = m0 → ∀ (H : Heap) (locs : List Loc), va_P D CLS [(y, .inr (5, [.int 0, .int (nI bi), .int (nI ne), .int (nI li), .int (nI sp), .int (nI q), .ref ms, .ref mw, .ref mu, .ref mc, .ref mn, .int en, .int (nI sz), .ref mr, .int (nI wa), .ref mq, .int (nI (0 + j)), .ref md, .int at0, .int lk])), (ms, .inl (cI, 2, .inl st)), (mw, .inl (cI, 2, .inl lw)), (mr, .inl (cB, 6000, .inl wr)), (md, .inl (cB, 400, .inl (fil dr 1 0 j)))] H → va_D A [(y, .inr (5, [.int 0, .int (nI bi), .int (nI ne), .int (nI li), .int (nI sp), .int (nI q), .ref ms, .ref mw, .ref mu, .ref mc, .ref mn, .int en, .int (nI sz), .ref mr, .int (nI wa), .ref mq, .int (nI (0 + j)), .ref md, .int at0, .int lk])), (ms, .inl (cI, 2, .inl st)), (mw, .inl (cI, 2, .inl lw)), (mr, .inl (cB, 6000, .inl wr)), (md, .inl (cB, 400, .inl (fil dr 1 0 j)))] → va_S A s.heap H locs → ∀ (ls : Array Slot), lv_has ls 6 [(4, .int (nI (rac pl j))), (3, .int (nI (rrc n0 pl j))), (0, .ref y), (1, .int (nI n0)), (2, .int 0)] → W p l e (headSpec (WSY y_M_run b_M_run 6 (some .int)) ({ frames := 2, cells := 0, slots := 0, locals := 50 })).room s m ([.ref y, .int (nI n0), .int 0] : List Value).toArray below meth c H locs 0 0 (MQ below (QM (some (.int (nI (0 + m0 + 1 + wdt (rac pl m0))))) [(y, .inr (5, [.int th, .int (nI bi), .int (nI ne), .int (nI li), .int (nI sp), .int (nI q), .ref ms, .ref mw, .ref mu, .ref mc, .ref mn, .int en, .int (nI sz), .ref mr, .int (nI wa), .ref mq, .int la, .ref md, .int at0, .int lk])), (ms, .inl (cI, 2, .inl st)), (mw, .inl (cI, 2, .inl lw)), (mr, .inl (cB, 6000, .inl wr)), (md, .inl (cB, 400, .inl dr))] [(y, .inr (5, [.int 0, .int (nI bi), .int (nI ne), .int (nI li), .int (nI sp), .int (nI q), .ref ms, .ref mw, .ref mu, .ref mc, .ref mn, .int en, .int (nI (sz + (0 + m0 + 1 + wdt (rac pl m0)))), .ref mr, .int (nI wa), .ref mq, .int (nI (0 + m0 + 1 + wdt (rac pl m0))), .ref md, .int at0, .int lk])), (ms, .inl (cI, 2, .inl (upd st 0 (nI (rac pl m0 - 1))))), (mw, .inl (cI, 2, .inl (upd lw 0 (nI (wdt (rac pl m0)))))), (mr, .inl (cB, 6000, .inl (cpw wr sz (flw (fil (fil dr 1 0 m0) 0 (0 + m0) 1) (nI (rrc n0 pl m0)) (wdt (rac pl m0)) (0 + m0 + 1) (wdt (rac pl m0))) (0 + m0 + 1 + wdt (rac pl m0))))), (md, .inl (cB, 400, .inl (flw (fil (fil dr 1 0 m0) 0 (0 + m0) 1) (nI (rrc n0 pl m0)) (wdt (rac pl m0)) (0 + m0 + 1) (wdt (rac pl m0)))))] D) ([.ref y, .int (nI n0), .int 0] : List Value).toArray s 0 0 (ad [(y, .inr (5, [.int th, .int (nI bi), .int (nI ne), .int (nI li), .int (nI sp), .int (nI q), .ref ms, .ref mw, .ref mu, .ref mc, .ref mn, .int en, .int (nI sz), .ref mr, .int (nI wa), .ref mq, .int la, .ref md, .int at0, .int lk])), (ms, .inl (cI, 2, .inl st)), (mw, .inl (cI, 2, .inl lw)), (mr, .inl (cB, 6000, .inl wr)), (md, .inl (cB, 400, .inl dr))])) (F0 m 43 ls []) := by
          intro d
          induction d with
          | zero =>
            intro j hj H locs hP hD hS ls hl
            obtain rfl : j = m0 := by omega
            have hwj := wdt_le (rac pl j) (rac_lt hpl j)
            have hpj := pw15 hwj
            have hrj := rrc_le n0 pl j
            have hlj := rac_lt hpl j
            refine lv_iload_n hx hb d_M_run_43 rfl (lv_at hl 1 rfl) ?_
            refine lv_iload hx hb d_M_run_44 (lv_at hl 0 rfl) ?_
            have hPc := hP.sub (ws' := []) [] rfl
            have hKc := hK.sub (tys' := []) [] rfl
            refine pci (va_runS (As := [.int (nI (rac pl j))]) (rest := [.int (nI (rrc n0 pl j))]) ⟨hx, hb, hml, hown, hg⟩ (c_M_widthOf l D (rac pl j) (rac_lt hpl j)) (va_cwS 1 hg (gS gw_619 gw_620 gw_7 gw_621) rfl rfl rfl (by decide +kernel) ⟨Nat.le_of_ble_eq_true rfl, Nat.le_of_ble_eq_true rfl⟩) ⟨fun a U g mk q => by obtain ⟨q0, qP, qK⟩ := q; exact ⟨q0, qP, va_K.moved (u := U) (U := U.calling g mk a) (Vm.Alike.refl U.vm) qK⟩, fun U hU hW => ⟨rfl, by rw [hU]; exact hPc, va_K.moved hW.alike hKc⟩⟩ rfl rfl hl.1 rfl (lv_room (Nat.le_of_ble_eq_true rfl)) d_M_run_46 (⟨Nat.le_of_ble_eq_true rfl, Nat.le_of_ble_eq_true rfl⟩)) ?_
            have hPc := hP.sub (ws' := []) [] rfl
            have hKc := hK.sub (tys' := []) [] rfl
            refine pci (va_runS (As := [.int (nI (wdt (rac pl j)))]) (rest := [.int (nI (rrc n0 pl j))]) ⟨hx, hb, hml, hown, hg⟩ (c_M_power l D (wdt (rac pl j)) (by omega)) (va_cwS 1 hg (gS gw_517 gw_518 gw_7 gw_519) rfl rfl rfl (by decide +kernel) ⟨Nat.le_of_ble_eq_true rfl, Nat.le_of_ble_eq_true rfl⟩) ⟨fun a U g mk q => by obtain ⟨q0, qP, qK⟩ := q; exact ⟨q0, qP, va_K.moved (u := U) (U := U.calling g mk a) (Vm.Alike.refl U.vm) qK⟩, fun U hU hW => ⟨rfl, by rw [hU]; exact hPc, va_K.moved hW.alike hKc⟩⟩ rfl rfl hl.1 rfl (lv_room (Nat.le_of_ble_eq_true rfl)) d_M_run_49 (⟨Nat.le_of_ble_eq_true rfl, Nat.le_of_ble_eq_true rfl⟩)) ?_
            refine lv_icmp_lt (tgt := 92) hx hb d_M_run_52 (by decide) (fun c_10 => ?_) (fun c_10 => ?_)
            · skip
              exact tail H locs hP hD hS ls (lv_sub hl [0, 1, 2, 3, 4] rfl)
            · skip
              exact absurd ((nI_ltI (by omega) (by omega)).mpr hm2) c_10
          | succ d ih =>
            intro j hj H locs hP hD hS ls hl
            have hwj := wdt_le (rac pl j) (rac_lt hpl j)
            have hpj := pw15 hwj
            have hrj := rrc_le n0 pl j
            have hlj := rac_lt hpl j
            refine lv_iload_n hx hb d_M_run_43 rfl (lv_at hl 1 rfl) ?_
            refine lv_iload hx hb d_M_run_44 (lv_at hl 0 rfl) ?_
            have hPc := hP.sub (ws' := []) [] rfl
            have hKc := hK.sub (tys' := []) [] rfl
            refine pci (va_runS (As := [.int (nI (rac pl j))]) (rest := [.int (nI (rrc n0 pl j))]) ⟨hx, hb, hml, hown, hg⟩ (c_M_widthOf l D (rac pl j) (rac_lt hpl j)) (va_cwS 1 hg (gS gw_619 gw_620 gw_7 gw_621) rfl rfl rfl (by decide +kernel) ⟨Nat.le_of_ble_eq_true rfl, Nat.le_of_ble_eq_true rfl⟩) ⟨fun a U g mk q => by obtain ⟨q0, qP, qK⟩ := q; exact ⟨q0, qP, va_K.moved (u := U) (U := U.calling g mk a) (Vm.Alike.refl U.vm) qK⟩, fun U hU hW => ⟨rfl, by rw [hU]; exact hPc, va_K.moved hW.alike hKc⟩⟩ rfl rfl hl.1 rfl (lv_room (Nat.le_of_ble_eq_true rfl)) d_M_run_46 (⟨Nat.le_of_ble_eq_true rfl, Nat.le_of_ble_eq_true rfl⟩)) ?_
            have hPc := hP.sub (ws' := []) [] rfl
            have hKc := hK.sub (tys' := []) [] rfl
            refine pci (va_runS (As := [.int (nI (wdt (rac pl j)))]) (rest := [.int (nI (rrc n0 pl j))]) ⟨hx, hb, hml, hown, hg⟩ (c_M_power l D (wdt (rac pl j)) (by omega)) (va_cwS 1 hg (gS gw_517 gw_518 gw_7 gw_519) rfl rfl rfl (by decide +kernel) ⟨Nat.le_of_ble_eq_true rfl, Nat.le_of_ble_eq_true rfl⟩) ⟨fun a U g mk q => by obtain ⟨q0, qP, qK⟩ := q; exact ⟨q0, qP, va_K.moved (u := U) (U := U.calling g mk a) (Vm.Alike.refl U.vm) qK⟩, fun U hU hW => ⟨rfl, by rw [hU]; exact hPc, va_K.moved hW.alike hKc⟩⟩ rfl rfl hl.1 rfl (lv_room (Nat.le_of_ble_eq_true rfl)) d_M_run_49 (⟨Nat.le_of_ble_eq_true rfl, Nat.le_of_ble_eq_true rfl⟩)) ?_
            refine lv_icmp_lt (tgt := 92) hx hb d_M_run_52 (by decide) (fun c_11 => ?_) (fun c_11 => ?_)
            · skip
              exact absurd ((nI_ltI (by omega) (by omega)).mp c_11) (by have := hm1 j (by omega); omega)
            · skip
              refine lv_aload_n hx hb d_M_run_55 rfl (lv_at hl 2 rfl) ?_
              refine lv_iconst (v := 1) hx hb d_M_run_56 (by decide) ?_
              have hPc := hP.sub (ws' := [(y, .inr (5, [.int 0, .int (nI bi), .int (nI ne), .int (nI li), .int (nI sp), .int (nI q), .ref ms, .ref mw, .ref mu, .ref mc, .ref mn, .int en, .int (nI sz), .ref mr, .int (nI wa), .ref mq, .int (nI (0 + j)), .ref md, .int at0, .int lk])), (md, .inl (cB, 400, .inl (fil dr 1 0 j)))]) [0, 4] rfl
              have hDc := hD.sub (ws' := [(y, .inr (5, [.int 0, .int (nI bi), .int (nI ne), .int (nI li), .int (nI sp), .int (nI q), .ref ms, .ref mw, .ref mu, .ref mc, .ref mn, .int en, .int (nI sz), .ref mr, .int (nI wa), .ref mq, .int (nI (0 + j)), .ref md, .int at0, .int lk])), (md, .inl (cB, 400, .inl (fil dr 1 0 j)))]) [0, 4] (by decide) rfl
              have hKc := hK.sub (tys' := [(cB, .byte)]) [0] rfl
              refine mcv (va_runV (As := [.int 1]) (rest := []) ⟨hx, hb, hml, hown, hg⟩ (c_M_lay l D y ms mw mu mc mn mr mq md bi ne li sp q sz wa 0 en la at0 lk cB (fil dr 1 0 j) (0 + j) 1 (Or.inr rfl) (by omega)) (cwV 1 hg (gV gw_598 gw_600 gs_14 gw_7 gw_601) rfl rfl rfl (by decide +kernel) ⟨Nat.le_of_ble_eq_true rfl, Nat.le_of_ble_eq_true rfl⟩) ⟨fun a U g mk q => by obtain ⟨q0, qP, qK, qD⟩ := q; exact ⟨q0, qP, va_K.moved (u := U) (U := U.calling g mk a) (Vm.Alike.refl U.vm) qK, qD⟩, va_recv hKc hPc (ci := 5) (q0 := 0) rfl rfl, fun U hU hW => ⟨rfl, by rw [hU]; exact hPc, va_K.moved hW.alike hKc, hDc.weaken (fun _ _ _ _ => trivial)⟩⟩ rfl rfl hl.1 rfl (lv_room (Nat.le_of_ble_eq_true rfl)) d_M_run_57 (⟨Nat.le_of_ble_eq_true rfl, Nat.le_of_ble_eq_true rfl⟩)) hS hP hD [0, 4] rfl rfl rfl (fun H locs hP hD hS => ?_)
              have hP : va_P D CLS [(y, .inr (5, [.int 0, .int (nI bi), .int (nI ne), .int (nI li), .int (nI sp), .int (nI q), .ref ms, .ref mw, .ref mu, .ref mc, .ref mn, .int en, .int (nI sz), .ref mr, .int (nI wa), .ref mq, .int (nI (0 + (j + 1))), .ref md, .int at0, .int lk])), (ms, .inl (cI, 2, .inl st)), (mw, .inl (cI, 2, .inl lw)), (mr, .inl (cB, 6000, .inl wr)), (md, .inl (cB, 400, .inl (fil dr 1 0 (j + 1))))] H := hP
              have hD : va_D A [(y, .inr (5, [.int 0, .int (nI bi), .int (nI ne), .int (nI li), .int (nI sp), .int (nI q), .ref ms, .ref mw, .ref mu, .ref mc, .ref mn, .int en, .int (nI sz), .ref mr, .int (nI wa), .ref mq, .int (nI (0 + (j + 1))), .ref md, .int at0, .int lk])), (ms, .inl (cI, 2, .inl st)), (mw, .inl (cI, 2, .inl lw)), (mr, .inl (cB, 6000, .inl wr)), (md, .inl (cB, 400, .inl (fil dr 1 0 (j + 1))))] := hD
              refine lv_iload_n hx hb d_M_run_60 rfl (lv_at hl 1 rfl) ?_
              refine lv_iload hx hb d_M_run_61 (lv_at hl 0 rfl) ?_
              have hPc := hP.sub (ws' := []) [] rfl
              have hKc := hK.sub (tys' := []) [] rfl
              refine pci (va_runS (As := [.int (nI (rac pl j))]) (rest := [.int (nI (rrc n0 pl j))]) ⟨hx, hb, hml, hown, hg⟩ (c_M_widthOf l D (rac pl j) (rac_lt hpl j)) (va_cwS 1 hg (gS gw_619 gw_620 gw_7 gw_621) rfl rfl rfl (by decide +kernel) ⟨Nat.le_of_ble_eq_true rfl, Nat.le_of_ble_eq_true rfl⟩) ⟨fun a U g mk q => by obtain ⟨q0, qP, qK⟩ := q; exact ⟨q0, qP, va_K.moved (u := U) (U := U.calling g mk a) (Vm.Alike.refl U.vm) qK⟩, fun U hU hW => ⟨rfl, by rw [hU]; exact hPc, va_K.moved hW.alike hKc⟩⟩ rfl rfl hl.1 rfl (lv_room (Nat.le_of_ble_eq_true rfl)) d_M_run_63 (⟨Nat.le_of_ble_eq_true rfl, Nat.le_of_ble_eq_true rfl⟩)) ?_
              have hPc := hP.sub (ws' := []) [] rfl
              have hKc := hK.sub (tys' := []) [] rfl
              refine pci (va_runS (As := [.int (nI (wdt (rac pl j)))]) (rest := [.int (nI (rrc n0 pl j))]) ⟨hx, hb, hml, hown, hg⟩ (c_M_power l D (wdt (rac pl j)) (by omega)) (va_cwS 1 hg (gS gw_517 gw_518 gw_7 gw_519) rfl rfl rfl (by decide +kernel) ⟨Nat.le_of_ble_eq_true rfl, Nat.le_of_ble_eq_true rfl⟩) ⟨fun a U g mk q => by obtain ⟨q0, qP, qK⟩ := q; exact ⟨q0, qP, va_K.moved (u := U) (U := U.calling g mk a) (Vm.Alike.refl U.vm) qK⟩, fun U hU hW => ⟨rfl, by rw [hU]; exact hPc, va_K.moved hW.alike hKc⟩⟩ rfl rfl hl.1 rfl (lv_room (Nat.le_of_ble_eq_true rfl)) d_M_run_66 (⟨Nat.le_of_ble_eq_true rfl, Nat.le_of_ble_eq_true rfl⟩)) ?_
              refine lv_isub hx hb d_M_run_69 ?_
              refine tpi (y := nI (rrc n0 pl (j + 1))) (pk_sub (hm1 j (by omega))) ?_
              refine lv_istore_n (lv' := [(3, .int (nI (rrc n0 pl (j + 1)))), (4, .int (nI (rac pl j))), (0, .ref y), (1, .int (nI n0)), (2, .int 0)]) hx hb d_M_run_70 rfl hl (by decide) rfl (fun ls hl => ?_)
              refine lv_iload hx hb d_M_run_71 (lv_at hl 1 rfl) ?_
              refine lv_bipush (v := 31) hx hb d_M_run_73 (by decide) ?_
              refine lv_icmp_ge (tgt := 85) hx hb d_M_run_75 (by decide) (fun c_12 => ?_) (fun c_12 => ?_)
              · skip
                have h31 := (nI_leI (a := 31) (by omega) (by omega)).mp c_12
                refine lv_iload hx hb d_M_run_85 (lv_at hl 1 rfl) ?_
                refine tpi (y := nI (rac pl (j + 1))) (congrArg nI (show rac pl j = upp (rac pl j) from (if_neg (by omega)).symm)) ?_
                refine lv_istore (lv' := [(4, .int (nI (rac pl (j + 1)))), (3, .int (nI (rrc n0 pl (j + 1)))), (0, .ref y), (1, .int (nI n0)), (2, .int 0)]) hx hb d_M_run_87 hl (by decide) rfl (fun ls hl => ?_)
                refine lv_goto (tgt := 43) hx hb d_M_run_89 (by decide) ?_
                exact ih (j + 1) (by omega) H locs hP hD hS ls (lv_sub hl [0, 1, 2, 3, 4] rfl)
              · skip
                have h31 : ¬ 31 ≤ rac pl j := fun q9 => c_12 ((nI_leI (a := 31) (by omega) (by omega)).mpr q9)
                refine lv_iload hx hb d_M_run_78 (lv_at hl 1 rfl) ?_
                refine lv_iconst (v := 1) hx hb d_M_run_80 (by decide) ?_
                refine lv_iadd hx hb d_M_run_81 ?_
                refine tpi (y := nI (rac pl (j + 1))) ((nI_1 _).trans (congrArg nI (show rac pl j + 1 = upp (rac pl j) from (if_pos (by omega)).symm))) ?_
                refine lv_goto (tgt := 87) hx hb d_M_run_82 (by decide) ?_
                refine lv_istore (lv' := [(4, .int (nI (rac pl (j + 1)))), (3, .int (nI (rrc n0 pl (j + 1)))), (0, .ref y), (1, .int (nI n0)), (2, .int 0)]) hx hb d_M_run_87 hl (by decide) rfl (fun ls hl => ?_)
                refine lv_goto (tgt := 43) hx hb d_M_run_89 (by decide) ?_
                exact ih (j + 1) (by omega) H locs hP hD hS ls (lv_sub hl [0, 1, 2, 3, 4] rfl)
        exact loop m0 0 (by omega) H locs hP hD hS ls hl
      · skip
        exact absurd (by decide) c_3
    · skip
      exact absurd (nI_le hn (by omega)) c_2
set_option maxHeartbeats 4000000 in
set_option maxRecDepth 100000 in
theorem c_M_run0U (l : Launch) (D : va_G) (y ms mw mu mc mn mr mq md bi ne li sp q sz wa : Nat) (th en la at0 lk : Int32) (cB cI : ClassId) (st lw wr dr : Nat → Int32) (pl n0 m0 : Nat) (hst : st 0 = nI pl) (hpl : pl < 32) (hn : n0 ≤ 65535) (hm1 : ∀ j, j < m0 → 2 ^ wdt (rac pl j) ≤ rrc n0 pl j) (hm2 : rrc n0 pl m0 < 2 ^ wdt (rac pl m0)) (hm3 : m0 ≤ 40) (hsz : sz ≤ 6000) (hu : ¬ sz + (m0 + 1 + wdt (rac pl m0)) ≤ 6000) : Met l y_M_run (WSY y_M_run b_M_run 6 (some .int)) ({ frames := 2, cells := 0, slots := 0, locals := 50 }) (va_Pc [.ref y, .int (nI n0), .int 0] (fun U => va_P D CLS [(y, .inr (5, [.int th, .int (nI bi), .int (nI ne), .int (nI li), .int (nI sp), .int (nI q), .ref ms, .ref mw, .ref mu, .ref mc, .ref mn, .int en, .int (nI sz), .ref mr, .int (nI wa), .ref mq, .int la, .ref md, .int at0, .int lk])), (ms, .inl (cI, 2, .inl st)), (mw, .inl (cI, 2, .inl lw)), (mr, .inl (cB, 6000, .inl wr)), (md, .inl (cB, 400, .inl dr))] U.heap ∧ va_K D CLS [(cB, .byte), (cI, .int)] U ∧ va_D (fun _ => True) [(y, .inr (5, [.int th, .int (nI bi), .int (nI ne), .int (nI li), .int (nI sp), .int (nI q), .ref ms, .ref mw, .ref mu, .ref mc, .ref mn, .int en, .int (nI sz), .ref mr, .int (nI wa), .ref mq, .int la, .ref md, .int at0, .int lk])), (ms, .inl (cI, 2, .inl st)), (mw, .inl (cI, 2, .inl lw)), (mr, .inl (cB, 6000, .inl wr)), (md, .inl (cB, 400, .inl dr))])) (QM (some (.int (0))) [(y, .inr (5, [.int th, .int (nI bi), .int (nI ne), .int (nI li), .int (nI sp), .int (nI q), .ref ms, .ref mw, .ref mu, .ref mc, .ref mn, .int en, .int (nI sz), .ref mr, .int (nI wa), .ref mq, .int la, .ref md, .int at0, .int lk])), (ms, .inl (cI, 2, .inl st)), (mw, .inl (cI, 2, .inl lw)), (mr, .inl (cB, 6000, .inl wr)), (md, .inl (cB, 400, .inl dr))] [(y, .inr (5, [.int 2, .int (nI bi), .int (nI ne), .int (nI li), .int (nI sp), .int (nI q), .ref ms, .ref mw, .ref mu, .ref mc, .ref mn, .int en, .int (nI sz), .ref mr, .int (nI wa), .ref mq, .int (nI (0 + m0 + 1 + wdt (rac pl m0))), .ref md, .int at0, .int lk])), (ms, .inl (cI, 2, .inl st)), (mw, .inl (cI, 2, .inl lw)), (mr, .inl (cB, 6000, .inl wr)), (md, .inl (cB, 400, .inl (flw (fil (fil dr 1 0 m0) 0 (0 + m0) 1) (nI (rrc n0 pl m0)) (wdt (rac pl m0)) (0 + m0 + 1) (wdt (rac pl m0)))))] D) 0 0 (ad [(y, .inr (5, [.int th, .int (nI bi), .int (nI ne), .int (nI li), .int (nI sp), .int (nI q), .ref ms, .ref mw, .ref mu, .ref mc, .ref mn, .int en, .int (nI sz), .ref mr, .int (nI wa), .ref mq, .int la, .ref md, .int at0, .int lk])), (ms, .inl (cI, 2, .inl st)), (mw, .inl (cI, 2, .inl lw)), (mr, .inl (cB, 6000, .inl wr)), (md, .inl (cB, 400, .inl dr))]) := by
  refine Met.ofW (cc := b_M_run) (maxL := 6) (ret := (some .int)) (by decide) rfl ?_
  intro p e s m args below meth c s₁ B hml hv
  obtain ⟨rfl, hP, hK, hD0⟩ := hv
  have hx := B.exec
  have hb := B.bytes
  have hr := B.returns
  have hts := atoms_spec (ws := WSY y_M_run b_M_run 6 (some .int)) B.pre
  have hg : ∀ w ∈ GW, w.before _ s = true := fun w h => hts w (List.mem_cons_of_mem _ h)
  have hown : s.vm.findClass "LineGolombModel" = some m.cls := findClass_of_methodNamed B.named
  have hlocks := B.notSynchronized
  obtain ⟨A, hAe⟩ : ∃ A, A = ad [(y, .inr (5, [.int th, .int (nI bi), .int (nI ne), .int (nI li), .int (nI sp), .int (nI q), .ref ms, .ref mw, .ref mu, .ref mc, .ref mn, .int en, .int (nI sz), .ref mr, .int (nI wa), .ref mq, .int la, .ref md, .int at0, .int lk])), (ms, .inl (cI, 2, .inl st)), (mw, .inl (cI, 2, .inl lw)), (mr, .inl (cB, 6000, .inl wr)), (md, .inl (cB, 400, .inl dr))] := ⟨_, rfl⟩
  have hD : va_D A [(y, .inr (5, [.int th, .int (nI bi), .int (nI ne), .int (nI li), .int (nI sp), .int (nI q), .ref ms, .ref mw, .ref mu, .ref mc, .ref mn, .int en, .int (nI sz), .ref mr, .int (nI wa), .ref mq, .int la, .ref md, .int at0, .int lk])), (ms, .inl (cI, 2, .inl st)), (mw, .inl (cI, 2, .inl lw)), (mr, .inl (cB, 6000, .inl wr)), (md, .inl (cB, 400, .inl dr))] := by rw [hAe]; exact va_D_ad hD0
  have hS : va_S A s.heap s.heap [] := va_S.rf
  have hl := lv_entry ([.ref y, .int (nI n0), .int 0]) (n := 6) (Nat.le_of_ble_eq_true rfl)
  rw [lg_entry_eq]
  generalize (lg_sl ([.ref y, .int (nI n0), .int 0]) ++ List.replicate (6 - (lg_sl ([.ref y, .int (nI n0), .int 0])).length) Slot.unset).toArray = ls at hl ⊢
  have hl : lv_has ls 6 [(0, .ref y), (1, .int (nI n0)), (2, .int 0)] := hl
  have hwd := wdt_le (rac pl m0) (rac_lt hpl m0)
  have hrl := rrc_le n0 pl m0
  refine lv_aload_n hx hb d_M_run_0 rfl (lv_at hl 0 rfl) ?_
  refine lv_iload_n hx hb d_M_run_1 rfl (lv_at hl 1 rfl) ?_
  refine lv_if_lt (tgt := 11) hx hb d_M_run_2 (by decide) (fun c_1 => ?_) (fun c_1 => ?_)
  · skip
    exact absurd c_1 (nI_pos (by omega))
  · skip
    refine lv_iload_n hx hb d_M_run_5 rfl (lv_at hl 1 rfl) ?_
    refine lv_ldc (v := 65535) hx hb hown (hg _ gw_618) d_M_run_6 ?_
    refine lv_icmp_le (tgt := 15) hx hb d_M_run_8 (by decide) (fun c_2 => ?_) (fun c_2 => ?_)
    · skip
      refine lv_iconst (v := 0) hx hb d_M_run_15 (by decide) ?_
      refine va_put (D := D) (ci := 5) (v := .int 0) (ty := .int) (C := R_M) (T := T_M) (N := 20) hx hb hg in_M ty_M tok_M nm_M hown hK hP hD hS 0 rfl rfl 0 (by decide) (hg _ gw_524) (fun _ h9 => h9) rfl (by decide +kernel) (rfl) (rfl) (Nat.le_of_ble_eq_true rfl) d_M_run_16 (fun H locs hP hD hS => ?_)
      have hP : va_P D CLS [(y, .inr (5, [.int 0, .int (nI bi), .int (nI ne), .int (nI li), .int (nI sp), .int (nI q), .ref ms, .ref mw, .ref mu, .ref mc, .ref mn, .int en, .int (nI sz), .ref mr, .int (nI wa), .ref mq, .int la, .ref md, .int at0, .int lk])), (ms, .inl (cI, 2, .inl st)), (mw, .inl (cI, 2, .inl lw)), (mr, .inl (cB, 6000, .inl wr)), (md, .inl (cB, 400, .inl dr))] H := hP
      have hD : va_D A [(y, .inr (5, [.int 0, .int (nI bi), .int (nI ne), .int (nI li), .int (nI sp), .int (nI q), .ref ms, .ref mw, .ref mu, .ref mc, .ref mn, .int en, .int (nI sz), .ref mr, .int (nI wa), .ref mq, .int la, .ref md, .int at0, .int lk])), (ms, .inl (cI, 2, .inl st)), (mw, .inl (cI, 2, .inl lw)), (mr, .inl (cB, 6000, .inl wr)), (md, .inl (cB, 400, .inl dr))] := hD
      refine lv_aload_n hx hb d_M_run_19 rfl (lv_at hl 0 rfl) ?_
      refine va_get (D := D) (ci := 5) (v := .int 0) (C := R_M) (T := T_M) (N := 20) hx hb hg in_M hown hK hP 0 rfl rfl 0 (by decide) (hg _ gw_524) (fun _ h9 => h9) rfl d_M_run_20 ?_
      refine lv_if_le (tgt := 28) hx hb d_M_run_23 (by decide) (fun c_3 => ?_) (fun c_3 => ?_)
      · skip
        refine lv_aload_n hx hb d_M_run_28 rfl (lv_at hl 0 rfl) ?_
        refine lv_iconst (v := 0) hx hb d_M_run_29 (by decide) ?_
        refine tpi (y := nI 0) (rfl) ?_
        refine va_put (D := D) (ci := 5) (v := .int (nI 0)) (ty := .int) (C := R_M) (T := T_M) (N := 20) hx hb hg in_M ty_M tok_M nm_M hown hK hP hD hS 0 rfl rfl 16 (by decide) (hg _ gw_540) (fun _ h9 => h9) rfl (by decide +kernel) (rfl) (rfl) (Nat.le_of_ble_eq_true rfl) d_M_run_30 (fun H locs hP hD hS => ?_)
        have hP : va_P D CLS [(y, .inr (5, [.int 0, .int (nI bi), .int (nI ne), .int (nI li), .int (nI sp), .int (nI q), .ref ms, .ref mw, .ref mu, .ref mc, .ref mn, .int en, .int (nI sz), .ref mr, .int (nI wa), .ref mq, .int (nI 0), .ref md, .int at0, .int lk])), (ms, .inl (cI, 2, .inl st)), (mw, .inl (cI, 2, .inl lw)), (mr, .inl (cB, 6000, .inl wr)), (md, .inl (cB, 400, .inl dr))] H := hP
        have hD : va_D A [(y, .inr (5, [.int 0, .int (nI bi), .int (nI ne), .int (nI li), .int (nI sp), .int (nI q), .ref ms, .ref mw, .ref mu, .ref mc, .ref mn, .int en, .int (nI sz), .ref mr, .int (nI wa), .ref mq, .int (nI 0), .ref md, .int at0, .int lk])), (ms, .inl (cI, 2, .inl st)), (mw, .inl (cI, 2, .inl lw)), (mr, .inl (cB, 6000, .inl wr)), (md, .inl (cB, 400, .inl dr))] := hD
        refine lv_iload_n hx hb d_M_run_33 rfl (lv_at hl 1 rfl) ?_
        refine lv_istore_n (lv' := [(3, .int (nI n0)), (0, .ref y), (1, .int (nI n0)), (2, .int 0)]) hx hb d_M_run_34 rfl hl (by decide) rfl (fun ls hl => ?_)
        refine lv_aload_n hx hb d_M_run_35 rfl (lv_at hl 1 rfl) ?_
        refine va_get (D := D) (ci := 5) (v := .ref ms) (C := R_M) (T := T_M) (N := 20) hx hb hg in_M hown hK hP 0 rfl rfl 6 (by decide) (hg _ gw_530) (fun _ h9 => h9) rfl d_M_run_36 ?_
        refine lv_iconst (v := 0) hx hb d_M_run_39 (by decide) ?_
        refine va_iald hx hb hK hP 1 1 rfl rfl (vp_in_nI (n := 0) (by decide) (by decide)) d_M_run_40 ?_
        refine tpi (y := nI pl) (hst) ?_
        refine lv_istore (lv' := [(4, .int (nI pl)), (3, .int (nI n0)), (0, .ref y), (1, .int (nI n0)), (2, .int 0)]) hx hb d_M_run_41 hl (by decide) rfl (fun ls hl => ?_)
        have tail : ∀ (H : Heap) (locs : List Loc), va_P D CLS [(y, .inr (5, [.int 0, .int (nI bi), .int (nI ne), .int (nI li), .int (nI sp), .int (nI q), .ref ms, .ref mw, .ref mu, .ref mc, .ref mn, .int en, .int (nI sz), .ref mr, .int (nI wa), .ref mq, .int (nI (0 + m0)), .ref md, .int at0, .int lk])), (ms, .inl (cI, 2, .inl st)), (mw, .inl (cI, 2, .inl lw)), (mr, .inl (cB, 6000, .inl wr)), (md, .inl (cB, 400, .inl (fil dr 1 0 m0)))] H → va_D A [(y, .inr (5, [.int 0, .int (nI bi), .int (nI ne), .int (nI li), .int (nI sp), .int (nI q), .ref ms, .ref mw, .ref mu, .ref mc, .ref mn, .int en, .int (nI sz), .ref mr, .int (nI wa), .ref mq, .int (nI (0 + m0)), .ref md, .int at0, .int lk])), (ms, .inl (cI, 2, .inl st)), (mw, .inl (cI, 2, .inl lw)), (mr, .inl (cB, 6000, .inl wr)), (md, .inl (cB, 400, .inl (fil dr 1 0 m0)))] → va_S A s.heap H locs → ∀ (ls : Array Slot), lv_has ls 6 [(4, .int (nI (rac pl m0))), (3, .int (nI (rrc n0 pl m0))), (0, .ref y), (1, .int (nI n0)), (2, .int 0)] → W p l e (headSpec (WSY y_M_run b_M_run 6 (some .int)) ({ frames := 2, cells := 0, slots := 0, locals := 50 })).room s m ([.ref y, .int (nI n0), .int 0] : List Value).toArray below meth c H locs 0 0 (MQ below (QM (some (.int (0))) [(y, .inr (5, [.int th, .int (nI bi), .int (nI ne), .int (nI li), .int (nI sp), .int (nI q), .ref ms, .ref mw, .ref mu, .ref mc, .ref mn, .int en, .int (nI sz), .ref mr, .int (nI wa), .ref mq, .int la, .ref md, .int at0, .int lk])), (ms, .inl (cI, 2, .inl st)), (mw, .inl (cI, 2, .inl lw)), (mr, .inl (cB, 6000, .inl wr)), (md, .inl (cB, 400, .inl dr))] [(y, .inr (5, [.int 2, .int (nI bi), .int (nI ne), .int (nI li), .int (nI sp), .int (nI q), .ref ms, .ref mw, .ref mu, .ref mc, .ref mn, .int en, .int (nI sz), .ref mr, .int (nI wa), .ref mq, .int (nI (0 + m0 + 1 + wdt (rac pl m0))), .ref md, .int at0, .int lk])), (ms, .inl (cI, 2, .inl st)), (mw, .inl (cI, 2, .inl lw)), (mr, .inl (cB, 6000, .inl wr)), (md, .inl (cB, 400, .inl (flw (fil (fil dr 1 0 m0) 0 (0 + m0) 1) (nI (rrc n0 pl m0)) (wdt (rac pl m0)) (0 + m0 + 1) (wdt (rac pl m0)))))] D) ([.ref y, .int (nI n0), .int 0] : List Value).toArray s 0 0 (ad [(y, .inr (5, [.int th, .int (nI bi), .int (nI ne), .int (nI li), .int (nI sp), .int (nI q), .ref ms, .ref mw, .ref mu, .ref mc, .ref mn, .int en, .int (nI sz), .ref mr, .int (nI wa), .ref mq, .int la, .ref md, .int at0, .int lk])), (ms, .inl (cI, 2, .inl st)), (mw, .inl (cI, 2, .inl lw)), (mr, .inl (cB, 6000, .inl wr)), (md, .inl (cB, 400, .inl dr))])) (F0 m 92 ls []) := by
          intro H locs hP hD hS ls hl
          refine lv_iload hx hb d_M_run_92 (lv_at hl 0 rfl) ?_
          have hPc := hP.sub (ws' := []) [] rfl
          have hKc := hK.sub (tys' := []) [] rfl
          refine pci (va_runS (As := [.int (nI (rac pl m0))]) (rest := []) ⟨hx, hb, hml, hown, hg⟩ (c_M_widthOf l D (rac pl m0) (rac_lt hpl m0)) (va_cwS 1 hg (gS gw_619 gw_620 gw_7 gw_621) rfl rfl rfl (by decide +kernel) ⟨Nat.le_of_ble_eq_true rfl, Nat.le_of_ble_eq_true rfl⟩) ⟨fun a U g mk q => by obtain ⟨q0, qP, qK⟩ := q; exact ⟨q0, qP, va_K.moved (u := U) (U := U.calling g mk a) (Vm.Alike.refl U.vm) qK⟩, fun U hU hW => ⟨rfl, by rw [hU]; exact hPc, va_K.moved hW.alike hKc⟩⟩ rfl rfl hl.1 rfl (lv_room (Nat.le_of_ble_eq_true rfl)) d_M_run_94 (⟨Nat.le_of_ble_eq_true rfl, Nat.le_of_ble_eq_true rfl⟩)) ?_
          refine lv_istore (lv' := [(5, .int (nI (wdt (rac pl m0)))), (4, .int (nI (rac pl m0))), (3, .int (nI (rrc n0 pl m0))), (0, .ref y), (1, .int (nI n0)), (2, .int 0)]) hx hb d_M_run_97 hl (by decide) rfl (fun ls hl => ?_)
          refine lv_iload_n hx hb d_M_run_99 rfl (lv_at hl 5 rfl) ?_
          refine lv_if_eq (tgt := 115) hx hb d_M_run_100 (by decide) (fun c_4 => ?_) (fun c_4 => ?_)
          · skip
            refine lv_aload_n hx hb d_M_run_115 rfl (lv_at hl 3 rfl) ?_
            refine lv_iconst (v := 0) hx hb d_M_run_116 (by decide) ?_
            have hPc := hP.sub (ws' := [(y, .inr (5, [.int 0, .int (nI bi), .int (nI ne), .int (nI li), .int (nI sp), .int (nI q), .ref ms, .ref mw, .ref mu, .ref mc, .ref mn, .int en, .int (nI sz), .ref mr, .int (nI wa), .ref mq, .int (nI (0 + m0)), .ref md, .int at0, .int lk])), (md, .inl (cB, 400, .inl (fil dr 1 0 m0)))]) [0, 4] rfl
            have hDc := hD.sub (ws' := [(y, .inr (5, [.int 0, .int (nI bi), .int (nI ne), .int (nI li), .int (nI sp), .int (nI q), .ref ms, .ref mw, .ref mu, .ref mc, .ref mn, .int en, .int (nI sz), .ref mr, .int (nI wa), .ref mq, .int (nI (0 + m0)), .ref md, .int at0, .int lk])), (md, .inl (cB, 400, .inl (fil dr 1 0 m0)))]) [0, 4] (by decide) rfl
            have hKc := hK.sub (tys' := [(cB, .byte)]) [0] rfl
            refine mcv (va_runV (As := [.int 0]) (rest := []) ⟨hx, hb, hml, hown, hg⟩ (c_M_lay l D y ms mw mu mc mn mr mq md bi ne li sp q sz wa 0 en la at0 lk cB (fil dr 1 0 m0) (0 + m0) 0 (Or.inl rfl) (by omega)) (cwV 1 hg (gV gw_598 gw_600 gs_14 gw_7 gw_601) rfl rfl rfl (by decide +kernel) ⟨Nat.le_of_ble_eq_true rfl, Nat.le_of_ble_eq_true rfl⟩) ⟨fun a U g mk q => by obtain ⟨q0, qP, qK, qD⟩ := q; exact ⟨q0, qP, va_K.moved (u := U) (U := U.calling g mk a) (Vm.Alike.refl U.vm) qK, qD⟩, va_recv hKc hPc (ci := 5) (q0 := 0) rfl rfl, fun U hU hW => ⟨rfl, by rw [hU]; exact hPc, va_K.moved hW.alike hKc, hDc.weaken (fun _ _ _ _ => trivial)⟩⟩ rfl rfl hl.1 rfl (lv_room (Nat.le_of_ble_eq_true rfl)) d_M_run_117 (⟨Nat.le_of_ble_eq_true rfl, Nat.le_of_ble_eq_true rfl⟩)) hS hP hD [0, 4] rfl rfl rfl (fun H locs hP hD hS => ?_)
            have hP : va_P D CLS [(y, .inr (5, [.int 0, .int (nI bi), .int (nI ne), .int (nI li), .int (nI sp), .int (nI q), .ref ms, .ref mw, .ref mu, .ref mc, .ref mn, .int en, .int (nI sz), .ref mr, .int (nI wa), .ref mq, .int (nI (0 + m0 + 1)), .ref md, .int at0, .int lk])), (ms, .inl (cI, 2, .inl st)), (mw, .inl (cI, 2, .inl lw)), (mr, .inl (cB, 6000, .inl wr)), (md, .inl (cB, 400, .inl (fil (fil dr 1 0 m0) 0 (0 + m0) 1)))] H := hP
            have hD : va_D A [(y, .inr (5, [.int 0, .int (nI bi), .int (nI ne), .int (nI li), .int (nI sp), .int (nI q), .ref ms, .ref mw, .ref mu, .ref mc, .ref mn, .int en, .int (nI sz), .ref mr, .int (nI wa), .ref mq, .int (nI (0 + m0 + 1)), .ref md, .int at0, .int lk])), (ms, .inl (cI, 2, .inl st)), (mw, .inl (cI, 2, .inl lw)), (mr, .inl (cB, 6000, .inl wr)), (md, .inl (cB, 400, .inl (fil (fil dr 1 0 m0) 0 (0 + m0) 1)))] := hD
            refine lv_aload_n hx hb d_M_run_120 rfl (lv_at hl 3 rfl) ?_
            refine lv_iload_n hx hb d_M_run_121 rfl (lv_at hl 2 rfl) ?_
            refine lv_iload hx hb d_M_run_122 (lv_at hl 0 rfl) ?_
            have hPc := hP.sub (ws' := [(y, .inr (5, [.int 0, .int (nI bi), .int (nI ne), .int (nI li), .int (nI sp), .int (nI q), .ref ms, .ref mw, .ref mu, .ref mc, .ref mn, .int en, .int (nI sz), .ref mr, .int (nI wa), .ref mq, .int (nI (0 + m0 + 1)), .ref md, .int at0, .int lk])), (md, .inl (cB, 400, .inl (fil (fil dr 1 0 m0) 0 (0 + m0) 1)))]) [0, 4] rfl
            have hDc := hD.sub (ws' := [(y, .inr (5, [.int 0, .int (nI bi), .int (nI ne), .int (nI li), .int (nI sp), .int (nI q), .ref ms, .ref mw, .ref mu, .ref mc, .ref mn, .int en, .int (nI sz), .ref mr, .int (nI wa), .ref mq, .int (nI (0 + m0 + 1)), .ref md, .int at0, .int lk])), (md, .inl (cB, 400, .inl (fil (fil dr 1 0 m0) 0 (0 + m0) 1)))]) [0, 4] (by decide) rfl
            have hKc := hK.sub (tys' := [(cB, .byte)]) [0] rfl
            refine mcv (va_runV (As := [.int (nI (rrc n0 pl m0)), .int (nI (wdt (rac pl m0)))]) (rest := []) ⟨hx, hb, hml, hown, hg⟩ (c_M_layLow l D y ms mw mu mc mn mr mq md bi ne li sp q sz wa 0 en la at0 lk cB (fil (fil dr 1 0 m0) 0 (0 + m0) 1) (0 + m0 + 1) (nI (rrc n0 pl m0)) (wdt (rac pl m0)) (by omega) (by omega)) (cwV 2 hg (gV gw_602 gw_604 gs_15 gw_7 gw_605) rfl rfl rfl (by decide +kernel) ⟨Nat.le_of_ble_eq_true rfl, Nat.le_of_ble_eq_true rfl⟩) ⟨fun a U g mk q => by obtain ⟨q0, qP, qK, qD⟩ := q; exact ⟨q0, qP, va_K.moved (u := U) (U := U.calling g mk a) (Vm.Alike.refl U.vm) qK, qD⟩, va_recv hKc hPc (ci := 5) (q0 := 0) rfl rfl, fun U hU hW => ⟨rfl, by rw [hU]; exact hPc, va_K.moved hW.alike hKc, hDc.weaken (fun _ _ _ _ => trivial)⟩⟩ rfl rfl hl.1 rfl (lv_room (Nat.le_of_ble_eq_true rfl)) d_M_run_124 (⟨Nat.le_of_ble_eq_true rfl, Nat.le_of_ble_eq_true rfl⟩)) hS hP hD [0, 4] rfl rfl rfl (fun H locs hP hD hS => ?_)
            have hP : va_P D CLS [(y, .inr (5, [.int 0, .int (nI bi), .int (nI ne), .int (nI li), .int (nI sp), .int (nI q), .ref ms, .ref mw, .ref mu, .ref mc, .ref mn, .int en, .int (nI sz), .ref mr, .int (nI wa), .ref mq, .int (nI (0 + m0 + 1 + wdt (rac pl m0))), .ref md, .int at0, .int lk])), (ms, .inl (cI, 2, .inl st)), (mw, .inl (cI, 2, .inl lw)), (mr, .inl (cB, 6000, .inl wr)), (md, .inl (cB, 400, .inl (flw (fil (fil dr 1 0 m0) 0 (0 + m0) 1) (nI (rrc n0 pl m0)) (wdt (rac pl m0)) (0 + m0 + 1) (wdt (rac pl m0)))))] H := hP
            have hD : va_D A [(y, .inr (5, [.int 0, .int (nI bi), .int (nI ne), .int (nI li), .int (nI sp), .int (nI q), .ref ms, .ref mw, .ref mu, .ref mc, .ref mn, .int en, .int (nI sz), .ref mr, .int (nI wa), .ref mq, .int (nI (0 + m0 + 1 + wdt (rac pl m0))), .ref md, .int at0, .int lk])), (ms, .inl (cI, 2, .inl st)), (mw, .inl (cI, 2, .inl lw)), (mr, .inl (cB, 6000, .inl wr)), (md, .inl (cB, 400, .inl (flw (fil (fil dr 1 0 m0) 0 (0 + m0) 1) (nI (rrc n0 pl m0)) (wdt (rac pl m0)) (0 + m0 + 1) (wdt (rac pl m0)))))] := hD
            refine lv_iload hx hb d_M_run_127 (lv_at hl 1 rfl) ?_
            refine lv_if_le (tgt := 139) hx hb d_M_run_129 (by decide) (fun c_5 => ?_) (fun c_5 => ?_)
            · skip
              have hr0 : rac pl m0 = 0 := Nat.eq_zero_of_not_pos (fun q9 => nI_nle q9 (by have := rac_lt hpl m0; omega) c_5)
              refine lv_iload hx hb d_M_run_139 (lv_at hl 1 rfl) ?_
              refine tpi (y := nI (rac pl m0 - 1)) (by rw [hr0]) ?_
              refine lv_istore (lv' := [(4, .int (nI (rac pl m0 - 1))), (5, .int (nI (wdt (rac pl m0)))), (3, .int (nI (rrc n0 pl m0))), (0, .ref y), (1, .int (nI n0)), (2, .int 0)]) hx hb d_M_run_141 hl (by decide) rfl (fun ls hl => ?_)
              refine lv_aload_n hx hb d_M_run_143 rfl (lv_at hl 3 rfl) ?_
              refine lv_aload_n hx hb d_M_run_144 rfl (lv_at hl 3 rfl) ?_
              have hPc := hP.sub (ws' := [(y, .inr (5, [.int 0, .int (nI bi), .int (nI ne), .int (nI li), .int (nI sp), .int (nI q), .ref ms, .ref mw, .ref mu, .ref mc, .ref mn, .int en, .int (nI sz), .ref mr, .int (nI wa), .ref mq, .int (nI (0 + m0 + 1 + wdt (rac pl m0))), .ref md, .int at0, .int lk]))]) [0] rfl
              have hKc := hK.sub (tys' := []) [] rfl
              refine pci (va_runV (As := []) (rest := [.ref y]) ⟨hx, hb, hml, hown, hg⟩ (c_M_hasRoom l D y ms mw mu mc mn mr mq md bi ne li sp q sz wa 0 en (nI (0 + m0 + 1 + wdt (rac pl m0))) at0 lk (0 + m0 + 1 + wdt (rac pl m0)) hsz (by omega)) (cwV 0 hg (gV gw_606 gw_608 gs_16 gw_7 gw_609) rfl rfl rfl (by decide +kernel) ⟨Nat.le_of_ble_eq_true rfl, Nat.le_of_ble_eq_true rfl⟩) ⟨fun a U g mk q => by obtain ⟨q0, qP, qK⟩ := q; exact ⟨q0, qP, va_K.moved (u := U) (U := U.calling g mk a) (Vm.Alike.refl U.vm) qK⟩, va_recv hKc hPc (ci := 5) (q0 := 0) rfl rfl, fun U hU hW => ⟨rfl, by rw [hU]; exact hPc, va_K.moved hW.alike hKc⟩⟩ rfl rfl hl.1 rfl (lv_room (Nat.le_of_ble_eq_true rfl)) d_M_run_145 (⟨Nat.le_of_ble_eq_true rfl, Nat.le_of_ble_eq_true rfl⟩)) ?_
              refine tpi (y := 0) (if_neg (by omega)) ?_
              refine lv_if_eq (tgt := 155) hx hb d_M_run_148 (by decide) (fun c_6 => ?_) (fun c_6 => ?_)
              · skip
                refine lv_iconst (v := 2) hx hb d_M_run_155 (by decide) ?_
                refine va_put (D := D) (ci := 5) (v := .int 2) (ty := .int) (C := R_M) (T := T_M) (N := 20) hx hb hg in_M ty_M tok_M nm_M hown hK hP hD hS 0 rfl rfl 0 (by decide) (hg _ gw_524) (fun _ h9 => h9) rfl (by decide +kernel) (rfl) (rfl) (Nat.le_of_ble_eq_true rfl) d_M_run_156 (fun H locs hP hD hS => ?_)
                have hP : va_P D CLS [(y, .inr (5, [.int 2, .int (nI bi), .int (nI ne), .int (nI li), .int (nI sp), .int (nI q), .ref ms, .ref mw, .ref mu, .ref mc, .ref mn, .int en, .int (nI sz), .ref mr, .int (nI wa), .ref mq, .int (nI (0 + m0 + 1 + wdt (rac pl m0))), .ref md, .int at0, .int lk])), (ms, .inl (cI, 2, .inl st)), (mw, .inl (cI, 2, .inl lw)), (mr, .inl (cB, 6000, .inl wr)), (md, .inl (cB, 400, .inl (flw (fil (fil dr 1 0 m0) 0 (0 + m0) 1) (nI (rrc n0 pl m0)) (wdt (rac pl m0)) (0 + m0 + 1) (wdt (rac pl m0)))))] H := hP
                have hD : va_D A [(y, .inr (5, [.int 2, .int (nI bi), .int (nI ne), .int (nI li), .int (nI sp), .int (nI q), .ref ms, .ref mw, .ref mu, .ref mc, .ref mn, .int en, .int (nI sz), .ref mr, .int (nI wa), .ref mq, .int (nI (0 + m0 + 1 + wdt (rac pl m0))), .ref md, .int at0, .int lk])), (ms, .inl (cI, 2, .inl st)), (mw, .inl (cI, 2, .inl lw)), (mr, .inl (cB, 6000, .inl wr)), (md, .inl (cB, 400, .inl (flw (fil (fil dr 1 0 m0) 0 (0 + m0) 1) (nI (rrc n0 pl m0)) (wdt (rac pl m0)) (0 + m0 + 1) (wdt (rac pl m0)))))] := hD
                refine lv_aload_n hx hb d_M_run_159 rfl (lv_at hl 3 rfl) ?_
                refine va_get (D := D) (ci := 5) (v := .int 2) (C := R_M) (T := T_M) (N := 20) hx hb hg in_M hown hK hP 0 rfl rfl 0 (by decide) (hg _ gw_524) (fun _ h9 => h9) rfl d_M_run_160 ?_
                refine lv_if_le (tgt := 168) hx hb d_M_run_163 (by decide) (fun c_7 => ?_) (fun c_7 => ?_)
                · skip
                  exact absurd c_7 (by decide)
                · skip
                  refine lv_iconst (v := 0) hx hb d_M_run_166 (by decide) ?_
                  exact W.iret (v := 0) hx hb hr (fun t ht hW => ⟨rfl, by rw [ht]; exact hP, (hAe ▸ hS).F ht⟩) (hAe ▸ hS).2.2 d_M_run_167
              · skip
                exact absurd rfl c_6
            · skip
              have hr0 : 0 < rac pl m0 := Nat.pos_of_ne_zero (fun q9 => c_5 (by rw [q9]; decide))
              refine lv_iload hx hb d_M_run_132 (lv_at hl 1 rfl) ?_
              refine lv_iconst (v := 1) hx hb d_M_run_134 (by decide) ?_
              refine lv_isub hx hb d_M_run_135 ?_
              refine tpi (y := nI (rac pl m0 - 1)) (pk_sub (b := 1) (by omega)) ?_
              refine lv_goto (tgt := 141) hx hb d_M_run_136 (by decide) ?_
              refine lv_istore (lv' := [(4, .int (nI (rac pl m0 - 1))), (5, .int (nI (wdt (rac pl m0)))), (3, .int (nI (rrc n0 pl m0))), (0, .ref y), (1, .int (nI n0)), (2, .int 0)]) hx hb d_M_run_141 hl (by decide) rfl (fun ls hl => ?_)
              refine lv_aload_n hx hb d_M_run_143 rfl (lv_at hl 3 rfl) ?_
              refine lv_aload_n hx hb d_M_run_144 rfl (lv_at hl 3 rfl) ?_
              have hPc := hP.sub (ws' := [(y, .inr (5, [.int 0, .int (nI bi), .int (nI ne), .int (nI li), .int (nI sp), .int (nI q), .ref ms, .ref mw, .ref mu, .ref mc, .ref mn, .int en, .int (nI sz), .ref mr, .int (nI wa), .ref mq, .int (nI (0 + m0 + 1 + wdt (rac pl m0))), .ref md, .int at0, .int lk]))]) [0] rfl
              have hKc := hK.sub (tys' := []) [] rfl
              refine pci (va_runV (As := []) (rest := [.ref y]) ⟨hx, hb, hml, hown, hg⟩ (c_M_hasRoom l D y ms mw mu mc mn mr mq md bi ne li sp q sz wa 0 en (nI (0 + m0 + 1 + wdt (rac pl m0))) at0 lk (0 + m0 + 1 + wdt (rac pl m0)) hsz (by omega)) (cwV 0 hg (gV gw_606 gw_608 gs_16 gw_7 gw_609) rfl rfl rfl (by decide +kernel) ⟨Nat.le_of_ble_eq_true rfl, Nat.le_of_ble_eq_true rfl⟩) ⟨fun a U g mk q => by obtain ⟨q0, qP, qK⟩ := q; exact ⟨q0, qP, va_K.moved (u := U) (U := U.calling g mk a) (Vm.Alike.refl U.vm) qK⟩, va_recv hKc hPc (ci := 5) (q0 := 0) rfl rfl, fun U hU hW => ⟨rfl, by rw [hU]; exact hPc, va_K.moved hW.alike hKc⟩⟩ rfl rfl hl.1 rfl (lv_room (Nat.le_of_ble_eq_true rfl)) d_M_run_145 (⟨Nat.le_of_ble_eq_true rfl, Nat.le_of_ble_eq_true rfl⟩)) ?_
              refine tpi (y := 0) (if_neg (by omega)) ?_
              refine lv_if_eq (tgt := 155) hx hb d_M_run_148 (by decide) (fun c_8 => ?_) (fun c_8 => ?_)
              · skip
                refine lv_iconst (v := 2) hx hb d_M_run_155 (by decide) ?_
                refine va_put (D := D) (ci := 5) (v := .int 2) (ty := .int) (C := R_M) (T := T_M) (N := 20) hx hb hg in_M ty_M tok_M nm_M hown hK hP hD hS 0 rfl rfl 0 (by decide) (hg _ gw_524) (fun _ h9 => h9) rfl (by decide +kernel) (rfl) (rfl) (Nat.le_of_ble_eq_true rfl) d_M_run_156 (fun H locs hP hD hS => ?_)
                have hP : va_P D CLS [(y, .inr (5, [.int 2, .int (nI bi), .int (nI ne), .int (nI li), .int (nI sp), .int (nI q), .ref ms, .ref mw, .ref mu, .ref mc, .ref mn, .int en, .int (nI sz), .ref mr, .int (nI wa), .ref mq, .int (nI (0 + m0 + 1 + wdt (rac pl m0))), .ref md, .int at0, .int lk])), (ms, .inl (cI, 2, .inl st)), (mw, .inl (cI, 2, .inl lw)), (mr, .inl (cB, 6000, .inl wr)), (md, .inl (cB, 400, .inl (flw (fil (fil dr 1 0 m0) 0 (0 + m0) 1) (nI (rrc n0 pl m0)) (wdt (rac pl m0)) (0 + m0 + 1) (wdt (rac pl m0)))))] H := hP
                have hD : va_D A [(y, .inr (5, [.int 2, .int (nI bi), .int (nI ne), .int (nI li), .int (nI sp), .int (nI q), .ref ms, .ref mw, .ref mu, .ref mc, .ref mn, .int en, .int (nI sz), .ref mr, .int (nI wa), .ref mq, .int (nI (0 + m0 + 1 + wdt (rac pl m0))), .ref md, .int at0, .int lk])), (ms, .inl (cI, 2, .inl st)), (mw, .inl (cI, 2, .inl lw)), (mr, .inl (cB, 6000, .inl wr)), (md, .inl (cB, 400, .inl (flw (fil (fil dr 1 0 m0) 0 (0 + m0) 1) (nI (rrc n0 pl m0)) (wdt (rac pl m0)) (0 + m0 + 1) (wdt (rac pl m0)))))] := hD
                refine lv_aload_n hx hb d_M_run_159 rfl (lv_at hl 3 rfl) ?_
                refine va_get (D := D) (ci := 5) (v := .int 2) (C := R_M) (T := T_M) (N := 20) hx hb hg in_M hown hK hP 0 rfl rfl 0 (by decide) (hg _ gw_524) (fun _ h9 => h9) rfl d_M_run_160 ?_
                refine lv_if_le (tgt := 168) hx hb d_M_run_163 (by decide) (fun c_9 => ?_) (fun c_9 => ?_)
                · skip
                  exact absurd c_9 (by decide)
                · skip
                  refine lv_iconst (v := 0) hx hb d_M_run_166 (by decide) ?_
                  exact W.iret (v := 0) hx hb hr (fun t ht hW => ⟨rfl, by rw [ht]; exact hP, (hAe ▸ hS).F ht⟩) (hAe ▸ hS).2.2 d_M_run_167
              · skip
                exact absurd rfl c_8
          · skip
            exact absurd rfl c_4
        have loop : ∀ (d j : Nat), j + d = m0 → ∀ (H : Heap) (locs : List Loc), va_P D CLS [(y, .inr (5, [.int 0, .int (nI bi), .int (nI ne), .int (nI li), .int (nI sp), .int (nI q), .ref ms, .ref mw, .ref mu, .ref mc, .ref mn, .int en, .int (nI sz), .ref mr, .int (nI wa), .ref mq, .int (nI (0 + j)), .ref md, .int at0, .int lk])), (ms, .inl (cI, 2, .inl st)), (mw, .inl (cI, 2, .inl lw)), (mr, .inl (cB, 6000, .inl wr)), (md, .inl (cB, 400, .inl (fil dr 1 0 j)))] H → va_D A [(y, .inr (5, [.int 0, .int (nI bi), .int (nI ne), .int (nI li), .int (nI sp), .int (nI q), .ref ms, .ref mw, .ref mu, .ref mc, .ref mn, .int en, .int (nI sz), .ref mr, .int (nI wa), .ref mq, .int (nI (0 + j)), .ref md, .int at0, .int lk])), (ms, .inl (cI, 2, .inl st)), (mw, .inl (cI, 2, .inl lw)), (mr, .inl (cB, 6000, .inl wr)), (md, .inl (cB, 400, .inl (fil dr 1 0 j)))] → va_S A s.heap H locs → ∀ (ls : Array Slot), lv_has ls 6 [(4, .int (nI (rac pl j))), (3, .int (nI (rrc n0 pl j))), (0, .ref y), (1, .int (nI n0)), (2, .int 0)] → W p l e (headSpec (WSY y_M_run b_M_run 6 (some .int)) ({ frames := 2, cells := 0, slots := 0, locals := 50 })).room s m ([.ref y, .int (nI n0), .int 0] : List Value).toArray below meth c H locs 0 0 (MQ below (QM (some (.int (0))) [(y, .inr (5, [.int th, .int (nI bi), .int (nI ne), .int (nI li), .int (nI sp), .int (nI q), .ref ms, .ref mw, .ref mu, .ref mc, .ref mn, .int en, .int (nI sz), .ref mr, .int (nI wa), .ref mq, .int la, .ref md, .int at0, .int lk])), (ms, .inl (cI, 2, .inl st)), (mw, .inl (cI, 2, .inl lw)), (mr, .inl (cB, 6000, .inl wr)), (md, .inl (cB, 400, .inl dr))] [(y, .inr (5, [.int 2, .int (nI bi), .int (nI ne), .int (nI li), .int (nI sp), .int (nI q), .ref ms, .ref mw, .ref mu, .ref mc, .ref mn, .int en, .int (nI sz), .ref mr, .int (nI wa), .ref mq, .int (nI (0 + m0 + 1 + wdt (rac pl m0))), .ref md, .int at0, .int lk])), (ms, .inl (cI, 2, .inl st)), (mw, .inl (cI, 2, .inl lw)), (mr, .inl (cB, 6000, .inl wr)), (md, .inl (cB, 400, .inl (flw (fil (fil dr 1 0 m0) 0 (0 + m0) 1) (nI (rrc n0 pl m0)) (wdt (rac pl m0)) (0 + m0 + 1) (wdt (rac pl m0)))))] D) ([.ref y, .int (nI n0), .int 0] : List Value).toArray s 0 0 (ad [(y, .inr (5, [.int th, .int (nI bi), .int (nI ne), .int (nI li), .int (nI sp), .int (nI q), .ref ms, .ref mw, .ref mu, .ref mc, .ref mn, .int en, .int (nI sz), .ref mr, .int (nI wa), .ref mq, .int la, .ref md, .int at0, .int lk])), (ms, .inl (cI, 2, .inl st)), (mw, .inl (cI, 2, .inl lw)), (mr, .inl (cB, 6000, .inl wr)), (md, .inl (cB, 400, .inl dr))])) (F0 m 43 ls []) := by
          intro d
          induction d with
          | zero =>
            intro j hj H locs hP hD hS ls hl
            obtain rfl : j = m0 := by omega
            have hwj := wdt_le (rac pl j) (rac_lt hpl j)
            have hpj := pw15 hwj
            have hrj := rrc_le n0 pl j
            have hlj := rac_lt hpl j
            refine lv_iload_n hx hb d_M_run_43 rfl (lv_at hl 1 rfl) ?_
            refine lv_iload hx hb d_M_run_44 (lv_at hl 0 rfl) ?_
            have hPc := hP.sub (ws' := []) [] rfl
            have hKc := hK.sub (tys' := []) [] rfl
            refine pci (va_runS (As := [.int (nI (rac pl j))]) (rest := [.int (nI (rrc n0 pl j))]) ⟨hx, hb, hml, hown, hg⟩ (c_M_widthOf l D (rac pl j) (rac_lt hpl j)) (va_cwS 1 hg (gS gw_619 gw_620 gw_7 gw_621) rfl rfl rfl (by decide +kernel) ⟨Nat.le_of_ble_eq_true rfl, Nat.le_of_ble_eq_true rfl⟩) ⟨fun a U g mk q => by obtain ⟨q0, qP, qK⟩ := q; exact ⟨q0, qP, va_K.moved (u := U) (U := U.calling g mk a) (Vm.Alike.refl U.vm) qK⟩, fun U hU hW => ⟨rfl, by rw [hU]; exact hPc, va_K.moved hW.alike hKc⟩⟩ rfl rfl hl.1 rfl (lv_room (Nat.le_of_ble_eq_true rfl)) d_M_run_46 (⟨Nat.le_of_ble_eq_true rfl, Nat.le_of_ble_eq_true rfl⟩)) ?_
            have hPc := hP.sub (ws' := []) [] rfl
            have hKc := hK.sub (tys' := []) [] rfl
            refine pci (va_runS (As := [.int (nI (wdt (rac pl j)))]) (rest := [.int (nI (rrc n0 pl j))]) ⟨hx, hb, hml, hown, hg⟩ (c_M_power l D (wdt (rac pl j)) (by omega)) (va_cwS 1 hg (gS gw_517 gw_518 gw_7 gw_519) rfl rfl rfl (by decide +kernel) ⟨Nat.le_of_ble_eq_true rfl, Nat.le_of_ble_eq_true rfl⟩) ⟨fun a U g mk q => by obtain ⟨q0, qP, qK⟩ := q; exact ⟨q0, qP, va_K.moved (u := U) (U := U.calling g mk a) (Vm.Alike.refl U.vm) qK⟩, fun U hU hW => ⟨rfl, by rw [hU]; exact hPc, va_K.moved hW.alike hKc⟩⟩ rfl rfl hl.1 rfl (lv_room (Nat.le_of_ble_eq_true rfl)) d_M_run_49 (⟨Nat.le_of_ble_eq_true rfl, Nat.le_of_ble_eq_true rfl⟩)) ?_
            refine lv_icmp_lt (tgt := 92) hx hb d_M_run_52 (by decide) (fun c_10 => ?_) (fun c_10 => ?_)
            · skip
              exact tail H locs hP hD hS ls (lv_sub hl [0, 1, 2, 3, 4] rfl)
            · skip
              exact absurd ((nI_ltI (by omega) (by omega)).mpr hm2) c_10
          | succ d ih =>
            intro j hj H locs hP hD hS ls hl
            have hwj := wdt_le (rac pl j) (rac_lt hpl j)
            have hpj := pw15 hwj
            have hrj := rrc_le n0 pl j
            have hlj := rac_lt hpl j
            refine lv_iload_n hx hb d_M_run_43 rfl (lv_at hl 1 rfl) ?_
            refine lv_iload hx hb d_M_run_44 (lv_at hl 0 rfl) ?_
            have hPc := hP.sub (ws' := []) [] rfl
            have hKc := hK.sub (tys' := []) [] rfl
            refine pci (va_runS (As := [.int (nI (rac pl j))]) (rest := [.int (nI (rrc n0 pl j))]) ⟨hx, hb, hml, hown, hg⟩ (c_M_widthOf l D (rac pl j) (rac_lt hpl j)) (va_cwS 1 hg (gS gw_619 gw_620 gw_7 gw_621) rfl rfl rfl (by decide +kernel) ⟨Nat.le_of_ble_eq_true rfl, Nat.le_of_ble_eq_true rfl⟩) ⟨fun a U g mk q => by obtain ⟨q0, qP, qK⟩ := q; exact ⟨q0, qP, va_K.moved (u := U) (U := U.calling g mk a) (Vm.Alike.refl U.vm) qK⟩, fun U hU hW => ⟨rfl, by rw [hU]; exact hPc, va_K.moved hW.alike hKc⟩⟩ rfl rfl hl.1 rfl (lv_room (Nat.le_of_ble_eq_true rfl)) d_M_run_46 (⟨Nat.le_of_ble_eq_true rfl, Nat.le_of_ble_eq_true rfl⟩)) ?_
            have hPc := hP.sub (ws' := []) [] rfl
            have hKc := hK.sub (tys' := []) [] rfl
            refine pci (va_runS (As := [.int (nI (wdt (rac pl j)))]) (rest := [.int (nI (rrc n0 pl j))]) ⟨hx, hb, hml, hown, hg⟩ (c_M_power l D (wdt (rac pl j)) (by omega)) (va_cwS 1 hg (gS gw_517 gw_518 gw_7 gw_519) rfl rfl rfl (by decide +kernel) ⟨Nat.le_of_ble_eq_true rfl, Nat.le_of_ble_eq_true rfl⟩) ⟨fun a U g mk q => by obtain ⟨q0, qP, qK⟩ := q; exact ⟨q0, qP, va_K.moved (u := U) (U := U.calling g mk a) (Vm.Alike.refl U.vm) qK⟩, fun U hU hW => ⟨rfl, by rw [hU]; exact hPc, va_K.moved hW.alike hKc⟩⟩ rfl rfl hl.1 rfl (lv_room (Nat.le_of_ble_eq_true rfl)) d_M_run_49 (⟨Nat.le_of_ble_eq_true rfl, Nat.le_of_ble_eq_true rfl⟩)) ?_
            refine lv_icmp_lt (tgt := 92) hx hb d_M_run_52 (by decide) (fun c_11 => ?_) (fun c_11 => ?_)
            · skip
              exact absurd ((nI_ltI (by omega) (by omega)).mp c_11) (by have := hm1 j (by omega); omega)
            · skip
              refine lv_aload_n hx hb d_M_run_55 rfl (lv_at hl 2 rfl) ?_
              refine lv_iconst (v := 1) hx hb d_M_run_56 (by decide) ?_
              have hPc := hP.sub (ws' := [(y, .inr (5, [.int 0, .int (nI bi), .int (nI ne), .int (nI li), .int (nI sp), .int (nI q), .ref ms, .ref mw, .ref mu, .ref mc, .ref mn, .int en, .int (nI sz), .ref mr, .int (nI wa), .ref mq, .int (nI (0 + j)), .ref md, .int at0, .int lk])), (md, .inl (cB, 400, .inl (fil dr 1 0 j)))]) [0, 4] rfl
              have hDc := hD.sub (ws' := [(y, .inr (5, [.int 0, .int (nI bi), .int (nI ne), .int (nI li), .int (nI sp), .int (nI q), .ref ms, .ref mw, .ref mu, .ref mc, .ref mn, .int en, .int (nI sz), .ref mr, .int (nI wa), .ref mq, .int (nI (0 + j)), .ref md, .int at0, .int lk])), (md, .inl (cB, 400, .inl (fil dr 1 0 j)))]) [0, 4] (by decide) rfl
              have hKc := hK.sub (tys' := [(cB, .byte)]) [0] rfl
              refine mcv (va_runV (As := [.int 1]) (rest := []) ⟨hx, hb, hml, hown, hg⟩ (c_M_lay l D y ms mw mu mc mn mr mq md bi ne li sp q sz wa 0 en la at0 lk cB (fil dr 1 0 j) (0 + j) 1 (Or.inr rfl) (by omega)) (cwV 1 hg (gV gw_598 gw_600 gs_14 gw_7 gw_601) rfl rfl rfl (by decide +kernel) ⟨Nat.le_of_ble_eq_true rfl, Nat.le_of_ble_eq_true rfl⟩) ⟨fun a U g mk q => by obtain ⟨q0, qP, qK, qD⟩ := q; exact ⟨q0, qP, va_K.moved (u := U) (U := U.calling g mk a) (Vm.Alike.refl U.vm) qK, qD⟩, va_recv hKc hPc (ci := 5) (q0 := 0) rfl rfl, fun U hU hW => ⟨rfl, by rw [hU]; exact hPc, va_K.moved hW.alike hKc, hDc.weaken (fun _ _ _ _ => trivial)⟩⟩ rfl rfl hl.1 rfl (lv_room (Nat.le_of_ble_eq_true rfl)) d_M_run_57 (⟨Nat.le_of_ble_eq_true rfl, Nat.le_of_ble_eq_true rfl⟩)) hS hP hD [0, 4] rfl rfl rfl (fun H locs hP hD hS => ?_)
              have hP : va_P D CLS [(y, .inr (5, [.int 0, .int (nI bi), .int (nI ne), .int (nI li), .int (nI sp), .int (nI q), .ref ms, .ref mw, .ref mu, .ref mc, .ref mn, .int en, .int (nI sz), .ref mr, .int (nI wa), .ref mq, .int (nI (0 + (j + 1))), .ref md, .int at0, .int lk])), (ms, .inl (cI, 2, .inl st)), (mw, .inl (cI, 2, .inl lw)), (mr, .inl (cB, 6000, .inl wr)), (md, .inl (cB, 400, .inl (fil dr 1 0 (j + 1))))] H := hP
              have hD : va_D A [(y, .inr (5, [.int 0, .int (nI bi), .int (nI ne), .int (nI li), .int (nI sp), .int (nI q), .ref ms, .ref mw, .ref mu, .ref mc, .ref mn, .int en, .int (nI sz), .ref mr, .int (nI wa), .ref mq, .int (nI (0 + (j + 1))), .ref md, .int at0, .int lk])), (ms, .inl (cI, 2, .inl st)), (mw, .inl (cI, 2, .inl lw)), (mr, .inl (cB, 6000, .inl wr)), (md, .inl (cB, 400, .inl (fil dr 1 0 (j + 1))))] := hD
              refine lv_iload_n hx hb d_M_run_60 rfl (lv_at hl 1 rfl) ?_
              refine lv_iload hx hb d_M_run_61 (lv_at hl 0 rfl) ?_
              have hPc := hP.sub (ws' := []) [] rfl
              have hKc := hK.sub (tys' := []) [] rfl
              refine pci (va_runS (As := [.int (nI (rac pl j))]) (rest := [.int (nI (rrc n0 pl j))]) ⟨hx, hb, hml, hown, hg⟩ (c_M_widthOf l D (rac pl j) (rac_lt hpl j)) (va_cwS 1 hg (gS gw_619 gw_620 gw_7 gw_621) rfl rfl rfl (by decide +kernel) ⟨Nat.le_of_ble_eq_true rfl, Nat.le_of_ble_eq_true rfl⟩) ⟨fun a U g mk q => by obtain ⟨q0, qP, qK⟩ := q; exact ⟨q0, qP, va_K.moved (u := U) (U := U.calling g mk a) (Vm.Alike.refl U.vm) qK⟩, fun U hU hW => ⟨rfl, by rw [hU]; exact hPc, va_K.moved hW.alike hKc⟩⟩ rfl rfl hl.1 rfl (lv_room (Nat.le_of_ble_eq_true rfl)) d_M_run_63 (⟨Nat.le_of_ble_eq_true rfl, Nat.le_of_ble_eq_true rfl⟩)) ?_
              have hPc := hP.sub (ws' := []) [] rfl
              have hKc := hK.sub (tys' := []) [] rfl
              refine pci (va_runS (As := [.int (nI (wdt (rac pl j)))]) (rest := [.int (nI (rrc n0 pl j))]) ⟨hx, hb, hml, hown, hg⟩ (c_M_power l D (wdt (rac pl j)) (by omega)) (va_cwS 1 hg (gS gw_517 gw_518 gw_7 gw_519) rfl rfl rfl (by decide +kernel) ⟨Nat.le_of_ble_eq_true rfl, Nat.le_of_ble_eq_true rfl⟩) ⟨fun a U g mk q => by obtain ⟨q0, qP, qK⟩ := q; exact ⟨q0, qP, va_K.moved (u := U) (U := U.calling g mk a) (Vm.Alike.refl U.vm) qK⟩, fun U hU hW => ⟨rfl, by rw [hU]; exact hPc, va_K.moved hW.alike hKc⟩⟩ rfl rfl hl.1 rfl (lv_room (Nat.le_of_ble_eq_true rfl)) d_M_run_66 (⟨Nat.le_of_ble_eq_true rfl, Nat.le_of_ble_eq_true rfl⟩)) ?_
              refine lv_isub hx hb d_M_run_69 ?_
              refine tpi (y := nI (rrc n0 pl (j + 1))) (pk_sub (hm1 j (by omega))) ?_
              refine lv_istore_n (lv' := [(3, .int (nI (rrc n0 pl (j + 1)))), (4, .int (nI (rac pl j))), (0, .ref y), (1, .int (nI n0)), (2, .int 0)]) hx hb d_M_run_70 rfl hl (by decide) rfl (fun ls hl => ?_)
              refine lv_iload hx hb d_M_run_71 (lv_at hl 1 rfl) ?_
              refine lv_bipush (v := 31) hx hb d_M_run_73 (by decide) ?_
              refine lv_icmp_ge (tgt := 85) hx hb d_M_run_75 (by decide) (fun c_12 => ?_) (fun c_12 => ?_)
              · skip
                have h31 := (nI_leI (a := 31) (by omega) (by omega)).mp c_12
                refine lv_iload hx hb d_M_run_85 (lv_at hl 1 rfl) ?_
                refine tpi (y := nI (rac pl (j + 1))) (congrArg nI (show rac pl j = upp (rac pl j) from (if_neg (by omega)).symm)) ?_
                refine lv_istore (lv' := [(4, .int (nI (rac pl (j + 1)))), (3, .int (nI (rrc n0 pl (j + 1)))), (0, .ref y), (1, .int (nI n0)), (2, .int 0)]) hx hb d_M_run_87 hl (by decide) rfl (fun ls hl => ?_)
                refine lv_goto (tgt := 43) hx hb d_M_run_89 (by decide) ?_
                exact ih (j + 1) (by omega) H locs hP hD hS ls (lv_sub hl [0, 1, 2, 3, 4] rfl)
              · skip
                have h31 : ¬ 31 ≤ rac pl j := fun q9 => c_12 ((nI_leI (a := 31) (by omega) (by omega)).mpr q9)
                refine lv_iload hx hb d_M_run_78 (lv_at hl 1 rfl) ?_
                refine lv_iconst (v := 1) hx hb d_M_run_80 (by decide) ?_
                refine lv_iadd hx hb d_M_run_81 ?_
                refine tpi (y := nI (rac pl (j + 1))) ((nI_1 _).trans (congrArg nI (show rac pl j + 1 = upp (rac pl j) from (if_pos (by omega)).symm))) ?_
                refine lv_goto (tgt := 87) hx hb d_M_run_82 (by decide) ?_
                refine lv_istore (lv' := [(4, .int (nI (rac pl (j + 1)))), (3, .int (nI (rrc n0 pl (j + 1)))), (0, .ref y), (1, .int (nI n0)), (2, .int 0)]) hx hb d_M_run_87 hl (by decide) rfl (fun ls hl => ?_)
                refine lv_goto (tgt := 43) hx hb d_M_run_89 (by decide) ?_
                exact ih (j + 1) (by omega) H locs hP hD hS ls (lv_sub hl [0, 1, 2, 3, 4] rfl)
        exact loop m0 0 (by omega) H locs hP hD hS ls hl
      · skip
        exact absurd (by decide) c_3
    · skip
      exact absurd (nI_le hn (by omega)) c_2
set_option maxHeartbeats 4000000 in
set_option maxRecDepth 100000 in
theorem c_M_run1G (l : Launch) (D : va_G) (y ms mw mu mc mn mr mq md bi ne li sp q sz wa : Nat) (th en la at0 lk : Int32) (cB cI : ClassId) (st lw wr dr : Nat → Int32) (pl n0 m0 : Nat) (hst : st 0 = nI pl) (hpl : pl < 32) (hn : n0 ≤ 65535) (hm1 : ∀ j, j < m0 → 2 ^ wdt (rac pl j) ≤ rrc n0 pl j) (hm2 : rrc n0 pl m0 < 2 ^ wdt (rac pl m0)) (hm3 : m0 ≤ 40) (hsz : sz ≤ 6000) (hu : sz + ((if 0 < rrc n0 pl m0 then m0 + 1 else m0)) ≤ 6000) : Met l y_M_run (WSY y_M_run b_M_run 6 (some .int)) ({ frames := 2, cells := 0, slots := 0, locals := 50 }) (va_Pc [.ref y, .int (nI n0), .int 1] (fun U => va_P D CLS [(y, .inr (5, [.int th, .int (nI bi), .int (nI ne), .int (nI li), .int (nI sp), .int (nI q), .ref ms, .ref mw, .ref mu, .ref mc, .ref mn, .int en, .int (nI sz), .ref mr, .int (nI wa), .ref mq, .int la, .ref md, .int at0, .int lk])), (ms, .inl (cI, 2, .inl st)), (mw, .inl (cI, 2, .inl lw)), (mr, .inl (cB, 6000, .inl wr)), (md, .inl (cB, 400, .inl dr))] U.heap ∧ va_K D CLS [(cB, .byte), (cI, .int)] U ∧ va_D (fun _ => True) [(y, .inr (5, [.int th, .int (nI bi), .int (nI ne), .int (nI li), .int (nI sp), .int (nI q), .ref ms, .ref mw, .ref mu, .ref mc, .ref mn, .int en, .int (nI sz), .ref mr, .int (nI wa), .ref mq, .int la, .ref md, .int at0, .int lk])), (ms, .inl (cI, 2, .inl st)), (mw, .inl (cI, 2, .inl lw)), (mr, .inl (cB, 6000, .inl wr)), (md, .inl (cB, 400, .inl dr))])) (QM (some (.int (nI (0 + (if 0 < rrc n0 pl m0 then m0 + 1 else m0))))) [(y, .inr (5, [.int th, .int (nI bi), .int (nI ne), .int (nI li), .int (nI sp), .int (nI q), .ref ms, .ref mw, .ref mu, .ref mc, .ref mn, .int en, .int (nI sz), .ref mr, .int (nI wa), .ref mq, .int la, .ref md, .int at0, .int lk])), (ms, .inl (cI, 2, .inl st)), (mw, .inl (cI, 2, .inl lw)), (mr, .inl (cB, 6000, .inl wr)), (md, .inl (cB, 400, .inl dr))] [(y, .inr (5, [.int 0, .int (nI bi), .int (nI ne), .int (nI li), .int (nI sp), .int (nI q), .ref ms, .ref mw, .ref mu, .ref mc, .ref mn, .int en, .int (nI (sz + (0 + (if 0 < rrc n0 pl m0 then m0 + 1 else m0)))), .ref mr, .int (nI wa), .ref mq, .int (nI (0 + (if 0 < rrc n0 pl m0 then m0 + 1 else m0))), .ref md, .int at0, .int lk])), (ms, .inl (cI, 2, .inl (upd st 0 (nI (rac pl m0))))), (mw, .inl (cI, 2, .inl (upd lw 0 (nI (wdt (rac pl m0)))))), (mr, .inl (cB, 6000, .inl (cpw wr sz (fil dr 1 0 (if 0 < rrc n0 pl m0 then m0 + 1 else m0)) (0 + (if 0 < rrc n0 pl m0 then m0 + 1 else m0))))), (md, .inl (cB, 400, .inl (fil dr 1 0 (if 0 < rrc n0 pl m0 then m0 + 1 else m0))))] D) 0 0 (ad [(y, .inr (5, [.int th, .int (nI bi), .int (nI ne), .int (nI li), .int (nI sp), .int (nI q), .ref ms, .ref mw, .ref mu, .ref mc, .ref mn, .int en, .int (nI sz), .ref mr, .int (nI wa), .ref mq, .int la, .ref md, .int at0, .int lk])), (ms, .inl (cI, 2, .inl st)), (mw, .inl (cI, 2, .inl lw)), (mr, .inl (cB, 6000, .inl wr)), (md, .inl (cB, 400, .inl dr))]) := by
  refine Met.ofW (cc := b_M_run) (maxL := 6) (ret := (some .int)) (by decide) rfl ?_
  intro p e s m args below meth c s₁ B hml hv
  obtain ⟨rfl, hP, hK, hD0⟩ := hv
  have hx := B.exec
  have hb := B.bytes
  have hr := B.returns
  have hts := atoms_spec (ws := WSY y_M_run b_M_run 6 (some .int)) B.pre
  have hg : ∀ w ∈ GW, w.before _ s = true := fun w h => hts w (List.mem_cons_of_mem _ h)
  have hown : s.vm.findClass "LineGolombModel" = some m.cls := findClass_of_methodNamed B.named
  have hlocks := B.notSynchronized
  obtain ⟨A, hAe⟩ : ∃ A, A = ad [(y, .inr (5, [.int th, .int (nI bi), .int (nI ne), .int (nI li), .int (nI sp), .int (nI q), .ref ms, .ref mw, .ref mu, .ref mc, .ref mn, .int en, .int (nI sz), .ref mr, .int (nI wa), .ref mq, .int la, .ref md, .int at0, .int lk])), (ms, .inl (cI, 2, .inl st)), (mw, .inl (cI, 2, .inl lw)), (mr, .inl (cB, 6000, .inl wr)), (md, .inl (cB, 400, .inl dr))] := ⟨_, rfl⟩
  have hD : va_D A [(y, .inr (5, [.int th, .int (nI bi), .int (nI ne), .int (nI li), .int (nI sp), .int (nI q), .ref ms, .ref mw, .ref mu, .ref mc, .ref mn, .int en, .int (nI sz), .ref mr, .int (nI wa), .ref mq, .int la, .ref md, .int at0, .int lk])), (ms, .inl (cI, 2, .inl st)), (mw, .inl (cI, 2, .inl lw)), (mr, .inl (cB, 6000, .inl wr)), (md, .inl (cB, 400, .inl dr))] := by rw [hAe]; exact va_D_ad hD0
  have hS : va_S A s.heap s.heap [] := va_S.rf
  have hl := lv_entry ([.ref y, .int (nI n0), .int 1]) (n := 6) (Nat.le_of_ble_eq_true rfl)
  rw [lg_entry_eq]
  generalize (lg_sl ([.ref y, .int (nI n0), .int 1]) ++ List.replicate (6 - (lg_sl ([.ref y, .int (nI n0), .int 1])).length) Slot.unset).toArray = ls at hl ⊢
  have hl : lv_has ls 6 [(0, .ref y), (1, .int (nI n0)), (2, .int 1)] := hl
  have hwd := wdt_le (rac pl m0) (rac_lt hpl m0)
  have hrl := rrc_le n0 pl m0
  have hlb : (if 0 < rrc n0 pl m0 then m0 + 1 else m0) ≤ 41 := by split <;> omega
  refine lv_aload_n hx hb d_M_run_0 rfl (lv_at hl 0 rfl) ?_
  refine lv_iload_n hx hb d_M_run_1 rfl (lv_at hl 1 rfl) ?_
  refine lv_if_lt (tgt := 11) hx hb d_M_run_2 (by decide) (fun c_1 => ?_) (fun c_1 => ?_)
  · skip
    exact absurd c_1 (nI_pos (by omega))
  · skip
    refine lv_iload_n hx hb d_M_run_5 rfl (lv_at hl 1 rfl) ?_
    refine lv_ldc (v := 65535) hx hb hown (hg _ gw_618) d_M_run_6 ?_
    refine lv_icmp_le (tgt := 15) hx hb d_M_run_8 (by decide) (fun c_2 => ?_) (fun c_2 => ?_)
    · skip
      refine lv_iconst (v := 0) hx hb d_M_run_15 (by decide) ?_
      refine va_put (D := D) (ci := 5) (v := .int 0) (ty := .int) (C := R_M) (T := T_M) (N := 20) hx hb hg in_M ty_M tok_M nm_M hown hK hP hD hS 0 rfl rfl 0 (by decide) (hg _ gw_524) (fun _ h9 => h9) rfl (by decide +kernel) (rfl) (rfl) (Nat.le_of_ble_eq_true rfl) d_M_run_16 (fun H locs hP hD hS => ?_)
      have hP : va_P D CLS [(y, .inr (5, [.int 0, .int (nI bi), .int (nI ne), .int (nI li), .int (nI sp), .int (nI q), .ref ms, .ref mw, .ref mu, .ref mc, .ref mn, .int en, .int (nI sz), .ref mr, .int (nI wa), .ref mq, .int la, .ref md, .int at0, .int lk])), (ms, .inl (cI, 2, .inl st)), (mw, .inl (cI, 2, .inl lw)), (mr, .inl (cB, 6000, .inl wr)), (md, .inl (cB, 400, .inl dr))] H := hP
      have hD : va_D A [(y, .inr (5, [.int 0, .int (nI bi), .int (nI ne), .int (nI li), .int (nI sp), .int (nI q), .ref ms, .ref mw, .ref mu, .ref mc, .ref mn, .int en, .int (nI sz), .ref mr, .int (nI wa), .ref mq, .int la, .ref md, .int at0, .int lk])), (ms, .inl (cI, 2, .inl st)), (mw, .inl (cI, 2, .inl lw)), (mr, .inl (cB, 6000, .inl wr)), (md, .inl (cB, 400, .inl dr))] := hD
      refine lv_aload_n hx hb d_M_run_19 rfl (lv_at hl 0 rfl) ?_
      refine va_get (D := D) (ci := 5) (v := .int 0) (C := R_M) (T := T_M) (N := 20) hx hb hg in_M hown hK hP 0 rfl rfl 0 (by decide) (hg _ gw_524) (fun _ h9 => h9) rfl d_M_run_20 ?_
      refine lv_if_le (tgt := 28) hx hb d_M_run_23 (by decide) (fun c_3 => ?_) (fun c_3 => ?_)
      · skip
        refine lv_aload_n hx hb d_M_run_28 rfl (lv_at hl 0 rfl) ?_
        refine lv_iconst (v := 0) hx hb d_M_run_29 (by decide) ?_
        refine tpi (y := nI 0) (rfl) ?_
        refine va_put (D := D) (ci := 5) (v := .int (nI 0)) (ty := .int) (C := R_M) (T := T_M) (N := 20) hx hb hg in_M ty_M tok_M nm_M hown hK hP hD hS 0 rfl rfl 16 (by decide) (hg _ gw_540) (fun _ h9 => h9) rfl (by decide +kernel) (rfl) (rfl) (Nat.le_of_ble_eq_true rfl) d_M_run_30 (fun H locs hP hD hS => ?_)
        have hP : va_P D CLS [(y, .inr (5, [.int 0, .int (nI bi), .int (nI ne), .int (nI li), .int (nI sp), .int (nI q), .ref ms, .ref mw, .ref mu, .ref mc, .ref mn, .int en, .int (nI sz), .ref mr, .int (nI wa), .ref mq, .int (nI 0), .ref md, .int at0, .int lk])), (ms, .inl (cI, 2, .inl st)), (mw, .inl (cI, 2, .inl lw)), (mr, .inl (cB, 6000, .inl wr)), (md, .inl (cB, 400, .inl dr))] H := hP
        have hD : va_D A [(y, .inr (5, [.int 0, .int (nI bi), .int (nI ne), .int (nI li), .int (nI sp), .int (nI q), .ref ms, .ref mw, .ref mu, .ref mc, .ref mn, .int en, .int (nI sz), .ref mr, .int (nI wa), .ref mq, .int (nI 0), .ref md, .int at0, .int lk])), (ms, .inl (cI, 2, .inl st)), (mw, .inl (cI, 2, .inl lw)), (mr, .inl (cB, 6000, .inl wr)), (md, .inl (cB, 400, .inl dr))] := hD
        refine lv_iload_n hx hb d_M_run_33 rfl (lv_at hl 1 rfl) ?_
        refine lv_istore_n (lv' := [(3, .int (nI n0)), (0, .ref y), (1, .int (nI n0)), (2, .int 1)]) hx hb d_M_run_34 rfl hl (by decide) rfl (fun ls hl => ?_)
        refine lv_aload_n hx hb d_M_run_35 rfl (lv_at hl 1 rfl) ?_
        refine va_get (D := D) (ci := 5) (v := .ref ms) (C := R_M) (T := T_M) (N := 20) hx hb hg in_M hown hK hP 0 rfl rfl 6 (by decide) (hg _ gw_530) (fun _ h9 => h9) rfl d_M_run_36 ?_
        refine lv_iconst (v := 0) hx hb d_M_run_39 (by decide) ?_
        refine va_iald hx hb hK hP 1 1 rfl rfl (vp_in_nI (n := 0) (by decide) (by decide)) d_M_run_40 ?_
        refine tpi (y := nI pl) (hst) ?_
        refine lv_istore (lv' := [(4, .int (nI pl)), (3, .int (nI n0)), (0, .ref y), (1, .int (nI n0)), (2, .int 1)]) hx hb d_M_run_41 hl (by decide) rfl (fun ls hl => ?_)
        have tail : ∀ (H : Heap) (locs : List Loc), va_P D CLS [(y, .inr (5, [.int 0, .int (nI bi), .int (nI ne), .int (nI li), .int (nI sp), .int (nI q), .ref ms, .ref mw, .ref mu, .ref mc, .ref mn, .int en, .int (nI sz), .ref mr, .int (nI wa), .ref mq, .int (nI (0 + m0)), .ref md, .int at0, .int lk])), (ms, .inl (cI, 2, .inl st)), (mw, .inl (cI, 2, .inl lw)), (mr, .inl (cB, 6000, .inl wr)), (md, .inl (cB, 400, .inl (fil dr 1 0 m0)))] H → va_D A [(y, .inr (5, [.int 0, .int (nI bi), .int (nI ne), .int (nI li), .int (nI sp), .int (nI q), .ref ms, .ref mw, .ref mu, .ref mc, .ref mn, .int en, .int (nI sz), .ref mr, .int (nI wa), .ref mq, .int (nI (0 + m0)), .ref md, .int at0, .int lk])), (ms, .inl (cI, 2, .inl st)), (mw, .inl (cI, 2, .inl lw)), (mr, .inl (cB, 6000, .inl wr)), (md, .inl (cB, 400, .inl (fil dr 1 0 m0)))] → va_S A s.heap H locs → ∀ (ls : Array Slot), lv_has ls 6 [(4, .int (nI (rac pl m0))), (3, .int (nI (rrc n0 pl m0))), (0, .ref y), (1, .int (nI n0)), (2, .int 1)] → W p l e (headSpec (WSY y_M_run b_M_run 6 (some .int)) ({ frames := 2, cells := 0, slots := 0, locals := 50 })).room s m ([.ref y, .int (nI n0), .int 1] : List Value).toArray below meth c H locs 0 0 (MQ below (QM (some (.int (nI (0 + (if 0 < rrc n0 pl m0 then m0 + 1 else m0))))) [(y, .inr (5, [.int th, .int (nI bi), .int (nI ne), .int (nI li), .int (nI sp), .int (nI q), .ref ms, .ref mw, .ref mu, .ref mc, .ref mn, .int en, .int (nI sz), .ref mr, .int (nI wa), .ref mq, .int la, .ref md, .int at0, .int lk])), (ms, .inl (cI, 2, .inl st)), (mw, .inl (cI, 2, .inl lw)), (mr, .inl (cB, 6000, .inl wr)), (md, .inl (cB, 400, .inl dr))] [(y, .inr (5, [.int 0, .int (nI bi), .int (nI ne), .int (nI li), .int (nI sp), .int (nI q), .ref ms, .ref mw, .ref mu, .ref mc, .ref mn, .int en, .int (nI (sz + (0 + (if 0 < rrc n0 pl m0 then m0 + 1 else m0)))), .ref mr, .int (nI wa), .ref mq, .int (nI (0 + (if 0 < rrc n0 pl m0 then m0 + 1 else m0))), .ref md, .int at0, .int lk])), (ms, .inl (cI, 2, .inl (upd st 0 (nI (rac pl m0))))), (mw, .inl (cI, 2, .inl (upd lw 0 (nI (wdt (rac pl m0)))))), (mr, .inl (cB, 6000, .inl (cpw wr sz (fil dr 1 0 (if 0 < rrc n0 pl m0 then m0 + 1 else m0)) (0 + (if 0 < rrc n0 pl m0 then m0 + 1 else m0))))), (md, .inl (cB, 400, .inl (fil dr 1 0 (if 0 < rrc n0 pl m0 then m0 + 1 else m0))))] D) ([.ref y, .int (nI n0), .int 1] : List Value).toArray s 0 0 (ad [(y, .inr (5, [.int th, .int (nI bi), .int (nI ne), .int (nI li), .int (nI sp), .int (nI q), .ref ms, .ref mw, .ref mu, .ref mc, .ref mn, .int en, .int (nI sz), .ref mr, .int (nI wa), .ref mq, .int la, .ref md, .int at0, .int lk])), (ms, .inl (cI, 2, .inl st)), (mw, .inl (cI, 2, .inl lw)), (mr, .inl (cB, 6000, .inl wr)), (md, .inl (cB, 400, .inl dr))])) (F0 m 92 ls []) := by
          intro H locs hP hD hS ls hl
          refine lv_iload hx hb d_M_run_92 (lv_at hl 0 rfl) ?_
          have hPc := hP.sub (ws' := []) [] rfl
          have hKc := hK.sub (tys' := []) [] rfl
          refine pci (va_runS (As := [.int (nI (rac pl m0))]) (rest := []) ⟨hx, hb, hml, hown, hg⟩ (c_M_widthOf l D (rac pl m0) (rac_lt hpl m0)) (va_cwS 1 hg (gS gw_619 gw_620 gw_7 gw_621) rfl rfl rfl (by decide +kernel) ⟨Nat.le_of_ble_eq_true rfl, Nat.le_of_ble_eq_true rfl⟩) ⟨fun a U g mk q => by obtain ⟨q0, qP, qK⟩ := q; exact ⟨q0, qP, va_K.moved (u := U) (U := U.calling g mk a) (Vm.Alike.refl U.vm) qK⟩, fun U hU hW => ⟨rfl, by rw [hU]; exact hPc, va_K.moved hW.alike hKc⟩⟩ rfl rfl hl.1 rfl (lv_room (Nat.le_of_ble_eq_true rfl)) d_M_run_94 (⟨Nat.le_of_ble_eq_true rfl, Nat.le_of_ble_eq_true rfl⟩)) ?_
          refine lv_istore (lv' := [(5, .int (nI (wdt (rac pl m0)))), (4, .int (nI (rac pl m0))), (3, .int (nI (rrc n0 pl m0))), (0, .ref y), (1, .int (nI n0)), (2, .int 1)]) hx hb d_M_run_97 hl (by decide) rfl (fun ls hl => ?_)
          refine lv_iload_n hx hb d_M_run_99 rfl (lv_at hl 5 rfl) ?_
          refine lv_if_eq (tgt := 115) hx hb d_M_run_100 (by decide) (fun c_4 => ?_) (fun c_4 => ?_)
          · skip
            exact absurd c_4 (by decide)
          · skip
            refine lv_iload_n hx hb d_M_run_103 rfl (lv_at hl 2 rfl) ?_
            refine lv_if_le (tgt := 143) hx hb d_M_run_104 (by decide) (fun c_5 => ?_) (fun c_5 => ?_)
            · skip
              have hr0 : ¬ 0 < rrc n0 pl m0 := fun q9 => nI_nle q9 (by omega) c_5
              have hln : (if 0 < rrc n0 pl m0 then m0 + 1 else m0) = m0 := if_neg hr0
              refine lv_aload_n hx hb d_M_run_143 rfl (lv_at hl 3 rfl) ?_
              refine lv_aload_n hx hb d_M_run_144 rfl (lv_at hl 3 rfl) ?_
              have hPc := hP.sub (ws' := [(y, .inr (5, [.int 0, .int (nI bi), .int (nI ne), .int (nI li), .int (nI sp), .int (nI q), .ref ms, .ref mw, .ref mu, .ref mc, .ref mn, .int en, .int (nI sz), .ref mr, .int (nI wa), .ref mq, .int (nI (0 + m0)), .ref md, .int at0, .int lk]))]) [0] rfl
              have hKc := hK.sub (tys' := []) [] rfl
              refine pci (va_runV (As := []) (rest := [.ref y]) ⟨hx, hb, hml, hown, hg⟩ (c_M_hasRoom l D y ms mw mu mc mn mr mq md bi ne li sp q sz wa 0 en (nI (0 + m0)) at0 lk (0 + m0) hsz (by omega)) (cwV 0 hg (gV gw_606 gw_608 gs_16 gw_7 gw_609) rfl rfl rfl (by decide +kernel) ⟨Nat.le_of_ble_eq_true rfl, Nat.le_of_ble_eq_true rfl⟩) ⟨fun a U g mk q => by obtain ⟨q0, qP, qK⟩ := q; exact ⟨q0, qP, va_K.moved (u := U) (U := U.calling g mk a) (Vm.Alike.refl U.vm) qK⟩, va_recv hKc hPc (ci := 5) (q0 := 0) rfl rfl, fun U hU hW => ⟨rfl, by rw [hU]; exact hPc, va_K.moved hW.alike hKc⟩⟩ rfl rfl hl.1 rfl (lv_room (Nat.le_of_ble_eq_true rfl)) d_M_run_145 (⟨Nat.le_of_ble_eq_true rfl, Nat.le_of_ble_eq_true rfl⟩)) ?_
              refine tpi (y := 1) (if_pos (by omega)) ?_
              refine lv_if_eq (tgt := 155) hx hb d_M_run_148 (by decide) (fun c_6 => ?_) (fun c_6 => ?_)
              · skip
                exact absurd c_6 (by decide)
              · skip
                refine lv_iconst (v := 0) hx hb d_M_run_151 (by decide) ?_
                refine lv_goto (tgt := 156) hx hb d_M_run_152 (by decide) ?_
                refine va_put (D := D) (ci := 5) (v := .int 0) (ty := .int) (C := R_M) (T := T_M) (N := 20) hx hb hg in_M ty_M tok_M nm_M hown hK hP hD hS 0 rfl rfl 0 (by decide) (hg _ gw_524) (fun _ h9 => h9) rfl (by decide +kernel) (rfl) (rfl) (Nat.le_of_ble_eq_true rfl) d_M_run_156 (fun H locs hP hD hS => ?_)
                have hP : va_P D CLS [(y, .inr (5, [.int 0, .int (nI bi), .int (nI ne), .int (nI li), .int (nI sp), .int (nI q), .ref ms, .ref mw, .ref mu, .ref mc, .ref mn, .int en, .int (nI sz), .ref mr, .int (nI wa), .ref mq, .int (nI (0 + m0)), .ref md, .int at0, .int lk])), (ms, .inl (cI, 2, .inl st)), (mw, .inl (cI, 2, .inl lw)), (mr, .inl (cB, 6000, .inl wr)), (md, .inl (cB, 400, .inl (fil dr 1 0 m0)))] H := hP
                have hD : va_D A [(y, .inr (5, [.int 0, .int (nI bi), .int (nI ne), .int (nI li), .int (nI sp), .int (nI q), .ref ms, .ref mw, .ref mu, .ref mc, .ref mn, .int en, .int (nI sz), .ref mr, .int (nI wa), .ref mq, .int (nI (0 + m0)), .ref md, .int at0, .int lk])), (ms, .inl (cI, 2, .inl st)), (mw, .inl (cI, 2, .inl lw)), (mr, .inl (cB, 6000, .inl wr)), (md, .inl (cB, 400, .inl (fil dr 1 0 m0)))] := hD
                refine lv_aload_n hx hb d_M_run_159 rfl (lv_at hl 3 rfl) ?_
                refine va_get (D := D) (ci := 5) (v := .int 0) (C := R_M) (T := T_M) (N := 20) hx hb hg in_M hown hK hP 0 rfl rfl 0 (by decide) (hg _ gw_524) (fun _ h9 => h9) rfl d_M_run_160 ?_
                refine lv_if_le (tgt := 168) hx hb d_M_run_163 (by decide) (fun c_7 => ?_) (fun c_7 => ?_)
                · skip
                  refine lv_aload_n hx hb d_M_run_168 rfl (lv_at hl 3 rfl) ?_
                  refine va_get (D := D) (ci := 5) (v := .ref ms) (C := R_M) (T := T_M) (N := 20) hx hb hg in_M hown hK hP 0 rfl rfl 6 (by decide) (hg _ gw_530) (fun _ h9 => h9) rfl d_M_run_169 ?_
                  refine lv_iconst (v := 0) hx hb d_M_run_172 (by decide) ?_
                  refine lv_iload hx hb d_M_run_173 (lv_at hl 1 rfl) ?_
                  refine va_iast hx hb hK hP hD hS 1 1 rfl rfl (vp_in_nI (n := 0) (by decide) (by decide)) d_M_run_175 (fun H locs hP hD hS => ?_)
                  rw [show (0 : Int32).toNatClampNeg = 0 from rfl] at hP hD
                  have hP : va_P D CLS [(y, .inr (5, [.int 0, .int (nI bi), .int (nI ne), .int (nI li), .int (nI sp), .int (nI q), .ref ms, .ref mw, .ref mu, .ref mc, .ref mn, .int en, .int (nI sz), .ref mr, .int (nI wa), .ref mq, .int (nI (0 + m0)), .ref md, .int at0, .int lk])), (ms, .inl (cI, 2, .inl (upd st 0 (nI (rac pl m0))))), (mw, .inl (cI, 2, .inl lw)), (mr, .inl (cB, 6000, .inl wr)), (md, .inl (cB, 400, .inl (fil dr 1 0 m0)))] H := hP
                  have hD : va_D A [(y, .inr (5, [.int 0, .int (nI bi), .int (nI ne), .int (nI li), .int (nI sp), .int (nI q), .ref ms, .ref mw, .ref mu, .ref mc, .ref mn, .int en, .int (nI sz), .ref mr, .int (nI wa), .ref mq, .int (nI (0 + m0)), .ref md, .int at0, .int lk])), (ms, .inl (cI, 2, .inl (upd st 0 (nI (rac pl m0))))), (mw, .inl (cI, 2, .inl lw)), (mr, .inl (cB, 6000, .inl wr)), (md, .inl (cB, 400, .inl (fil dr 1 0 m0)))] := hD
                  refine lv_aload_n hx hb d_M_run_176 rfl (lv_at hl 3 rfl) ?_
                  refine va_get (D := D) (ci := 5) (v := .ref mw) (C := R_M) (T := T_M) (N := 20) hx hb hg in_M hown hK hP 0 rfl rfl 7 (by decide) (hg _ gw_531) (fun _ h9 => h9) rfl d_M_run_177 ?_
                  refine lv_iconst (v := 0) hx hb d_M_run_180 (by decide) ?_
                  refine lv_iload hx hb d_M_run_181 (lv_at hl 0 rfl) ?_
                  refine va_iast hx hb hK hP hD hS 2 1 rfl rfl (vp_in_nI (n := 0) (by decide) (by decide)) d_M_run_183 (fun H locs hP hD hS => ?_)
                  rw [show (0 : Int32).toNatClampNeg = 0 from rfl] at hP hD
                  have hP : va_P D CLS [(y, .inr (5, [.int 0, .int (nI bi), .int (nI ne), .int (nI li), .int (nI sp), .int (nI q), .ref ms, .ref mw, .ref mu, .ref mc, .ref mn, .int en, .int (nI sz), .ref mr, .int (nI wa), .ref mq, .int (nI (0 + m0)), .ref md, .int at0, .int lk])), (ms, .inl (cI, 2, .inl (upd st 0 (nI (rac pl m0))))), (mw, .inl (cI, 2, .inl (upd lw 0 (nI (wdt (rac pl m0)))))), (mr, .inl (cB, 6000, .inl wr)), (md, .inl (cB, 400, .inl (fil dr 1 0 m0)))] H := hP
                  have hD : va_D A [(y, .inr (5, [.int 0, .int (nI bi), .int (nI ne), .int (nI li), .int (nI sp), .int (nI q), .ref ms, .ref mw, .ref mu, .ref mc, .ref mn, .int en, .int (nI sz), .ref mr, .int (nI wa), .ref mq, .int (nI (0 + m0)), .ref md, .int at0, .int lk])), (ms, .inl (cI, 2, .inl (upd st 0 (nI (rac pl m0))))), (mw, .inl (cI, 2, .inl (upd lw 0 (nI (wdt (rac pl m0)))))), (mr, .inl (cB, 6000, .inl wr)), (md, .inl (cB, 400, .inl (fil dr 1 0 m0)))] := hD
                  refine lv_aload_n hx hb d_M_run_184 rfl (lv_at hl 3 rfl) ?_
                  have hPc := hP.sub (ws' := [(y, .inr (5, [.int 0, .int (nI bi), .int (nI ne), .int (nI li), .int (nI sp), .int (nI q), .ref ms, .ref mw, .ref mu, .ref mc, .ref mn, .int en, .int (nI sz), .ref mr, .int (nI wa), .ref mq, .int (nI (0 + m0)), .ref md, .int at0, .int lk])), (mr, .inl (cB, 6000, .inl wr)), (md, .inl (cB, 400, .inl (fil dr 1 0 m0)))]) [0, 3, 4] rfl
                  have hDc := hD.sub (ws' := [(y, .inr (5, [.int 0, .int (nI bi), .int (nI ne), .int (nI li), .int (nI sp), .int (nI q), .ref ms, .ref mw, .ref mu, .ref mc, .ref mn, .int en, .int (nI sz), .ref mr, .int (nI wa), .ref mq, .int (nI (0 + m0)), .ref md, .int at0, .int lk])), (mr, .inl (cB, 6000, .inl wr)), (md, .inl (cB, 400, .inl (fil dr 1 0 m0)))]) [0, 3, 4] (by decide) rfl
                  have hKc := hK.sub (tys' := [(cB, .byte)]) [0] rfl
                  refine mci (va_runV (As := []) (rest := []) ⟨hx, hb, hml, hown, hg⟩ (c_M_write l D y ms mw mu mc mn mr mq md bi ne li sp q sz wa 0 en (nI (0 + m0)) at0 lk cB wr (fil dr 1 0 m0) (0 + m0) (by omega) (by omega) (fun j hj => (fil01 (Or.inr rfl) m0).1 j (Nat.zero_le _) hj)) (cwV 0 hg (gV gw_610 gw_612 gs_17 gw_7 gw_613) rfl rfl rfl (by decide +kernel) ⟨Nat.le_of_ble_eq_true rfl, Nat.le_of_ble_eq_true rfl⟩) ⟨fun a U g mk q => by obtain ⟨q0, qP, qK, qD⟩ := q; exact ⟨q0, qP, va_K.moved (u := U) (U := U.calling g mk a) (Vm.Alike.refl U.vm) qK, qD⟩, va_recv hKc hPc (ci := 5) (q0 := 0) rfl rfl, fun U hU hW => ⟨rfl, by rw [hU]; exact hPc, va_K.moved hW.alike hKc, hDc.weaken (fun _ _ _ _ => trivial)⟩⟩ rfl rfl hl.1 rfl (lv_room (Nat.le_of_ble_eq_true rfl)) d_M_run_185 (⟨Nat.le_of_ble_eq_true rfl, Nat.le_of_ble_eq_true rfl⟩)) hS hP hD [0, 3, 4] rfl rfl rfl (fun H locs hP hD hS => ?_)
                  have hP : va_P D CLS [(y, .inr (5, [.int 0, .int (nI bi), .int (nI ne), .int (nI li), .int (nI sp), .int (nI q), .ref ms, .ref mw, .ref mu, .ref mc, .ref mn, .int en, .int (nI (sz + (0 + m0))), .ref mr, .int (nI wa), .ref mq, .int (nI (0 + m0)), .ref md, .int at0, .int lk])), (ms, .inl (cI, 2, .inl (upd st 0 (nI (rac pl m0))))), (mw, .inl (cI, 2, .inl (upd lw 0 (nI (wdt (rac pl m0)))))), (mr, .inl (cB, 6000, .inl (cpw wr sz (fil dr 1 0 m0) (0 + m0)))), (md, .inl (cB, 400, .inl (fil dr 1 0 m0)))] H := hP
                  have hD : va_D A [(y, .inr (5, [.int 0, .int (nI bi), .int (nI ne), .int (nI li), .int (nI sp), .int (nI q), .ref ms, .ref mw, .ref mu, .ref mc, .ref mn, .int en, .int (nI (sz + (0 + m0))), .ref mr, .int (nI wa), .ref mq, .int (nI (0 + m0)), .ref md, .int at0, .int lk])), (ms, .inl (cI, 2, .inl (upd st 0 (nI (rac pl m0))))), (mw, .inl (cI, 2, .inl (upd lw 0 (nI (wdt (rac pl m0)))))), (mr, .inl (cB, 6000, .inl (cpw wr sz (fil dr 1 0 m0) (0 + m0)))), (md, .inl (cB, 400, .inl (fil dr 1 0 m0)))] := hD
                  refine tpi (y := nI (0 + (if 0 < rrc n0 pl m0 then m0 + 1 else m0))) (by rw [hln]) ?_
                  exact W.iret (v := nI (0 + (if 0 < rrc n0 pl m0 then m0 + 1 else m0))) hx hb hr (fun t ht hW => ⟨rfl, by rw [ht]; exact (by rw [hln]; exact hP), (hAe ▸ hS).F ht⟩) (hAe ▸ hS).2.2 d_M_run_188
                · skip
                  exact absurd (by decide) c_7
            · skip
              have hr0 : 0 < rrc n0 pl m0 := Nat.pos_of_ne_zero (fun q9 => c_5 (by rw [q9]; decide))
              have hln : (if 0 < rrc n0 pl m0 then m0 + 1 else m0) = m0 + 1 := if_pos hr0
              refine lv_aload_n hx hb d_M_run_107 rfl (lv_at hl 3 rfl) ?_
              refine lv_iconst (v := 1) hx hb d_M_run_108 (by decide) ?_
              have hPc := hP.sub (ws' := [(y, .inr (5, [.int 0, .int (nI bi), .int (nI ne), .int (nI li), .int (nI sp), .int (nI q), .ref ms, .ref mw, .ref mu, .ref mc, .ref mn, .int en, .int (nI sz), .ref mr, .int (nI wa), .ref mq, .int (nI (0 + m0)), .ref md, .int at0, .int lk])), (md, .inl (cB, 400, .inl (fil dr 1 0 m0)))]) [0, 4] rfl
              have hDc := hD.sub (ws' := [(y, .inr (5, [.int 0, .int (nI bi), .int (nI ne), .int (nI li), .int (nI sp), .int (nI q), .ref ms, .ref mw, .ref mu, .ref mc, .ref mn, .int en, .int (nI sz), .ref mr, .int (nI wa), .ref mq, .int (nI (0 + m0)), .ref md, .int at0, .int lk])), (md, .inl (cB, 400, .inl (fil dr 1 0 m0)))]) [0, 4] (by decide) rfl
              have hKc := hK.sub (tys' := [(cB, .byte)]) [0] rfl
              refine mcv (va_runV (As := [.int 1]) (rest := []) ⟨hx, hb, hml, hown, hg⟩ (c_M_lay l D y ms mw mu mc mn mr mq md bi ne li sp q sz wa 0 en la at0 lk cB (fil dr 1 0 m0) (0 + m0) 1 (Or.inr rfl) (by omega)) (cwV 1 hg (gV gw_598 gw_600 gs_14 gw_7 gw_601) rfl rfl rfl (by decide +kernel) ⟨Nat.le_of_ble_eq_true rfl, Nat.le_of_ble_eq_true rfl⟩) ⟨fun a U g mk q => by obtain ⟨q0, qP, qK, qD⟩ := q; exact ⟨q0, qP, va_K.moved (u := U) (U := U.calling g mk a) (Vm.Alike.refl U.vm) qK, qD⟩, va_recv hKc hPc (ci := 5) (q0 := 0) rfl rfl, fun U hU hW => ⟨rfl, by rw [hU]; exact hPc, va_K.moved hW.alike hKc, hDc.weaken (fun _ _ _ _ => trivial)⟩⟩ rfl rfl hl.1 rfl (lv_room (Nat.le_of_ble_eq_true rfl)) d_M_run_109 (⟨Nat.le_of_ble_eq_true rfl, Nat.le_of_ble_eq_true rfl⟩)) hS hP hD [0, 4] rfl rfl rfl (fun H locs hP hD hS => ?_)
              have hP : va_P D CLS [(y, .inr (5, [.int 0, .int (nI bi), .int (nI ne), .int (nI li), .int (nI sp), .int (nI q), .ref ms, .ref mw, .ref mu, .ref mc, .ref mn, .int en, .int (nI sz), .ref mr, .int (nI wa), .ref mq, .int (nI (0 + (m0 + 1))), .ref md, .int at0, .int lk])), (ms, .inl (cI, 2, .inl st)), (mw, .inl (cI, 2, .inl lw)), (mr, .inl (cB, 6000, .inl wr)), (md, .inl (cB, 400, .inl (fil dr 1 0 (m0 + 1))))] H := hP
              have hD : va_D A [(y, .inr (5, [.int 0, .int (nI bi), .int (nI ne), .int (nI li), .int (nI sp), .int (nI q), .ref ms, .ref mw, .ref mu, .ref mc, .ref mn, .int en, .int (nI sz), .ref mr, .int (nI wa), .ref mq, .int (nI (0 + (m0 + 1))), .ref md, .int at0, .int lk])), (ms, .inl (cI, 2, .inl st)), (mw, .inl (cI, 2, .inl lw)), (mr, .inl (cB, 6000, .inl wr)), (md, .inl (cB, 400, .inl (fil dr 1 0 (m0 + 1))))] := hD
              refine lv_goto (tgt := 143) hx hb d_M_run_112 (by decide) ?_
              refine lv_aload_n hx hb d_M_run_143 rfl (lv_at hl 3 rfl) ?_
              refine lv_aload_n hx hb d_M_run_144 rfl (lv_at hl 3 rfl) ?_
              have hPc := hP.sub (ws' := [(y, .inr (5, [.int 0, .int (nI bi), .int (nI ne), .int (nI li), .int (nI sp), .int (nI q), .ref ms, .ref mw, .ref mu, .ref mc, .ref mn, .int en, .int (nI sz), .ref mr, .int (nI wa), .ref mq, .int (nI (0 + (m0 + 1))), .ref md, .int at0, .int lk]))]) [0] rfl
              have hKc := hK.sub (tys' := []) [] rfl
              refine pci (va_runV (As := []) (rest := [.ref y]) ⟨hx, hb, hml, hown, hg⟩ (c_M_hasRoom l D y ms mw mu mc mn mr mq md bi ne li sp q sz wa 0 en (nI (0 + (m0 + 1))) at0 lk (0 + (m0 + 1)) hsz (by omega)) (cwV 0 hg (gV gw_606 gw_608 gs_16 gw_7 gw_609) rfl rfl rfl (by decide +kernel) ⟨Nat.le_of_ble_eq_true rfl, Nat.le_of_ble_eq_true rfl⟩) ⟨fun a U g mk q => by obtain ⟨q0, qP, qK⟩ := q; exact ⟨q0, qP, va_K.moved (u := U) (U := U.calling g mk a) (Vm.Alike.refl U.vm) qK⟩, va_recv hKc hPc (ci := 5) (q0 := 0) rfl rfl, fun U hU hW => ⟨rfl, by rw [hU]; exact hPc, va_K.moved hW.alike hKc⟩⟩ rfl rfl hl.1 rfl (lv_room (Nat.le_of_ble_eq_true rfl)) d_M_run_145 (⟨Nat.le_of_ble_eq_true rfl, Nat.le_of_ble_eq_true rfl⟩)) ?_
              refine tpi (y := 1) (if_pos (by omega)) ?_
              refine lv_if_eq (tgt := 155) hx hb d_M_run_148 (by decide) (fun c_8 => ?_) (fun c_8 => ?_)
              · skip
                exact absurd c_8 (by decide)
              · skip
                refine lv_iconst (v := 0) hx hb d_M_run_151 (by decide) ?_
                refine lv_goto (tgt := 156) hx hb d_M_run_152 (by decide) ?_
                refine va_put (D := D) (ci := 5) (v := .int 0) (ty := .int) (C := R_M) (T := T_M) (N := 20) hx hb hg in_M ty_M tok_M nm_M hown hK hP hD hS 0 rfl rfl 0 (by decide) (hg _ gw_524) (fun _ h9 => h9) rfl (by decide +kernel) (rfl) (rfl) (Nat.le_of_ble_eq_true rfl) d_M_run_156 (fun H locs hP hD hS => ?_)
                have hP : va_P D CLS [(y, .inr (5, [.int 0, .int (nI bi), .int (nI ne), .int (nI li), .int (nI sp), .int (nI q), .ref ms, .ref mw, .ref mu, .ref mc, .ref mn, .int en, .int (nI sz), .ref mr, .int (nI wa), .ref mq, .int (nI (0 + (m0 + 1))), .ref md, .int at0, .int lk])), (ms, .inl (cI, 2, .inl st)), (mw, .inl (cI, 2, .inl lw)), (mr, .inl (cB, 6000, .inl wr)), (md, .inl (cB, 400, .inl (fil dr 1 0 (m0 + 1))))] H := hP
                have hD : va_D A [(y, .inr (5, [.int 0, .int (nI bi), .int (nI ne), .int (nI li), .int (nI sp), .int (nI q), .ref ms, .ref mw, .ref mu, .ref mc, .ref mn, .int en, .int (nI sz), .ref mr, .int (nI wa), .ref mq, .int (nI (0 + (m0 + 1))), .ref md, .int at0, .int lk])), (ms, .inl (cI, 2, .inl st)), (mw, .inl (cI, 2, .inl lw)), (mr, .inl (cB, 6000, .inl wr)), (md, .inl (cB, 400, .inl (fil dr 1 0 (m0 + 1))))] := hD
                refine lv_aload_n hx hb d_M_run_159 rfl (lv_at hl 3 rfl) ?_
                refine va_get (D := D) (ci := 5) (v := .int 0) (C := R_M) (T := T_M) (N := 20) hx hb hg in_M hown hK hP 0 rfl rfl 0 (by decide) (hg _ gw_524) (fun _ h9 => h9) rfl d_M_run_160 ?_
                refine lv_if_le (tgt := 168) hx hb d_M_run_163 (by decide) (fun c_9 => ?_) (fun c_9 => ?_)
                · skip
                  refine lv_aload_n hx hb d_M_run_168 rfl (lv_at hl 3 rfl) ?_
                  refine va_get (D := D) (ci := 5) (v := .ref ms) (C := R_M) (T := T_M) (N := 20) hx hb hg in_M hown hK hP 0 rfl rfl 6 (by decide) (hg _ gw_530) (fun _ h9 => h9) rfl d_M_run_169 ?_
                  refine lv_iconst (v := 0) hx hb d_M_run_172 (by decide) ?_
                  refine lv_iload hx hb d_M_run_173 (lv_at hl 1 rfl) ?_
                  refine va_iast hx hb hK hP hD hS 1 1 rfl rfl (vp_in_nI (n := 0) (by decide) (by decide)) d_M_run_175 (fun H locs hP hD hS => ?_)
                  rw [show (0 : Int32).toNatClampNeg = 0 from rfl] at hP hD
                  have hP : va_P D CLS [(y, .inr (5, [.int 0, .int (nI bi), .int (nI ne), .int (nI li), .int (nI sp), .int (nI q), .ref ms, .ref mw, .ref mu, .ref mc, .ref mn, .int en, .int (nI sz), .ref mr, .int (nI wa), .ref mq, .int (nI (0 + (m0 + 1))), .ref md, .int at0, .int lk])), (ms, .inl (cI, 2, .inl (upd st 0 (nI (rac pl m0))))), (mw, .inl (cI, 2, .inl lw)), (mr, .inl (cB, 6000, .inl wr)), (md, .inl (cB, 400, .inl (fil dr 1 0 (m0 + 1))))] H := hP
                  have hD : va_D A [(y, .inr (5, [.int 0, .int (nI bi), .int (nI ne), .int (nI li), .int (nI sp), .int (nI q), .ref ms, .ref mw, .ref mu, .ref mc, .ref mn, .int en, .int (nI sz), .ref mr, .int (nI wa), .ref mq, .int (nI (0 + (m0 + 1))), .ref md, .int at0, .int lk])), (ms, .inl (cI, 2, .inl (upd st 0 (nI (rac pl m0))))), (mw, .inl (cI, 2, .inl lw)), (mr, .inl (cB, 6000, .inl wr)), (md, .inl (cB, 400, .inl (fil dr 1 0 (m0 + 1))))] := hD
                  refine lv_aload_n hx hb d_M_run_176 rfl (lv_at hl 3 rfl) ?_
                  refine va_get (D := D) (ci := 5) (v := .ref mw) (C := R_M) (T := T_M) (N := 20) hx hb hg in_M hown hK hP 0 rfl rfl 7 (by decide) (hg _ gw_531) (fun _ h9 => h9) rfl d_M_run_177 ?_
                  refine lv_iconst (v := 0) hx hb d_M_run_180 (by decide) ?_
                  refine lv_iload hx hb d_M_run_181 (lv_at hl 0 rfl) ?_
                  refine va_iast hx hb hK hP hD hS 2 1 rfl rfl (vp_in_nI (n := 0) (by decide) (by decide)) d_M_run_183 (fun H locs hP hD hS => ?_)
                  rw [show (0 : Int32).toNatClampNeg = 0 from rfl] at hP hD
                  have hP : va_P D CLS [(y, .inr (5, [.int 0, .int (nI bi), .int (nI ne), .int (nI li), .int (nI sp), .int (nI q), .ref ms, .ref mw, .ref mu, .ref mc, .ref mn, .int en, .int (nI sz), .ref mr, .int (nI wa), .ref mq, .int (nI (0 + (m0 + 1))), .ref md, .int at0, .int lk])), (ms, .inl (cI, 2, .inl (upd st 0 (nI (rac pl m0))))), (mw, .inl (cI, 2, .inl (upd lw 0 (nI (wdt (rac pl m0)))))), (mr, .inl (cB, 6000, .inl wr)), (md, .inl (cB, 400, .inl (fil dr 1 0 (m0 + 1))))] H := hP
                  have hD : va_D A [(y, .inr (5, [.int 0, .int (nI bi), .int (nI ne), .int (nI li), .int (nI sp), .int (nI q), .ref ms, .ref mw, .ref mu, .ref mc, .ref mn, .int en, .int (nI sz), .ref mr, .int (nI wa), .ref mq, .int (nI (0 + (m0 + 1))), .ref md, .int at0, .int lk])), (ms, .inl (cI, 2, .inl (upd st 0 (nI (rac pl m0))))), (mw, .inl (cI, 2, .inl (upd lw 0 (nI (wdt (rac pl m0)))))), (mr, .inl (cB, 6000, .inl wr)), (md, .inl (cB, 400, .inl (fil dr 1 0 (m0 + 1))))] := hD
                  refine lv_aload_n hx hb d_M_run_184 rfl (lv_at hl 3 rfl) ?_
                  have hPc := hP.sub (ws' := [(y, .inr (5, [.int 0, .int (nI bi), .int (nI ne), .int (nI li), .int (nI sp), .int (nI q), .ref ms, .ref mw, .ref mu, .ref mc, .ref mn, .int en, .int (nI sz), .ref mr, .int (nI wa), .ref mq, .int (nI (0 + (m0 + 1))), .ref md, .int at0, .int lk])), (mr, .inl (cB, 6000, .inl wr)), (md, .inl (cB, 400, .inl (fil dr 1 0 (m0 + 1))))]) [0, 3, 4] rfl
                  have hDc := hD.sub (ws' := [(y, .inr (5, [.int 0, .int (nI bi), .int (nI ne), .int (nI li), .int (nI sp), .int (nI q), .ref ms, .ref mw, .ref mu, .ref mc, .ref mn, .int en, .int (nI sz), .ref mr, .int (nI wa), .ref mq, .int (nI (0 + (m0 + 1))), .ref md, .int at0, .int lk])), (mr, .inl (cB, 6000, .inl wr)), (md, .inl (cB, 400, .inl (fil dr 1 0 (m0 + 1))))]) [0, 3, 4] (by decide) rfl
                  have hKc := hK.sub (tys' := [(cB, .byte)]) [0] rfl
                  refine mci (va_runV (As := []) (rest := []) ⟨hx, hb, hml, hown, hg⟩ (c_M_write l D y ms mw mu mc mn mr mq md bi ne li sp q sz wa 0 en (nI (0 + (m0 + 1))) at0 lk cB wr (fil dr 1 0 (m0 + 1)) (0 + (m0 + 1)) (by omega) (by omega) (fun j hj => (fil01 (Or.inr rfl) (m0 + 1)).1 j (Nat.zero_le _) hj)) (cwV 0 hg (gV gw_610 gw_612 gs_17 gw_7 gw_613) rfl rfl rfl (by decide +kernel) ⟨Nat.le_of_ble_eq_true rfl, Nat.le_of_ble_eq_true rfl⟩) ⟨fun a U g mk q => by obtain ⟨q0, qP, qK, qD⟩ := q; exact ⟨q0, qP, va_K.moved (u := U) (U := U.calling g mk a) (Vm.Alike.refl U.vm) qK, qD⟩, va_recv hKc hPc (ci := 5) (q0 := 0) rfl rfl, fun U hU hW => ⟨rfl, by rw [hU]; exact hPc, va_K.moved hW.alike hKc, hDc.weaken (fun _ _ _ _ => trivial)⟩⟩ rfl rfl hl.1 rfl (lv_room (Nat.le_of_ble_eq_true rfl)) d_M_run_185 (⟨Nat.le_of_ble_eq_true rfl, Nat.le_of_ble_eq_true rfl⟩)) hS hP hD [0, 3, 4] rfl rfl rfl (fun H locs hP hD hS => ?_)
                  have hP : va_P D CLS [(y, .inr (5, [.int 0, .int (nI bi), .int (nI ne), .int (nI li), .int (nI sp), .int (nI q), .ref ms, .ref mw, .ref mu, .ref mc, .ref mn, .int en, .int (nI (sz + (0 + (m0 + 1)))), .ref mr, .int (nI wa), .ref mq, .int (nI (0 + (m0 + 1))), .ref md, .int at0, .int lk])), (ms, .inl (cI, 2, .inl (upd st 0 (nI (rac pl m0))))), (mw, .inl (cI, 2, .inl (upd lw 0 (nI (wdt (rac pl m0)))))), (mr, .inl (cB, 6000, .inl (cpw wr sz (fil dr 1 0 (m0 + 1)) (0 + (m0 + 1))))), (md, .inl (cB, 400, .inl (fil dr 1 0 (m0 + 1))))] H := hP
                  have hD : va_D A [(y, .inr (5, [.int 0, .int (nI bi), .int (nI ne), .int (nI li), .int (nI sp), .int (nI q), .ref ms, .ref mw, .ref mu, .ref mc, .ref mn, .int en, .int (nI (sz + (0 + (m0 + 1)))), .ref mr, .int (nI wa), .ref mq, .int (nI (0 + (m0 + 1))), .ref md, .int at0, .int lk])), (ms, .inl (cI, 2, .inl (upd st 0 (nI (rac pl m0))))), (mw, .inl (cI, 2, .inl (upd lw 0 (nI (wdt (rac pl m0)))))), (mr, .inl (cB, 6000, .inl (cpw wr sz (fil dr 1 0 (m0 + 1)) (0 + (m0 + 1))))), (md, .inl (cB, 400, .inl (fil dr 1 0 (m0 + 1))))] := hD
                  refine tpi (y := nI (0 + (if 0 < rrc n0 pl m0 then m0 + 1 else m0))) (by rw [hln]) ?_
                  exact W.iret (v := nI (0 + (if 0 < rrc n0 pl m0 then m0 + 1 else m0))) hx hb hr (fun t ht hW => ⟨rfl, by rw [ht]; exact (by rw [hln]; exact hP), (hAe ▸ hS).F ht⟩) (hAe ▸ hS).2.2 d_M_run_188
                · skip
                  exact absurd (by decide) c_9
        have loop : ∀ (d j : Nat), j + d = m0 → ∀ (H : Heap) (locs : List Loc), va_P D CLS [(y, .inr (5, [.int 0, .int (nI bi), .int (nI ne), .int (nI li), .int (nI sp), .int (nI q), .ref ms, .ref mw, .ref mu, .ref mc, .ref mn, .int en, .int (nI sz), .ref mr, .int (nI wa), .ref mq, .int (nI (0 + j)), .ref md, .int at0, .int lk])), (ms, .inl (cI, 2, .inl st)), (mw, .inl (cI, 2, .inl lw)), (mr, .inl (cB, 6000, .inl wr)), (md, .inl (cB, 400, .inl (fil dr 1 0 j)))] H → va_D A [(y, .inr (5, [.int 0, .int (nI bi), .int (nI ne), .int (nI li), .int (nI sp), .int (nI q), .ref ms, .ref mw, .ref mu, .ref mc, .ref mn, .int en, .int (nI sz), .ref mr, .int (nI wa), .ref mq, .int (nI (0 + j)), .ref md, .int at0, .int lk])), (ms, .inl (cI, 2, .inl st)), (mw, .inl (cI, 2, .inl lw)), (mr, .inl (cB, 6000, .inl wr)), (md, .inl (cB, 400, .inl (fil dr 1 0 j)))] → va_S A s.heap H locs → ∀ (ls : Array Slot), lv_has ls 6 [(4, .int (nI (rac pl j))), (3, .int (nI (rrc n0 pl j))), (0, .ref y), (1, .int (nI n0)), (2, .int 1)] → W p l e (headSpec (WSY y_M_run b_M_run 6 (some .int)) ({ frames := 2, cells := 0, slots := 0, locals := 50 })).room s m ([.ref y, .int (nI n0), .int 1] : List Value).toArray below meth c H locs 0 0 (MQ below (QM (some (.int (nI (0 + (if 0 < rrc n0 pl m0 then m0 + 1 else m0))))) [(y, .inr (5, [.int th, .int (nI bi), .int (nI ne), .int (nI li), .int (nI sp), .int (nI q), .ref ms, .ref mw, .ref mu, .ref mc, .ref mn, .int en, .int (nI sz), .ref mr, .int (nI wa), .ref mq, .int la, .ref md, .int at0, .int lk])), (ms, .inl (cI, 2, .inl st)), (mw, .inl (cI, 2, .inl lw)), (mr, .inl (cB, 6000, .inl wr)), (md, .inl (cB, 400, .inl dr))] [(y, .inr (5, [.int 0, .int (nI bi), .int (nI ne), .int (nI li), .int (nI sp), .int (nI q), .ref ms, .ref mw, .ref mu, .ref mc, .ref mn, .int en, .int (nI (sz + (0 + (if 0 < rrc n0 pl m0 then m0 + 1 else m0)))), .ref mr, .int (nI wa), .ref mq, .int (nI (0 + (if 0 < rrc n0 pl m0 then m0 + 1 else m0))), .ref md, .int at0, .int lk])), (ms, .inl (cI, 2, .inl (upd st 0 (nI (rac pl m0))))), (mw, .inl (cI, 2, .inl (upd lw 0 (nI (wdt (rac pl m0)))))), (mr, .inl (cB, 6000, .inl (cpw wr sz (fil dr 1 0 (if 0 < rrc n0 pl m0 then m0 + 1 else m0)) (0 + (if 0 < rrc n0 pl m0 then m0 + 1 else m0))))), (md, .inl (cB, 400, .inl (fil dr 1 0 (if 0 < rrc n0 pl m0 then m0 + 1 else m0))))] D) ([.ref y, .int (nI n0), .int 1] : List Value).toArray s 0 0 (ad [(y, .inr (5, [.int th, .int (nI bi), .int (nI ne), .int (nI li), .int (nI sp), .int (nI q), .ref ms, .ref mw, .ref mu, .ref mc, .ref mn, .int en, .int (nI sz), .ref mr, .int (nI wa), .ref mq, .int la, .ref md, .int at0, .int lk])), (ms, .inl (cI, 2, .inl st)), (mw, .inl (cI, 2, .inl lw)), (mr, .inl (cB, 6000, .inl wr)), (md, .inl (cB, 400, .inl dr))])) (F0 m 43 ls []) := by
          intro d
          induction d with
          | zero =>
            intro j hj H locs hP hD hS ls hl
            obtain rfl : j = m0 := by omega
            have hwj := wdt_le (rac pl j) (rac_lt hpl j)
            have hpj := pw15 hwj
            have hrj := rrc_le n0 pl j
            have hlj := rac_lt hpl j
            refine lv_iload_n hx hb d_M_run_43 rfl (lv_at hl 1 rfl) ?_
            refine lv_iload hx hb d_M_run_44 (lv_at hl 0 rfl) ?_
            have hPc := hP.sub (ws' := []) [] rfl
            have hKc := hK.sub (tys' := []) [] rfl
            refine pci (va_runS (As := [.int (nI (rac pl j))]) (rest := [.int (nI (rrc n0 pl j))]) ⟨hx, hb, hml, hown, hg⟩ (c_M_widthOf l D (rac pl j) (rac_lt hpl j)) (va_cwS 1 hg (gS gw_619 gw_620 gw_7 gw_621) rfl rfl rfl (by decide +kernel) ⟨Nat.le_of_ble_eq_true rfl, Nat.le_of_ble_eq_true rfl⟩) ⟨fun a U g mk q => by obtain ⟨q0, qP, qK⟩ := q; exact ⟨q0, qP, va_K.moved (u := U) (U := U.calling g mk a) (Vm.Alike.refl U.vm) qK⟩, fun U hU hW => ⟨rfl, by rw [hU]; exact hPc, va_K.moved hW.alike hKc⟩⟩ rfl rfl hl.1 rfl (lv_room (Nat.le_of_ble_eq_true rfl)) d_M_run_46 (⟨Nat.le_of_ble_eq_true rfl, Nat.le_of_ble_eq_true rfl⟩)) ?_
            have hPc := hP.sub (ws' := []) [] rfl
            have hKc := hK.sub (tys' := []) [] rfl
            refine pci (va_runS (As := [.int (nI (wdt (rac pl j)))]) (rest := [.int (nI (rrc n0 pl j))]) ⟨hx, hb, hml, hown, hg⟩ (c_M_power l D (wdt (rac pl j)) (by omega)) (va_cwS 1 hg (gS gw_517 gw_518 gw_7 gw_519) rfl rfl rfl (by decide +kernel) ⟨Nat.le_of_ble_eq_true rfl, Nat.le_of_ble_eq_true rfl⟩) ⟨fun a U g mk q => by obtain ⟨q0, qP, qK⟩ := q; exact ⟨q0, qP, va_K.moved (u := U) (U := U.calling g mk a) (Vm.Alike.refl U.vm) qK⟩, fun U hU hW => ⟨rfl, by rw [hU]; exact hPc, va_K.moved hW.alike hKc⟩⟩ rfl rfl hl.1 rfl (lv_room (Nat.le_of_ble_eq_true rfl)) d_M_run_49 (⟨Nat.le_of_ble_eq_true rfl, Nat.le_of_ble_eq_true rfl⟩)) ?_
            refine lv_icmp_lt (tgt := 92) hx hb d_M_run_52 (by decide) (fun c_10 => ?_) (fun c_10 => ?_)
            · skip
              exact tail H locs hP hD hS ls (lv_sub hl [0, 1, 2, 3, 4] rfl)
            · skip
              exact absurd ((nI_ltI (by omega) (by omega)).mpr hm2) c_10
          | succ d ih =>
            intro j hj H locs hP hD hS ls hl
            have hwj := wdt_le (rac pl j) (rac_lt hpl j)
            have hpj := pw15 hwj
            have hrj := rrc_le n0 pl j
            have hlj := rac_lt hpl j
            refine lv_iload_n hx hb d_M_run_43 rfl (lv_at hl 1 rfl) ?_
            refine lv_iload hx hb d_M_run_44 (lv_at hl 0 rfl) ?_
            have hPc := hP.sub (ws' := []) [] rfl
            have hKc := hK.sub (tys' := []) [] rfl
            refine pci (va_runS (As := [.int (nI (rac pl j))]) (rest := [.int (nI (rrc n0 pl j))]) ⟨hx, hb, hml, hown, hg⟩ (c_M_widthOf l D (rac pl j) (rac_lt hpl j)) (va_cwS 1 hg (gS gw_619 gw_620 gw_7 gw_621) rfl rfl rfl (by decide +kernel) ⟨Nat.le_of_ble_eq_true rfl, Nat.le_of_ble_eq_true rfl⟩) ⟨fun a U g mk q => by obtain ⟨q0, qP, qK⟩ := q; exact ⟨q0, qP, va_K.moved (u := U) (U := U.calling g mk a) (Vm.Alike.refl U.vm) qK⟩, fun U hU hW => ⟨rfl, by rw [hU]; exact hPc, va_K.moved hW.alike hKc⟩⟩ rfl rfl hl.1 rfl (lv_room (Nat.le_of_ble_eq_true rfl)) d_M_run_46 (⟨Nat.le_of_ble_eq_true rfl, Nat.le_of_ble_eq_true rfl⟩)) ?_
            have hPc := hP.sub (ws' := []) [] rfl
            have hKc := hK.sub (tys' := []) [] rfl
            refine pci (va_runS (As := [.int (nI (wdt (rac pl j)))]) (rest := [.int (nI (rrc n0 pl j))]) ⟨hx, hb, hml, hown, hg⟩ (c_M_power l D (wdt (rac pl j)) (by omega)) (va_cwS 1 hg (gS gw_517 gw_518 gw_7 gw_519) rfl rfl rfl (by decide +kernel) ⟨Nat.le_of_ble_eq_true rfl, Nat.le_of_ble_eq_true rfl⟩) ⟨fun a U g mk q => by obtain ⟨q0, qP, qK⟩ := q; exact ⟨q0, qP, va_K.moved (u := U) (U := U.calling g mk a) (Vm.Alike.refl U.vm) qK⟩, fun U hU hW => ⟨rfl, by rw [hU]; exact hPc, va_K.moved hW.alike hKc⟩⟩ rfl rfl hl.1 rfl (lv_room (Nat.le_of_ble_eq_true rfl)) d_M_run_49 (⟨Nat.le_of_ble_eq_true rfl, Nat.le_of_ble_eq_true rfl⟩)) ?_
            refine lv_icmp_lt (tgt := 92) hx hb d_M_run_52 (by decide) (fun c_11 => ?_) (fun c_11 => ?_)
            · skip
              exact absurd ((nI_ltI (by omega) (by omega)).mp c_11) (by have := hm1 j (by omega); omega)
            · skip
              refine lv_aload_n hx hb d_M_run_55 rfl (lv_at hl 2 rfl) ?_
              refine lv_iconst (v := 1) hx hb d_M_run_56 (by decide) ?_
              have hPc := hP.sub (ws' := [(y, .inr (5, [.int 0, .int (nI bi), .int (nI ne), .int (nI li), .int (nI sp), .int (nI q), .ref ms, .ref mw, .ref mu, .ref mc, .ref mn, .int en, .int (nI sz), .ref mr, .int (nI wa), .ref mq, .int (nI (0 + j)), .ref md, .int at0, .int lk])), (md, .inl (cB, 400, .inl (fil dr 1 0 j)))]) [0, 4] rfl
              have hDc := hD.sub (ws' := [(y, .inr (5, [.int 0, .int (nI bi), .int (nI ne), .int (nI li), .int (nI sp), .int (nI q), .ref ms, .ref mw, .ref mu, .ref mc, .ref mn, .int en, .int (nI sz), .ref mr, .int (nI wa), .ref mq, .int (nI (0 + j)), .ref md, .int at0, .int lk])), (md, .inl (cB, 400, .inl (fil dr 1 0 j)))]) [0, 4] (by decide) rfl
              have hKc := hK.sub (tys' := [(cB, .byte)]) [0] rfl
              refine mcv (va_runV (As := [.int 1]) (rest := []) ⟨hx, hb, hml, hown, hg⟩ (c_M_lay l D y ms mw mu mc mn mr mq md bi ne li sp q sz wa 0 en la at0 lk cB (fil dr 1 0 j) (0 + j) 1 (Or.inr rfl) (by omega)) (cwV 1 hg (gV gw_598 gw_600 gs_14 gw_7 gw_601) rfl rfl rfl (by decide +kernel) ⟨Nat.le_of_ble_eq_true rfl, Nat.le_of_ble_eq_true rfl⟩) ⟨fun a U g mk q => by obtain ⟨q0, qP, qK, qD⟩ := q; exact ⟨q0, qP, va_K.moved (u := U) (U := U.calling g mk a) (Vm.Alike.refl U.vm) qK, qD⟩, va_recv hKc hPc (ci := 5) (q0 := 0) rfl rfl, fun U hU hW => ⟨rfl, by rw [hU]; exact hPc, va_K.moved hW.alike hKc, hDc.weaken (fun _ _ _ _ => trivial)⟩⟩ rfl rfl hl.1 rfl (lv_room (Nat.le_of_ble_eq_true rfl)) d_M_run_57 (⟨Nat.le_of_ble_eq_true rfl, Nat.le_of_ble_eq_true rfl⟩)) hS hP hD [0, 4] rfl rfl rfl (fun H locs hP hD hS => ?_)
              have hP : va_P D CLS [(y, .inr (5, [.int 0, .int (nI bi), .int (nI ne), .int (nI li), .int (nI sp), .int (nI q), .ref ms, .ref mw, .ref mu, .ref mc, .ref mn, .int en, .int (nI sz), .ref mr, .int (nI wa), .ref mq, .int (nI (0 + (j + 1))), .ref md, .int at0, .int lk])), (ms, .inl (cI, 2, .inl st)), (mw, .inl (cI, 2, .inl lw)), (mr, .inl (cB, 6000, .inl wr)), (md, .inl (cB, 400, .inl (fil dr 1 0 (j + 1))))] H := hP
              have hD : va_D A [(y, .inr (5, [.int 0, .int (nI bi), .int (nI ne), .int (nI li), .int (nI sp), .int (nI q), .ref ms, .ref mw, .ref mu, .ref mc, .ref mn, .int en, .int (nI sz), .ref mr, .int (nI wa), .ref mq, .int (nI (0 + (j + 1))), .ref md, .int at0, .int lk])), (ms, .inl (cI, 2, .inl st)), (mw, .inl (cI, 2, .inl lw)), (mr, .inl (cB, 6000, .inl wr)), (md, .inl (cB, 400, .inl (fil dr 1 0 (j + 1))))] := hD
              refine lv_iload_n hx hb d_M_run_60 rfl (lv_at hl 1 rfl) ?_
              refine lv_iload hx hb d_M_run_61 (lv_at hl 0 rfl) ?_
              have hPc := hP.sub (ws' := []) [] rfl
              have hKc := hK.sub (tys' := []) [] rfl
              refine pci (va_runS (As := [.int (nI (rac pl j))]) (rest := [.int (nI (rrc n0 pl j))]) ⟨hx, hb, hml, hown, hg⟩ (c_M_widthOf l D (rac pl j) (rac_lt hpl j)) (va_cwS 1 hg (gS gw_619 gw_620 gw_7 gw_621) rfl rfl rfl (by decide +kernel) ⟨Nat.le_of_ble_eq_true rfl, Nat.le_of_ble_eq_true rfl⟩) ⟨fun a U g mk q => by obtain ⟨q0, qP, qK⟩ := q; exact ⟨q0, qP, va_K.moved (u := U) (U := U.calling g mk a) (Vm.Alike.refl U.vm) qK⟩, fun U hU hW => ⟨rfl, by rw [hU]; exact hPc, va_K.moved hW.alike hKc⟩⟩ rfl rfl hl.1 rfl (lv_room (Nat.le_of_ble_eq_true rfl)) d_M_run_63 (⟨Nat.le_of_ble_eq_true rfl, Nat.le_of_ble_eq_true rfl⟩)) ?_
              have hPc := hP.sub (ws' := []) [] rfl
              have hKc := hK.sub (tys' := []) [] rfl
              refine pci (va_runS (As := [.int (nI (wdt (rac pl j)))]) (rest := [.int (nI (rrc n0 pl j))]) ⟨hx, hb, hml, hown, hg⟩ (c_M_power l D (wdt (rac pl j)) (by omega)) (va_cwS 1 hg (gS gw_517 gw_518 gw_7 gw_519) rfl rfl rfl (by decide +kernel) ⟨Nat.le_of_ble_eq_true rfl, Nat.le_of_ble_eq_true rfl⟩) ⟨fun a U g mk q => by obtain ⟨q0, qP, qK⟩ := q; exact ⟨q0, qP, va_K.moved (u := U) (U := U.calling g mk a) (Vm.Alike.refl U.vm) qK⟩, fun U hU hW => ⟨rfl, by rw [hU]; exact hPc, va_K.moved hW.alike hKc⟩⟩ rfl rfl hl.1 rfl (lv_room (Nat.le_of_ble_eq_true rfl)) d_M_run_66 (⟨Nat.le_of_ble_eq_true rfl, Nat.le_of_ble_eq_true rfl⟩)) ?_
              refine lv_isub hx hb d_M_run_69 ?_
              refine tpi (y := nI (rrc n0 pl (j + 1))) (pk_sub (hm1 j (by omega))) ?_
              refine lv_istore_n (lv' := [(3, .int (nI (rrc n0 pl (j + 1)))), (4, .int (nI (rac pl j))), (0, .ref y), (1, .int (nI n0)), (2, .int 1)]) hx hb d_M_run_70 rfl hl (by decide) rfl (fun ls hl => ?_)
              refine lv_iload hx hb d_M_run_71 (lv_at hl 1 rfl) ?_
              refine lv_bipush (v := 31) hx hb d_M_run_73 (by decide) ?_
              refine lv_icmp_ge (tgt := 85) hx hb d_M_run_75 (by decide) (fun c_12 => ?_) (fun c_12 => ?_)
              · skip
                have h31 := (nI_leI (a := 31) (by omega) (by omega)).mp c_12
                refine lv_iload hx hb d_M_run_85 (lv_at hl 1 rfl) ?_
                refine tpi (y := nI (rac pl (j + 1))) (congrArg nI (show rac pl j = upp (rac pl j) from (if_neg (by omega)).symm)) ?_
                refine lv_istore (lv' := [(4, .int (nI (rac pl (j + 1)))), (3, .int (nI (rrc n0 pl (j + 1)))), (0, .ref y), (1, .int (nI n0)), (2, .int 1)]) hx hb d_M_run_87 hl (by decide) rfl (fun ls hl => ?_)
                refine lv_goto (tgt := 43) hx hb d_M_run_89 (by decide) ?_
                exact ih (j + 1) (by omega) H locs hP hD hS ls (lv_sub hl [0, 1, 2, 3, 4] rfl)
              · skip
                have h31 : ¬ 31 ≤ rac pl j := fun q9 => c_12 ((nI_leI (a := 31) (by omega) (by omega)).mpr q9)
                refine lv_iload hx hb d_M_run_78 (lv_at hl 1 rfl) ?_
                refine lv_iconst (v := 1) hx hb d_M_run_80 (by decide) ?_
                refine lv_iadd hx hb d_M_run_81 ?_
                refine tpi (y := nI (rac pl (j + 1))) ((nI_1 _).trans (congrArg nI (show rac pl j + 1 = upp (rac pl j) from (if_pos (by omega)).symm))) ?_
                refine lv_goto (tgt := 87) hx hb d_M_run_82 (by decide) ?_
                refine lv_istore (lv' := [(4, .int (nI (rac pl (j + 1)))), (3, .int (nI (rrc n0 pl (j + 1)))), (0, .ref y), (1, .int (nI n0)), (2, .int 1)]) hx hb d_M_run_87 hl (by decide) rfl (fun ls hl => ?_)
                refine lv_goto (tgt := 43) hx hb d_M_run_89 (by decide) ?_
                exact ih (j + 1) (by omega) H locs hP hD hS ls (lv_sub hl [0, 1, 2, 3, 4] rfl)
        exact loop m0 0 (by omega) H locs hP hD hS ls hl
      · skip
        exact absurd (by decide) c_3
    · skip
      exact absurd (nI_le hn (by omega)) c_2
set_option maxHeartbeats 4000000 in
set_option maxRecDepth 100000 in
theorem c_M_run1U (l : Launch) (D : va_G) (y ms mw mu mc mn mr mq md bi ne li sp q sz wa : Nat) (th en la at0 lk : Int32) (cB cI : ClassId) (st lw wr dr : Nat → Int32) (pl n0 m0 : Nat) (hst : st 0 = nI pl) (hpl : pl < 32) (hn : n0 ≤ 65535) (hm1 : ∀ j, j < m0 → 2 ^ wdt (rac pl j) ≤ rrc n0 pl j) (hm2 : rrc n0 pl m0 < 2 ^ wdt (rac pl m0)) (hm3 : m0 ≤ 40) (hsz : sz ≤ 6000) (hu : ¬ sz + ((if 0 < rrc n0 pl m0 then m0 + 1 else m0)) ≤ 6000) : Met l y_M_run (WSY y_M_run b_M_run 6 (some .int)) ({ frames := 2, cells := 0, slots := 0, locals := 50 }) (va_Pc [.ref y, .int (nI n0), .int 1] (fun U => va_P D CLS [(y, .inr (5, [.int th, .int (nI bi), .int (nI ne), .int (nI li), .int (nI sp), .int (nI q), .ref ms, .ref mw, .ref mu, .ref mc, .ref mn, .int en, .int (nI sz), .ref mr, .int (nI wa), .ref mq, .int la, .ref md, .int at0, .int lk])), (ms, .inl (cI, 2, .inl st)), (mw, .inl (cI, 2, .inl lw)), (mr, .inl (cB, 6000, .inl wr)), (md, .inl (cB, 400, .inl dr))] U.heap ∧ va_K D CLS [(cB, .byte), (cI, .int)] U ∧ va_D (fun _ => True) [(y, .inr (5, [.int th, .int (nI bi), .int (nI ne), .int (nI li), .int (nI sp), .int (nI q), .ref ms, .ref mw, .ref mu, .ref mc, .ref mn, .int en, .int (nI sz), .ref mr, .int (nI wa), .ref mq, .int la, .ref md, .int at0, .int lk])), (ms, .inl (cI, 2, .inl st)), (mw, .inl (cI, 2, .inl lw)), (mr, .inl (cB, 6000, .inl wr)), (md, .inl (cB, 400, .inl dr))])) (QM (some (.int (0))) [(y, .inr (5, [.int th, .int (nI bi), .int (nI ne), .int (nI li), .int (nI sp), .int (nI q), .ref ms, .ref mw, .ref mu, .ref mc, .ref mn, .int en, .int (nI sz), .ref mr, .int (nI wa), .ref mq, .int la, .ref md, .int at0, .int lk])), (ms, .inl (cI, 2, .inl st)), (mw, .inl (cI, 2, .inl lw)), (mr, .inl (cB, 6000, .inl wr)), (md, .inl (cB, 400, .inl dr))] [(y, .inr (5, [.int 2, .int (nI bi), .int (nI ne), .int (nI li), .int (nI sp), .int (nI q), .ref ms, .ref mw, .ref mu, .ref mc, .ref mn, .int en, .int (nI sz), .ref mr, .int (nI wa), .ref mq, .int (nI (0 + (if 0 < rrc n0 pl m0 then m0 + 1 else m0))), .ref md, .int at0, .int lk])), (ms, .inl (cI, 2, .inl st)), (mw, .inl (cI, 2, .inl lw)), (mr, .inl (cB, 6000, .inl wr)), (md, .inl (cB, 400, .inl (fil dr 1 0 (if 0 < rrc n0 pl m0 then m0 + 1 else m0))))] D) 0 0 (ad [(y, .inr (5, [.int th, .int (nI bi), .int (nI ne), .int (nI li), .int (nI sp), .int (nI q), .ref ms, .ref mw, .ref mu, .ref mc, .ref mn, .int en, .int (nI sz), .ref mr, .int (nI wa), .ref mq, .int la, .ref md, .int at0, .int lk])), (ms, .inl (cI, 2, .inl st)), (mw, .inl (cI, 2, .inl lw)), (mr, .inl (cB, 6000, .inl wr)), (md, .inl (cB, 400, .inl dr))]) := by
  refine Met.ofW (cc := b_M_run) (maxL := 6) (ret := (some .int)) (by decide) rfl ?_
  intro p e s m args below meth c s₁ B hml hv
  obtain ⟨rfl, hP, hK, hD0⟩ := hv
  have hx := B.exec
  have hb := B.bytes
  have hr := B.returns
  have hts := atoms_spec (ws := WSY y_M_run b_M_run 6 (some .int)) B.pre
  have hg : ∀ w ∈ GW, w.before _ s = true := fun w h => hts w (List.mem_cons_of_mem _ h)
  have hown : s.vm.findClass "LineGolombModel" = some m.cls := findClass_of_methodNamed B.named
  have hlocks := B.notSynchronized
  obtain ⟨A, hAe⟩ : ∃ A, A = ad [(y, .inr (5, [.int th, .int (nI bi), .int (nI ne), .int (nI li), .int (nI sp), .int (nI q), .ref ms, .ref mw, .ref mu, .ref mc, .ref mn, .int en, .int (nI sz), .ref mr, .int (nI wa), .ref mq, .int la, .ref md, .int at0, .int lk])), (ms, .inl (cI, 2, .inl st)), (mw, .inl (cI, 2, .inl lw)), (mr, .inl (cB, 6000, .inl wr)), (md, .inl (cB, 400, .inl dr))] := ⟨_, rfl⟩
  have hD : va_D A [(y, .inr (5, [.int th, .int (nI bi), .int (nI ne), .int (nI li), .int (nI sp), .int (nI q), .ref ms, .ref mw, .ref mu, .ref mc, .ref mn, .int en, .int (nI sz), .ref mr, .int (nI wa), .ref mq, .int la, .ref md, .int at0, .int lk])), (ms, .inl (cI, 2, .inl st)), (mw, .inl (cI, 2, .inl lw)), (mr, .inl (cB, 6000, .inl wr)), (md, .inl (cB, 400, .inl dr))] := by rw [hAe]; exact va_D_ad hD0
  have hS : va_S A s.heap s.heap [] := va_S.rf
  have hl := lv_entry ([.ref y, .int (nI n0), .int 1]) (n := 6) (Nat.le_of_ble_eq_true rfl)
  rw [lg_entry_eq]
  generalize (lg_sl ([.ref y, .int (nI n0), .int 1]) ++ List.replicate (6 - (lg_sl ([.ref y, .int (nI n0), .int 1])).length) Slot.unset).toArray = ls at hl ⊢
  have hl : lv_has ls 6 [(0, .ref y), (1, .int (nI n0)), (2, .int 1)] := hl
  have hwd := wdt_le (rac pl m0) (rac_lt hpl m0)
  have hrl := rrc_le n0 pl m0
  have hlb : (if 0 < rrc n0 pl m0 then m0 + 1 else m0) ≤ 41 := by split <;> omega
  refine lv_aload_n hx hb d_M_run_0 rfl (lv_at hl 0 rfl) ?_
  refine lv_iload_n hx hb d_M_run_1 rfl (lv_at hl 1 rfl) ?_
  refine lv_if_lt (tgt := 11) hx hb d_M_run_2 (by decide) (fun c_1 => ?_) (fun c_1 => ?_)
  · skip
    exact absurd c_1 (nI_pos (by omega))
  · skip
    refine lv_iload_n hx hb d_M_run_5 rfl (lv_at hl 1 rfl) ?_
    refine lv_ldc (v := 65535) hx hb hown (hg _ gw_618) d_M_run_6 ?_
    refine lv_icmp_le (tgt := 15) hx hb d_M_run_8 (by decide) (fun c_2 => ?_) (fun c_2 => ?_)
    · skip
      refine lv_iconst (v := 0) hx hb d_M_run_15 (by decide) ?_
      refine va_put (D := D) (ci := 5) (v := .int 0) (ty := .int) (C := R_M) (T := T_M) (N := 20) hx hb hg in_M ty_M tok_M nm_M hown hK hP hD hS 0 rfl rfl 0 (by decide) (hg _ gw_524) (fun _ h9 => h9) rfl (by decide +kernel) (rfl) (rfl) (Nat.le_of_ble_eq_true rfl) d_M_run_16 (fun H locs hP hD hS => ?_)
      have hP : va_P D CLS [(y, .inr (5, [.int 0, .int (nI bi), .int (nI ne), .int (nI li), .int (nI sp), .int (nI q), .ref ms, .ref mw, .ref mu, .ref mc, .ref mn, .int en, .int (nI sz), .ref mr, .int (nI wa), .ref mq, .int la, .ref md, .int at0, .int lk])), (ms, .inl (cI, 2, .inl st)), (mw, .inl (cI, 2, .inl lw)), (mr, .inl (cB, 6000, .inl wr)), (md, .inl (cB, 400, .inl dr))] H := hP
      have hD : va_D A [(y, .inr (5, [.int 0, .int (nI bi), .int (nI ne), .int (nI li), .int (nI sp), .int (nI q), .ref ms, .ref mw, .ref mu, .ref mc, .ref mn, .int en, .int (nI sz), .ref mr, .int (nI wa), .ref mq, .int la, .ref md, .int at0, .int lk])), (ms, .inl (cI, 2, .inl st)), (mw, .inl (cI, 2, .inl lw)), (mr, .inl (cB, 6000, .inl wr)), (md, .inl (cB, 400, .inl dr))] := hD
      refine lv_aload_n hx hb d_M_run_19 rfl (lv_at hl 0 rfl) ?_
      refine va_get (D := D) (ci := 5) (v := .int 0) (C := R_M) (T := T_M) (N := 20) hx hb hg in_M hown hK hP 0 rfl rfl 0 (by decide) (hg _ gw_524) (fun _ h9 => h9) rfl d_M_run_20 ?_
      refine lv_if_le (tgt := 28) hx hb d_M_run_23 (by decide) (fun c_3 => ?_) (fun c_3 => ?_)
      · skip
        refine lv_aload_n hx hb d_M_run_28 rfl (lv_at hl 0 rfl) ?_
        refine lv_iconst (v := 0) hx hb d_M_run_29 (by decide) ?_
        refine tpi (y := nI 0) (rfl) ?_
        refine va_put (D := D) (ci := 5) (v := .int (nI 0)) (ty := .int) (C := R_M) (T := T_M) (N := 20) hx hb hg in_M ty_M tok_M nm_M hown hK hP hD hS 0 rfl rfl 16 (by decide) (hg _ gw_540) (fun _ h9 => h9) rfl (by decide +kernel) (rfl) (rfl) (Nat.le_of_ble_eq_true rfl) d_M_run_30 (fun H locs hP hD hS => ?_)
        have hP : va_P D CLS [(y, .inr (5, [.int 0, .int (nI bi), .int (nI ne), .int (nI li), .int (nI sp), .int (nI q), .ref ms, .ref mw, .ref mu, .ref mc, .ref mn, .int en, .int (nI sz), .ref mr, .int (nI wa), .ref mq, .int (nI 0), .ref md, .int at0, .int lk])), (ms, .inl (cI, 2, .inl st)), (mw, .inl (cI, 2, .inl lw)), (mr, .inl (cB, 6000, .inl wr)), (md, .inl (cB, 400, .inl dr))] H := hP
        have hD : va_D A [(y, .inr (5, [.int 0, .int (nI bi), .int (nI ne), .int (nI li), .int (nI sp), .int (nI q), .ref ms, .ref mw, .ref mu, .ref mc, .ref mn, .int en, .int (nI sz), .ref mr, .int (nI wa), .ref mq, .int (nI 0), .ref md, .int at0, .int lk])), (ms, .inl (cI, 2, .inl st)), (mw, .inl (cI, 2, .inl lw)), (mr, .inl (cB, 6000, .inl wr)), (md, .inl (cB, 400, .inl dr))] := hD
        refine lv_iload_n hx hb d_M_run_33 rfl (lv_at hl 1 rfl) ?_
        refine lv_istore_n (lv' := [(3, .int (nI n0)), (0, .ref y), (1, .int (nI n0)), (2, .int 1)]) hx hb d_M_run_34 rfl hl (by decide) rfl (fun ls hl => ?_)
        refine lv_aload_n hx hb d_M_run_35 rfl (lv_at hl 1 rfl) ?_
        refine va_get (D := D) (ci := 5) (v := .ref ms) (C := R_M) (T := T_M) (N := 20) hx hb hg in_M hown hK hP 0 rfl rfl 6 (by decide) (hg _ gw_530) (fun _ h9 => h9) rfl d_M_run_36 ?_
        refine lv_iconst (v := 0) hx hb d_M_run_39 (by decide) ?_
        refine va_iald hx hb hK hP 1 1 rfl rfl (vp_in_nI (n := 0) (by decide) (by decide)) d_M_run_40 ?_
        refine tpi (y := nI pl) (hst) ?_
        refine lv_istore (lv' := [(4, .int (nI pl)), (3, .int (nI n0)), (0, .ref y), (1, .int (nI n0)), (2, .int 1)]) hx hb d_M_run_41 hl (by decide) rfl (fun ls hl => ?_)
        have tail : ∀ (H : Heap) (locs : List Loc), va_P D CLS [(y, .inr (5, [.int 0, .int (nI bi), .int (nI ne), .int (nI li), .int (nI sp), .int (nI q), .ref ms, .ref mw, .ref mu, .ref mc, .ref mn, .int en, .int (nI sz), .ref mr, .int (nI wa), .ref mq, .int (nI (0 + m0)), .ref md, .int at0, .int lk])), (ms, .inl (cI, 2, .inl st)), (mw, .inl (cI, 2, .inl lw)), (mr, .inl (cB, 6000, .inl wr)), (md, .inl (cB, 400, .inl (fil dr 1 0 m0)))] H → va_D A [(y, .inr (5, [.int 0, .int (nI bi), .int (nI ne), .int (nI li), .int (nI sp), .int (nI q), .ref ms, .ref mw, .ref mu, .ref mc, .ref mn, .int en, .int (nI sz), .ref mr, .int (nI wa), .ref mq, .int (nI (0 + m0)), .ref md, .int at0, .int lk])), (ms, .inl (cI, 2, .inl st)), (mw, .inl (cI, 2, .inl lw)), (mr, .inl (cB, 6000, .inl wr)), (md, .inl (cB, 400, .inl (fil dr 1 0 m0)))] → va_S A s.heap H locs → ∀ (ls : Array Slot), lv_has ls 6 [(4, .int (nI (rac pl m0))), (3, .int (nI (rrc n0 pl m0))), (0, .ref y), (1, .int (nI n0)), (2, .int 1)] → W p l e (headSpec (WSY y_M_run b_M_run 6 (some .int)) ({ frames := 2, cells := 0, slots := 0, locals := 50 })).room s m ([.ref y, .int (nI n0), .int 1] : List Value).toArray below meth c H locs 0 0 (MQ below (QM (some (.int (0))) [(y, .inr (5, [.int th, .int (nI bi), .int (nI ne), .int (nI li), .int (nI sp), .int (nI q), .ref ms, .ref mw, .ref mu, .ref mc, .ref mn, .int en, .int (nI sz), .ref mr, .int (nI wa), .ref mq, .int la, .ref md, .int at0, .int lk])), (ms, .inl (cI, 2, .inl st)), (mw, .inl (cI, 2, .inl lw)), (mr, .inl (cB, 6000, .inl wr)), (md, .inl (cB, 400, .inl dr))] [(y, .inr (5, [.int 2, .int (nI bi), .int (nI ne), .int (nI li), .int (nI sp), .int (nI q), .ref ms, .ref mw, .ref mu, .ref mc, .ref mn, .int en, .int (nI sz), .ref mr, .int (nI wa), .ref mq, .int (nI (0 + (if 0 < rrc n0 pl m0 then m0 + 1 else m0))), .ref md, .int at0, .int lk])), (ms, .inl (cI, 2, .inl st)), (mw, .inl (cI, 2, .inl lw)), (mr, .inl (cB, 6000, .inl wr)), (md, .inl (cB, 400, .inl (fil dr 1 0 (if 0 < rrc n0 pl m0 then m0 + 1 else m0))))] D) ([.ref y, .int (nI n0), .int 1] : List Value).toArray s 0 0 (ad [(y, .inr (5, [.int th, .int (nI bi), .int (nI ne), .int (nI li), .int (nI sp), .int (nI q), .ref ms, .ref mw, .ref mu, .ref mc, .ref mn, .int en, .int (nI sz), .ref mr, .int (nI wa), .ref mq, .int la, .ref md, .int at0, .int lk])), (ms, .inl (cI, 2, .inl st)), (mw, .inl (cI, 2, .inl lw)), (mr, .inl (cB, 6000, .inl wr)), (md, .inl (cB, 400, .inl dr))])) (F0 m 92 ls []) := by
          intro H locs hP hD hS ls hl
          refine lv_iload hx hb d_M_run_92 (lv_at hl 0 rfl) ?_
          have hPc := hP.sub (ws' := []) [] rfl
          have hKc := hK.sub (tys' := []) [] rfl
          refine pci (va_runS (As := [.int (nI (rac pl m0))]) (rest := []) ⟨hx, hb, hml, hown, hg⟩ (c_M_widthOf l D (rac pl m0) (rac_lt hpl m0)) (va_cwS 1 hg (gS gw_619 gw_620 gw_7 gw_621) rfl rfl rfl (by decide +kernel) ⟨Nat.le_of_ble_eq_true rfl, Nat.le_of_ble_eq_true rfl⟩) ⟨fun a U g mk q => by obtain ⟨q0, qP, qK⟩ := q; exact ⟨q0, qP, va_K.moved (u := U) (U := U.calling g mk a) (Vm.Alike.refl U.vm) qK⟩, fun U hU hW => ⟨rfl, by rw [hU]; exact hPc, va_K.moved hW.alike hKc⟩⟩ rfl rfl hl.1 rfl (lv_room (Nat.le_of_ble_eq_true rfl)) d_M_run_94 (⟨Nat.le_of_ble_eq_true rfl, Nat.le_of_ble_eq_true rfl⟩)) ?_
          refine lv_istore (lv' := [(5, .int (nI (wdt (rac pl m0)))), (4, .int (nI (rac pl m0))), (3, .int (nI (rrc n0 pl m0))), (0, .ref y), (1, .int (nI n0)), (2, .int 1)]) hx hb d_M_run_97 hl (by decide) rfl (fun ls hl => ?_)
          refine lv_iload_n hx hb d_M_run_99 rfl (lv_at hl 5 rfl) ?_
          refine lv_if_eq (tgt := 115) hx hb d_M_run_100 (by decide) (fun c_4 => ?_) (fun c_4 => ?_)
          · skip
            exact absurd c_4 (by decide)
          · skip
            refine lv_iload_n hx hb d_M_run_103 rfl (lv_at hl 2 rfl) ?_
            refine lv_if_le (tgt := 143) hx hb d_M_run_104 (by decide) (fun c_5 => ?_) (fun c_5 => ?_)
            · skip
              have hr0 : ¬ 0 < rrc n0 pl m0 := fun q9 => nI_nle q9 (by omega) c_5
              have hln : (if 0 < rrc n0 pl m0 then m0 + 1 else m0) = m0 := if_neg hr0
              refine lv_aload_n hx hb d_M_run_143 rfl (lv_at hl 3 rfl) ?_
              refine lv_aload_n hx hb d_M_run_144 rfl (lv_at hl 3 rfl) ?_
              have hPc := hP.sub (ws' := [(y, .inr (5, [.int 0, .int (nI bi), .int (nI ne), .int (nI li), .int (nI sp), .int (nI q), .ref ms, .ref mw, .ref mu, .ref mc, .ref mn, .int en, .int (nI sz), .ref mr, .int (nI wa), .ref mq, .int (nI (0 + m0)), .ref md, .int at0, .int lk]))]) [0] rfl
              have hKc := hK.sub (tys' := []) [] rfl
              refine pci (va_runV (As := []) (rest := [.ref y]) ⟨hx, hb, hml, hown, hg⟩ (c_M_hasRoom l D y ms mw mu mc mn mr mq md bi ne li sp q sz wa 0 en (nI (0 + m0)) at0 lk (0 + m0) hsz (by omega)) (cwV 0 hg (gV gw_606 gw_608 gs_16 gw_7 gw_609) rfl rfl rfl (by decide +kernel) ⟨Nat.le_of_ble_eq_true rfl, Nat.le_of_ble_eq_true rfl⟩) ⟨fun a U g mk q => by obtain ⟨q0, qP, qK⟩ := q; exact ⟨q0, qP, va_K.moved (u := U) (U := U.calling g mk a) (Vm.Alike.refl U.vm) qK⟩, va_recv hKc hPc (ci := 5) (q0 := 0) rfl rfl, fun U hU hW => ⟨rfl, by rw [hU]; exact hPc, va_K.moved hW.alike hKc⟩⟩ rfl rfl hl.1 rfl (lv_room (Nat.le_of_ble_eq_true rfl)) d_M_run_145 (⟨Nat.le_of_ble_eq_true rfl, Nat.le_of_ble_eq_true rfl⟩)) ?_
              refine tpi (y := 0) (if_neg (by omega)) ?_
              refine lv_if_eq (tgt := 155) hx hb d_M_run_148 (by decide) (fun c_6 => ?_) (fun c_6 => ?_)
              · skip
                refine lv_iconst (v := 2) hx hb d_M_run_155 (by decide) ?_
                refine va_put (D := D) (ci := 5) (v := .int 2) (ty := .int) (C := R_M) (T := T_M) (N := 20) hx hb hg in_M ty_M tok_M nm_M hown hK hP hD hS 0 rfl rfl 0 (by decide) (hg _ gw_524) (fun _ h9 => h9) rfl (by decide +kernel) (rfl) (rfl) (Nat.le_of_ble_eq_true rfl) d_M_run_156 (fun H locs hP hD hS => ?_)
                have hP : va_P D CLS [(y, .inr (5, [.int 2, .int (nI bi), .int (nI ne), .int (nI li), .int (nI sp), .int (nI q), .ref ms, .ref mw, .ref mu, .ref mc, .ref mn, .int en, .int (nI sz), .ref mr, .int (nI wa), .ref mq, .int (nI (0 + m0)), .ref md, .int at0, .int lk])), (ms, .inl (cI, 2, .inl st)), (mw, .inl (cI, 2, .inl lw)), (mr, .inl (cB, 6000, .inl wr)), (md, .inl (cB, 400, .inl (fil dr 1 0 m0)))] H := hP
                have hD : va_D A [(y, .inr (5, [.int 2, .int (nI bi), .int (nI ne), .int (nI li), .int (nI sp), .int (nI q), .ref ms, .ref mw, .ref mu, .ref mc, .ref mn, .int en, .int (nI sz), .ref mr, .int (nI wa), .ref mq, .int (nI (0 + m0)), .ref md, .int at0, .int lk])), (ms, .inl (cI, 2, .inl st)), (mw, .inl (cI, 2, .inl lw)), (mr, .inl (cB, 6000, .inl wr)), (md, .inl (cB, 400, .inl (fil dr 1 0 m0)))] := hD
                refine lv_aload_n hx hb d_M_run_159 rfl (lv_at hl 3 rfl) ?_
                refine va_get (D := D) (ci := 5) (v := .int 2) (C := R_M) (T := T_M) (N := 20) hx hb hg in_M hown hK hP 0 rfl rfl 0 (by decide) (hg _ gw_524) (fun _ h9 => h9) rfl d_M_run_160 ?_
                refine lv_if_le (tgt := 168) hx hb d_M_run_163 (by decide) (fun c_7 => ?_) (fun c_7 => ?_)
                · skip
                  exact absurd c_7 (by decide)
                · skip
                  refine lv_iconst (v := 0) hx hb d_M_run_166 (by decide) ?_
                  exact W.iret (v := 0) hx hb hr (fun t ht hW => ⟨rfl, by rw [ht]; exact (by rw [hln]; exact hP), (hAe ▸ hS).F ht⟩) (hAe ▸ hS).2.2 d_M_run_167
              · skip
                exact absurd rfl c_6
            · skip
              have hr0 : 0 < rrc n0 pl m0 := Nat.pos_of_ne_zero (fun q9 => c_5 (by rw [q9]; decide))
              have hln : (if 0 < rrc n0 pl m0 then m0 + 1 else m0) = m0 + 1 := if_pos hr0
              refine lv_aload_n hx hb d_M_run_107 rfl (lv_at hl 3 rfl) ?_
              refine lv_iconst (v := 1) hx hb d_M_run_108 (by decide) ?_
              have hPc := hP.sub (ws' := [(y, .inr (5, [.int 0, .int (nI bi), .int (nI ne), .int (nI li), .int (nI sp), .int (nI q), .ref ms, .ref mw, .ref mu, .ref mc, .ref mn, .int en, .int (nI sz), .ref mr, .int (nI wa), .ref mq, .int (nI (0 + m0)), .ref md, .int at0, .int lk])), (md, .inl (cB, 400, .inl (fil dr 1 0 m0)))]) [0, 4] rfl
              have hDc := hD.sub (ws' := [(y, .inr (5, [.int 0, .int (nI bi), .int (nI ne), .int (nI li), .int (nI sp), .int (nI q), .ref ms, .ref mw, .ref mu, .ref mc, .ref mn, .int en, .int (nI sz), .ref mr, .int (nI wa), .ref mq, .int (nI (0 + m0)), .ref md, .int at0, .int lk])), (md, .inl (cB, 400, .inl (fil dr 1 0 m0)))]) [0, 4] (by decide) rfl
              have hKc := hK.sub (tys' := [(cB, .byte)]) [0] rfl
              refine mcv (va_runV (As := [.int 1]) (rest := []) ⟨hx, hb, hml, hown, hg⟩ (c_M_lay l D y ms mw mu mc mn mr mq md bi ne li sp q sz wa 0 en la at0 lk cB (fil dr 1 0 m0) (0 + m0) 1 (Or.inr rfl) (by omega)) (cwV 1 hg (gV gw_598 gw_600 gs_14 gw_7 gw_601) rfl rfl rfl (by decide +kernel) ⟨Nat.le_of_ble_eq_true rfl, Nat.le_of_ble_eq_true rfl⟩) ⟨fun a U g mk q => by obtain ⟨q0, qP, qK, qD⟩ := q; exact ⟨q0, qP, va_K.moved (u := U) (U := U.calling g mk a) (Vm.Alike.refl U.vm) qK, qD⟩, va_recv hKc hPc (ci := 5) (q0 := 0) rfl rfl, fun U hU hW => ⟨rfl, by rw [hU]; exact hPc, va_K.moved hW.alike hKc, hDc.weaken (fun _ _ _ _ => trivial)⟩⟩ rfl rfl hl.1 rfl (lv_room (Nat.le_of_ble_eq_true rfl)) d_M_run_109 (⟨Nat.le_of_ble_eq_true rfl, Nat.le_of_ble_eq_true rfl⟩)) hS hP hD [0, 4] rfl rfl rfl (fun H locs hP hD hS => ?_)
              have hP : va_P D CLS [(y, .inr (5, [.int 0, .int (nI bi), .int (nI ne), .int (nI li), .int (nI sp), .int (nI q), .ref ms, .ref mw, .ref mu, .ref mc, .ref mn, .int en, .int (nI sz), .ref mr, .int (nI wa), .ref mq, .int (nI (0 + (m0 + 1))), .ref md, .int at0, .int lk])), (ms, .inl (cI, 2, .inl st)), (mw, .inl (cI, 2, .inl lw)), (mr, .inl (cB, 6000, .inl wr)), (md, .inl (cB, 400, .inl (fil dr 1 0 (m0 + 1))))] H := hP
              have hD : va_D A [(y, .inr (5, [.int 0, .int (nI bi), .int (nI ne), .int (nI li), .int (nI sp), .int (nI q), .ref ms, .ref mw, .ref mu, .ref mc, .ref mn, .int en, .int (nI sz), .ref mr, .int (nI wa), .ref mq, .int (nI (0 + (m0 + 1))), .ref md, .int at0, .int lk])), (ms, .inl (cI, 2, .inl st)), (mw, .inl (cI, 2, .inl lw)), (mr, .inl (cB, 6000, .inl wr)), (md, .inl (cB, 400, .inl (fil dr 1 0 (m0 + 1))))] := hD
              refine lv_goto (tgt := 143) hx hb d_M_run_112 (by decide) ?_
              refine lv_aload_n hx hb d_M_run_143 rfl (lv_at hl 3 rfl) ?_
              refine lv_aload_n hx hb d_M_run_144 rfl (lv_at hl 3 rfl) ?_
              have hPc := hP.sub (ws' := [(y, .inr (5, [.int 0, .int (nI bi), .int (nI ne), .int (nI li), .int (nI sp), .int (nI q), .ref ms, .ref mw, .ref mu, .ref mc, .ref mn, .int en, .int (nI sz), .ref mr, .int (nI wa), .ref mq, .int (nI (0 + (m0 + 1))), .ref md, .int at0, .int lk]))]) [0] rfl
              have hKc := hK.sub (tys' := []) [] rfl
              refine pci (va_runV (As := []) (rest := [.ref y]) ⟨hx, hb, hml, hown, hg⟩ (c_M_hasRoom l D y ms mw mu mc mn mr mq md bi ne li sp q sz wa 0 en (nI (0 + (m0 + 1))) at0 lk (0 + (m0 + 1)) hsz (by omega)) (cwV 0 hg (gV gw_606 gw_608 gs_16 gw_7 gw_609) rfl rfl rfl (by decide +kernel) ⟨Nat.le_of_ble_eq_true rfl, Nat.le_of_ble_eq_true rfl⟩) ⟨fun a U g mk q => by obtain ⟨q0, qP, qK⟩ := q; exact ⟨q0, qP, va_K.moved (u := U) (U := U.calling g mk a) (Vm.Alike.refl U.vm) qK⟩, va_recv hKc hPc (ci := 5) (q0 := 0) rfl rfl, fun U hU hW => ⟨rfl, by rw [hU]; exact hPc, va_K.moved hW.alike hKc⟩⟩ rfl rfl hl.1 rfl (lv_room (Nat.le_of_ble_eq_true rfl)) d_M_run_145 (⟨Nat.le_of_ble_eq_true rfl, Nat.le_of_ble_eq_true rfl⟩)) ?_
              refine tpi (y := 0) (if_neg (by omega)) ?_
              refine lv_if_eq (tgt := 155) hx hb d_M_run_148 (by decide) (fun c_8 => ?_) (fun c_8 => ?_)
              · skip
                refine lv_iconst (v := 2) hx hb d_M_run_155 (by decide) ?_
                refine va_put (D := D) (ci := 5) (v := .int 2) (ty := .int) (C := R_M) (T := T_M) (N := 20) hx hb hg in_M ty_M tok_M nm_M hown hK hP hD hS 0 rfl rfl 0 (by decide) (hg _ gw_524) (fun _ h9 => h9) rfl (by decide +kernel) (rfl) (rfl) (Nat.le_of_ble_eq_true rfl) d_M_run_156 (fun H locs hP hD hS => ?_)
                have hP : va_P D CLS [(y, .inr (5, [.int 2, .int (nI bi), .int (nI ne), .int (nI li), .int (nI sp), .int (nI q), .ref ms, .ref mw, .ref mu, .ref mc, .ref mn, .int en, .int (nI sz), .ref mr, .int (nI wa), .ref mq, .int (nI (0 + (m0 + 1))), .ref md, .int at0, .int lk])), (ms, .inl (cI, 2, .inl st)), (mw, .inl (cI, 2, .inl lw)), (mr, .inl (cB, 6000, .inl wr)), (md, .inl (cB, 400, .inl (fil dr 1 0 (m0 + 1))))] H := hP
                have hD : va_D A [(y, .inr (5, [.int 2, .int (nI bi), .int (nI ne), .int (nI li), .int (nI sp), .int (nI q), .ref ms, .ref mw, .ref mu, .ref mc, .ref mn, .int en, .int (nI sz), .ref mr, .int (nI wa), .ref mq, .int (nI (0 + (m0 + 1))), .ref md, .int at0, .int lk])), (ms, .inl (cI, 2, .inl st)), (mw, .inl (cI, 2, .inl lw)), (mr, .inl (cB, 6000, .inl wr)), (md, .inl (cB, 400, .inl (fil dr 1 0 (m0 + 1))))] := hD
                refine lv_aload_n hx hb d_M_run_159 rfl (lv_at hl 3 rfl) ?_
                refine va_get (D := D) (ci := 5) (v := .int 2) (C := R_M) (T := T_M) (N := 20) hx hb hg in_M hown hK hP 0 rfl rfl 0 (by decide) (hg _ gw_524) (fun _ h9 => h9) rfl d_M_run_160 ?_
                refine lv_if_le (tgt := 168) hx hb d_M_run_163 (by decide) (fun c_9 => ?_) (fun c_9 => ?_)
                · skip
                  exact absurd c_9 (by decide)
                · skip
                  refine lv_iconst (v := 0) hx hb d_M_run_166 (by decide) ?_
                  exact W.iret (v := 0) hx hb hr (fun t ht hW => ⟨rfl, by rw [ht]; exact (by rw [hln]; exact hP), (hAe ▸ hS).F ht⟩) (hAe ▸ hS).2.2 d_M_run_167
              · skip
                exact absurd rfl c_8
        have loop : ∀ (d j : Nat), j + d = m0 → ∀ (H : Heap) (locs : List Loc), va_P D CLS [(y, .inr (5, [.int 0, .int (nI bi), .int (nI ne), .int (nI li), .int (nI sp), .int (nI q), .ref ms, .ref mw, .ref mu, .ref mc, .ref mn, .int en, .int (nI sz), .ref mr, .int (nI wa), .ref mq, .int (nI (0 + j)), .ref md, .int at0, .int lk])), (ms, .inl (cI, 2, .inl st)), (mw, .inl (cI, 2, .inl lw)), (mr, .inl (cB, 6000, .inl wr)), (md, .inl (cB, 400, .inl (fil dr 1 0 j)))] H → va_D A [(y, .inr (5, [.int 0, .int (nI bi), .int (nI ne), .int (nI li), .int (nI sp), .int (nI q), .ref ms, .ref mw, .ref mu, .ref mc, .ref mn, .int en, .int (nI sz), .ref mr, .int (nI wa), .ref mq, .int (nI (0 + j)), .ref md, .int at0, .int lk])), (ms, .inl (cI, 2, .inl st)), (mw, .inl (cI, 2, .inl lw)), (mr, .inl (cB, 6000, .inl wr)), (md, .inl (cB, 400, .inl (fil dr 1 0 j)))] → va_S A s.heap H locs → ∀ (ls : Array Slot), lv_has ls 6 [(4, .int (nI (rac pl j))), (3, .int (nI (rrc n0 pl j))), (0, .ref y), (1, .int (nI n0)), (2, .int 1)] → W p l e (headSpec (WSY y_M_run b_M_run 6 (some .int)) ({ frames := 2, cells := 0, slots := 0, locals := 50 })).room s m ([.ref y, .int (nI n0), .int 1] : List Value).toArray below meth c H locs 0 0 (MQ below (QM (some (.int (0))) [(y, .inr (5, [.int th, .int (nI bi), .int (nI ne), .int (nI li), .int (nI sp), .int (nI q), .ref ms, .ref mw, .ref mu, .ref mc, .ref mn, .int en, .int (nI sz), .ref mr, .int (nI wa), .ref mq, .int la, .ref md, .int at0, .int lk])), (ms, .inl (cI, 2, .inl st)), (mw, .inl (cI, 2, .inl lw)), (mr, .inl (cB, 6000, .inl wr)), (md, .inl (cB, 400, .inl dr))] [(y, .inr (5, [.int 2, .int (nI bi), .int (nI ne), .int (nI li), .int (nI sp), .int (nI q), .ref ms, .ref mw, .ref mu, .ref mc, .ref mn, .int en, .int (nI sz), .ref mr, .int (nI wa), .ref mq, .int (nI (0 + (if 0 < rrc n0 pl m0 then m0 + 1 else m0))), .ref md, .int at0, .int lk])), (ms, .inl (cI, 2, .inl st)), (mw, .inl (cI, 2, .inl lw)), (mr, .inl (cB, 6000, .inl wr)), (md, .inl (cB, 400, .inl (fil dr 1 0 (if 0 < rrc n0 pl m0 then m0 + 1 else m0))))] D) ([.ref y, .int (nI n0), .int 1] : List Value).toArray s 0 0 (ad [(y, .inr (5, [.int th, .int (nI bi), .int (nI ne), .int (nI li), .int (nI sp), .int (nI q), .ref ms, .ref mw, .ref mu, .ref mc, .ref mn, .int en, .int (nI sz), .ref mr, .int (nI wa), .ref mq, .int la, .ref md, .int at0, .int lk])), (ms, .inl (cI, 2, .inl st)), (mw, .inl (cI, 2, .inl lw)), (mr, .inl (cB, 6000, .inl wr)), (md, .inl (cB, 400, .inl dr))])) (F0 m 43 ls []) := by
          intro d
          induction d with
          | zero =>
            intro j hj H locs hP hD hS ls hl
            obtain rfl : j = m0 := by omega
            have hwj := wdt_le (rac pl j) (rac_lt hpl j)
            have hpj := pw15 hwj
            have hrj := rrc_le n0 pl j
            have hlj := rac_lt hpl j
            refine lv_iload_n hx hb d_M_run_43 rfl (lv_at hl 1 rfl) ?_
            refine lv_iload hx hb d_M_run_44 (lv_at hl 0 rfl) ?_
            have hPc := hP.sub (ws' := []) [] rfl
            have hKc := hK.sub (tys' := []) [] rfl
            refine pci (va_runS (As := [.int (nI (rac pl j))]) (rest := [.int (nI (rrc n0 pl j))]) ⟨hx, hb, hml, hown, hg⟩ (c_M_widthOf l D (rac pl j) (rac_lt hpl j)) (va_cwS 1 hg (gS gw_619 gw_620 gw_7 gw_621) rfl rfl rfl (by decide +kernel) ⟨Nat.le_of_ble_eq_true rfl, Nat.le_of_ble_eq_true rfl⟩) ⟨fun a U g mk q => by obtain ⟨q0, qP, qK⟩ := q; exact ⟨q0, qP, va_K.moved (u := U) (U := U.calling g mk a) (Vm.Alike.refl U.vm) qK⟩, fun U hU hW => ⟨rfl, by rw [hU]; exact hPc, va_K.moved hW.alike hKc⟩⟩ rfl rfl hl.1 rfl (lv_room (Nat.le_of_ble_eq_true rfl)) d_M_run_46 (⟨Nat.le_of_ble_eq_true rfl, Nat.le_of_ble_eq_true rfl⟩)) ?_
            have hPc := hP.sub (ws' := []) [] rfl
            have hKc := hK.sub (tys' := []) [] rfl
            refine pci (va_runS (As := [.int (nI (wdt (rac pl j)))]) (rest := [.int (nI (rrc n0 pl j))]) ⟨hx, hb, hml, hown, hg⟩ (c_M_power l D (wdt (rac pl j)) (by omega)) (va_cwS 1 hg (gS gw_517 gw_518 gw_7 gw_519) rfl rfl rfl (by decide +kernel) ⟨Nat.le_of_ble_eq_true rfl, Nat.le_of_ble_eq_true rfl⟩) ⟨fun a U g mk q => by obtain ⟨q0, qP, qK⟩ := q; exact ⟨q0, qP, va_K.moved (u := U) (U := U.calling g mk a) (Vm.Alike.refl U.vm) qK⟩, fun U hU hW => ⟨rfl, by rw [hU]; exact hPc, va_K.moved hW.alike hKc⟩⟩ rfl rfl hl.1 rfl (lv_room (Nat.le_of_ble_eq_true rfl)) d_M_run_49 (⟨Nat.le_of_ble_eq_true rfl, Nat.le_of_ble_eq_true rfl⟩)) ?_
            refine lv_icmp_lt (tgt := 92) hx hb d_M_run_52 (by decide) (fun c_10 => ?_) (fun c_10 => ?_)
            · skip
              exact tail H locs hP hD hS ls (lv_sub hl [0, 1, 2, 3, 4] rfl)
            · skip
              exact absurd ((nI_ltI (by omega) (by omega)).mpr hm2) c_10
          | succ d ih =>
            intro j hj H locs hP hD hS ls hl
            have hwj := wdt_le (rac pl j) (rac_lt hpl j)
            have hpj := pw15 hwj
            have hrj := rrc_le n0 pl j
            have hlj := rac_lt hpl j
            refine lv_iload_n hx hb d_M_run_43 rfl (lv_at hl 1 rfl) ?_
            refine lv_iload hx hb d_M_run_44 (lv_at hl 0 rfl) ?_
            have hPc := hP.sub (ws' := []) [] rfl
            have hKc := hK.sub (tys' := []) [] rfl
            refine pci (va_runS (As := [.int (nI (rac pl j))]) (rest := [.int (nI (rrc n0 pl j))]) ⟨hx, hb, hml, hown, hg⟩ (c_M_widthOf l D (rac pl j) (rac_lt hpl j)) (va_cwS 1 hg (gS gw_619 gw_620 gw_7 gw_621) rfl rfl rfl (by decide +kernel) ⟨Nat.le_of_ble_eq_true rfl, Nat.le_of_ble_eq_true rfl⟩) ⟨fun a U g mk q => by obtain ⟨q0, qP, qK⟩ := q; exact ⟨q0, qP, va_K.moved (u := U) (U := U.calling g mk a) (Vm.Alike.refl U.vm) qK⟩, fun U hU hW => ⟨rfl, by rw [hU]; exact hPc, va_K.moved hW.alike hKc⟩⟩ rfl rfl hl.1 rfl (lv_room (Nat.le_of_ble_eq_true rfl)) d_M_run_46 (⟨Nat.le_of_ble_eq_true rfl, Nat.le_of_ble_eq_true rfl⟩)) ?_
            have hPc := hP.sub (ws' := []) [] rfl
            have hKc := hK.sub (tys' := []) [] rfl
            refine pci (va_runS (As := [.int (nI (wdt (rac pl j)))]) (rest := [.int (nI (rrc n0 pl j))]) ⟨hx, hb, hml, hown, hg⟩ (c_M_power l D (wdt (rac pl j)) (by omega)) (va_cwS 1 hg (gS gw_517 gw_518 gw_7 gw_519) rfl rfl rfl (by decide +kernel) ⟨Nat.le_of_ble_eq_true rfl, Nat.le_of_ble_eq_true rfl⟩) ⟨fun a U g mk q => by obtain ⟨q0, qP, qK⟩ := q; exact ⟨q0, qP, va_K.moved (u := U) (U := U.calling g mk a) (Vm.Alike.refl U.vm) qK⟩, fun U hU hW => ⟨rfl, by rw [hU]; exact hPc, va_K.moved hW.alike hKc⟩⟩ rfl rfl hl.1 rfl (lv_room (Nat.le_of_ble_eq_true rfl)) d_M_run_49 (⟨Nat.le_of_ble_eq_true rfl, Nat.le_of_ble_eq_true rfl⟩)) ?_
            refine lv_icmp_lt (tgt := 92) hx hb d_M_run_52 (by decide) (fun c_11 => ?_) (fun c_11 => ?_)
            · skip
              exact absurd ((nI_ltI (by omega) (by omega)).mp c_11) (by have := hm1 j (by omega); omega)
            · skip
              refine lv_aload_n hx hb d_M_run_55 rfl (lv_at hl 2 rfl) ?_
              refine lv_iconst (v := 1) hx hb d_M_run_56 (by decide) ?_
              have hPc := hP.sub (ws' := [(y, .inr (5, [.int 0, .int (nI bi), .int (nI ne), .int (nI li), .int (nI sp), .int (nI q), .ref ms, .ref mw, .ref mu, .ref mc, .ref mn, .int en, .int (nI sz), .ref mr, .int (nI wa), .ref mq, .int (nI (0 + j)), .ref md, .int at0, .int lk])), (md, .inl (cB, 400, .inl (fil dr 1 0 j)))]) [0, 4] rfl
              have hDc := hD.sub (ws' := [(y, .inr (5, [.int 0, .int (nI bi), .int (nI ne), .int (nI li), .int (nI sp), .int (nI q), .ref ms, .ref mw, .ref mu, .ref mc, .ref mn, .int en, .int (nI sz), .ref mr, .int (nI wa), .ref mq, .int (nI (0 + j)), .ref md, .int at0, .int lk])), (md, .inl (cB, 400, .inl (fil dr 1 0 j)))]) [0, 4] (by decide) rfl
              have hKc := hK.sub (tys' := [(cB, .byte)]) [0] rfl
              refine mcv (va_runV (As := [.int 1]) (rest := []) ⟨hx, hb, hml, hown, hg⟩ (c_M_lay l D y ms mw mu mc mn mr mq md bi ne li sp q sz wa 0 en la at0 lk cB (fil dr 1 0 j) (0 + j) 1 (Or.inr rfl) (by omega)) (cwV 1 hg (gV gw_598 gw_600 gs_14 gw_7 gw_601) rfl rfl rfl (by decide +kernel) ⟨Nat.le_of_ble_eq_true rfl, Nat.le_of_ble_eq_true rfl⟩) ⟨fun a U g mk q => by obtain ⟨q0, qP, qK, qD⟩ := q; exact ⟨q0, qP, va_K.moved (u := U) (U := U.calling g mk a) (Vm.Alike.refl U.vm) qK, qD⟩, va_recv hKc hPc (ci := 5) (q0 := 0) rfl rfl, fun U hU hW => ⟨rfl, by rw [hU]; exact hPc, va_K.moved hW.alike hKc, hDc.weaken (fun _ _ _ _ => trivial)⟩⟩ rfl rfl hl.1 rfl (lv_room (Nat.le_of_ble_eq_true rfl)) d_M_run_57 (⟨Nat.le_of_ble_eq_true rfl, Nat.le_of_ble_eq_true rfl⟩)) hS hP hD [0, 4] rfl rfl rfl (fun H locs hP hD hS => ?_)
              have hP : va_P D CLS [(y, .inr (5, [.int 0, .int (nI bi), .int (nI ne), .int (nI li), .int (nI sp), .int (nI q), .ref ms, .ref mw, .ref mu, .ref mc, .ref mn, .int en, .int (nI sz), .ref mr, .int (nI wa), .ref mq, .int (nI (0 + (j + 1))), .ref md, .int at0, .int lk])), (ms, .inl (cI, 2, .inl st)), (mw, .inl (cI, 2, .inl lw)), (mr, .inl (cB, 6000, .inl wr)), (md, .inl (cB, 400, .inl (fil dr 1 0 (j + 1))))] H := hP
              have hD : va_D A [(y, .inr (5, [.int 0, .int (nI bi), .int (nI ne), .int (nI li), .int (nI sp), .int (nI q), .ref ms, .ref mw, .ref mu, .ref mc, .ref mn, .int en, .int (nI sz), .ref mr, .int (nI wa), .ref mq, .int (nI (0 + (j + 1))), .ref md, .int at0, .int lk])), (ms, .inl (cI, 2, .inl st)), (mw, .inl (cI, 2, .inl lw)), (mr, .inl (cB, 6000, .inl wr)), (md, .inl (cB, 400, .inl (fil dr 1 0 (j + 1))))] := hD
              refine lv_iload_n hx hb d_M_run_60 rfl (lv_at hl 1 rfl) ?_
              refine lv_iload hx hb d_M_run_61 (lv_at hl 0 rfl) ?_
              have hPc := hP.sub (ws' := []) [] rfl
              have hKc := hK.sub (tys' := []) [] rfl
              refine pci (va_runS (As := [.int (nI (rac pl j))]) (rest := [.int (nI (rrc n0 pl j))]) ⟨hx, hb, hml, hown, hg⟩ (c_M_widthOf l D (rac pl j) (rac_lt hpl j)) (va_cwS 1 hg (gS gw_619 gw_620 gw_7 gw_621) rfl rfl rfl (by decide +kernel) ⟨Nat.le_of_ble_eq_true rfl, Nat.le_of_ble_eq_true rfl⟩) ⟨fun a U g mk q => by obtain ⟨q0, qP, qK⟩ := q; exact ⟨q0, qP, va_K.moved (u := U) (U := U.calling g mk a) (Vm.Alike.refl U.vm) qK⟩, fun U hU hW => ⟨rfl, by rw [hU]; exact hPc, va_K.moved hW.alike hKc⟩⟩ rfl rfl hl.1 rfl (lv_room (Nat.le_of_ble_eq_true rfl)) d_M_run_63 (⟨Nat.le_of_ble_eq_true rfl, Nat.le_of_ble_eq_true rfl⟩)) ?_
              have hPc := hP.sub (ws' := []) [] rfl
              have hKc := hK.sub (tys' := []) [] rfl
              refine pci (va_runS (As := [.int (nI (wdt (rac pl j)))]) (rest := [.int (nI (rrc n0 pl j))]) ⟨hx, hb, hml, hown, hg⟩ (c_M_power l D (wdt (rac pl j)) (by omega)) (va_cwS 1 hg (gS gw_517 gw_518 gw_7 gw_519) rfl rfl rfl (by decide +kernel) ⟨Nat.le_of_ble_eq_true rfl, Nat.le_of_ble_eq_true rfl⟩) ⟨fun a U g mk q => by obtain ⟨q0, qP, qK⟩ := q; exact ⟨q0, qP, va_K.moved (u := U) (U := U.calling g mk a) (Vm.Alike.refl U.vm) qK⟩, fun U hU hW => ⟨rfl, by rw [hU]; exact hPc, va_K.moved hW.alike hKc⟩⟩ rfl rfl hl.1 rfl (lv_room (Nat.le_of_ble_eq_true rfl)) d_M_run_66 (⟨Nat.le_of_ble_eq_true rfl, Nat.le_of_ble_eq_true rfl⟩)) ?_
              refine lv_isub hx hb d_M_run_69 ?_
              refine tpi (y := nI (rrc n0 pl (j + 1))) (pk_sub (hm1 j (by omega))) ?_
              refine lv_istore_n (lv' := [(3, .int (nI (rrc n0 pl (j + 1)))), (4, .int (nI (rac pl j))), (0, .ref y), (1, .int (nI n0)), (2, .int 1)]) hx hb d_M_run_70 rfl hl (by decide) rfl (fun ls hl => ?_)
              refine lv_iload hx hb d_M_run_71 (lv_at hl 1 rfl) ?_
              refine lv_bipush (v := 31) hx hb d_M_run_73 (by decide) ?_
              refine lv_icmp_ge (tgt := 85) hx hb d_M_run_75 (by decide) (fun c_12 => ?_) (fun c_12 => ?_)
              · skip
                have h31 := (nI_leI (a := 31) (by omega) (by omega)).mp c_12
                refine lv_iload hx hb d_M_run_85 (lv_at hl 1 rfl) ?_
                refine tpi (y := nI (rac pl (j + 1))) (congrArg nI (show rac pl j = upp (rac pl j) from (if_neg (by omega)).symm)) ?_
                refine lv_istore (lv' := [(4, .int (nI (rac pl (j + 1)))), (3, .int (nI (rrc n0 pl (j + 1)))), (0, .ref y), (1, .int (nI n0)), (2, .int 1)]) hx hb d_M_run_87 hl (by decide) rfl (fun ls hl => ?_)
                refine lv_goto (tgt := 43) hx hb d_M_run_89 (by decide) ?_
                exact ih (j + 1) (by omega) H locs hP hD hS ls (lv_sub hl [0, 1, 2, 3, 4] rfl)
              · skip
                have h31 : ¬ 31 ≤ rac pl j := fun q9 => c_12 ((nI_leI (a := 31) (by omega) (by omega)).mpr q9)
                refine lv_iload hx hb d_M_run_78 (lv_at hl 1 rfl) ?_
                refine lv_iconst (v := 1) hx hb d_M_run_80 (by decide) ?_
                refine lv_iadd hx hb d_M_run_81 ?_
                refine tpi (y := nI (rac pl (j + 1))) ((nI_1 _).trans (congrArg nI (show rac pl j + 1 = upp (rac pl j) from (if_pos (by omega)).symm))) ?_
                refine lv_goto (tgt := 87) hx hb d_M_run_82 (by decide) ?_
                refine lv_istore (lv' := [(4, .int (nI (rac pl (j + 1)))), (3, .int (nI (rrc n0 pl (j + 1)))), (0, .ref y), (1, .int (nI n0)), (2, .int 1)]) hx hb d_M_run_87 hl (by decide) rfl (fun ls hl => ?_)
                refine lv_goto (tgt := 43) hx hb d_M_run_89 (by decide) ?_
                exact ih (j + 1) (by omega) H locs hP hD hS ls (lv_sub hl [0, 1, 2, 3, 4] rfl)
        exact loop m0 0 (by omega) H locs hP hD hS ls hl
      · skip
        exact absurd (by decide) c_3
    · skip
      exact absurd (nI_le hn (by omega)) c_2
set_option maxHeartbeats 4000000 in
set_option maxRecDepth 100000 in
theorem c_M_runT (l : Launch) (D : va_G) (y ms mw mu mc mn mr mq md bi ne li sp q sz wa : Nat) (th en la at0 lk : Int32) (v0 v1 : Int32) (hbad : v0 < 0 ∨ nI 65535 < v0) : Met l y_M_run (WSY y_M_run b_M_run 6 (some .int)) ({ frames := 2, cells := 0, slots := 0, locals := 50 }) (va_Pc [.ref y, .int v0, .int v1] (fun U => va_P D CLS [(y, .inr (5, [.int th, .int (nI bi), .int (nI ne), .int (nI li), .int (nI sp), .int (nI q), .ref ms, .ref mw, .ref mu, .ref mc, .ref mn, .int en, .int (nI sz), .ref mr, .int (nI wa), .ref mq, .int la, .ref md, .int at0, .int lk]))] U.heap ∧ va_K D CLS [] U ∧ va_D (fun _ => True) [(y, .inr (5, [.int th, .int (nI bi), .int (nI ne), .int (nI li), .int (nI sp), .int (nI q), .ref ms, .ref mw, .ref mu, .ref mc, .ref mn, .int en, .int (nI sz), .ref mr, .int (nI wa), .ref mq, .int la, .ref md, .int at0, .int lk]))])) (QM (some (.int 0)) [(y, .inr (5, [.int th, .int (nI bi), .int (nI ne), .int (nI li), .int (nI sp), .int (nI q), .ref ms, .ref mw, .ref mu, .ref mc, .ref mn, .int en, .int (nI sz), .ref mr, .int (nI wa), .ref mq, .int la, .ref md, .int at0, .int lk]))] [(y, .inr (5, [.int 1, .int (nI bi), .int (nI ne), .int (nI li), .int (nI sp), .int (nI q), .ref ms, .ref mw, .ref mu, .ref mc, .ref mn, .int en, .int (nI sz), .ref mr, .int (nI wa), .ref mq, .int la, .ref md, .int at0, .int lk]))] D) 0 0 (ad [(y, .inr (5, [.int th, .int (nI bi), .int (nI ne), .int (nI li), .int (nI sp), .int (nI q), .ref ms, .ref mw, .ref mu, .ref mc, .ref mn, .int en, .int (nI sz), .ref mr, .int (nI wa), .ref mq, .int la, .ref md, .int at0, .int lk]))]) := by
  refine Met.ofW (cc := b_M_run) (maxL := 6) (ret := (some .int)) (by decide) rfl ?_
  intro p e s m args below meth c s₁ B hml hv
  obtain ⟨rfl, hP, hK, hD0⟩ := hv
  have hx := B.exec
  have hb := B.bytes
  have hr := B.returns
  have hts := atoms_spec (ws := WSY y_M_run b_M_run 6 (some .int)) B.pre
  have hg : ∀ w ∈ GW, w.before _ s = true := fun w h => hts w (List.mem_cons_of_mem _ h)
  have hown : s.vm.findClass "LineGolombModel" = some m.cls := findClass_of_methodNamed B.named
  have hlocks := B.notSynchronized
  obtain ⟨A, hAe⟩ : ∃ A, A = ad [(y, .inr (5, [.int th, .int (nI bi), .int (nI ne), .int (nI li), .int (nI sp), .int (nI q), .ref ms, .ref mw, .ref mu, .ref mc, .ref mn, .int en, .int (nI sz), .ref mr, .int (nI wa), .ref mq, .int la, .ref md, .int at0, .int lk]))] := ⟨_, rfl⟩
  have hD : va_D A [(y, .inr (5, [.int th, .int (nI bi), .int (nI ne), .int (nI li), .int (nI sp), .int (nI q), .ref ms, .ref mw, .ref mu, .ref mc, .ref mn, .int en, .int (nI sz), .ref mr, .int (nI wa), .ref mq, .int la, .ref md, .int at0, .int lk]))] := by rw [hAe]; exact va_D_ad hD0
  have hS : va_S A s.heap s.heap [] := va_S.rf
  have hl := lv_entry ([.ref y, .int v0, .int v1]) (n := 6) (Nat.le_of_ble_eq_true rfl)
  rw [lg_entry_eq]
  generalize (lg_sl ([.ref y, .int v0, .int v1]) ++ List.replicate (6 - (lg_sl ([.ref y, .int v0, .int v1])).length) Slot.unset).toArray = ls at hl ⊢
  have hl : lv_has ls 6 [(0, .ref y), (1, .int v0), (2, .int v1)] := hl
  refine lv_aload_n hx hb d_M_run_0 rfl (lv_at hl 0 rfl) ?_
  refine lv_iload_n hx hb d_M_run_1 rfl (lv_at hl 1 rfl) ?_
  refine lv_if_lt (tgt := 11) hx hb d_M_run_2 (by decide) (fun c_1 => ?_) (fun c_1 => ?_)
  · skip
    refine lv_iconst (v := 1) hx hb d_M_run_11 (by decide) ?_
    refine lv_goto (tgt := 16) hx hb d_M_run_12 (by decide) ?_
    refine va_put (D := D) (ci := 5) (v := .int 1) (ty := .int) (C := R_M) (T := T_M) (N := 20) hx hb hg in_M ty_M tok_M nm_M hown hK hP hD hS 0 rfl rfl 0 (by decide) (hg _ gw_524) (fun _ h9 => h9) rfl (by decide +kernel) (rfl) (rfl) (Nat.le_of_ble_eq_true rfl) d_M_run_16 (fun H locs hP hD hS => ?_)
    have hP : va_P D CLS [(y, .inr (5, [.int 1, .int (nI bi), .int (nI ne), .int (nI li), .int (nI sp), .int (nI q), .ref ms, .ref mw, .ref mu, .ref mc, .ref mn, .int en, .int (nI sz), .ref mr, .int (nI wa), .ref mq, .int la, .ref md, .int at0, .int lk]))] H := hP
    have hD : va_D A [(y, .inr (5, [.int 1, .int (nI bi), .int (nI ne), .int (nI li), .int (nI sp), .int (nI q), .ref ms, .ref mw, .ref mu, .ref mc, .ref mn, .int en, .int (nI sz), .ref mr, .int (nI wa), .ref mq, .int la, .ref md, .int at0, .int lk]))] := hD
    refine lv_aload_n hx hb d_M_run_19 rfl (lv_at hl 0 rfl) ?_
    refine va_get (D := D) (ci := 5) (v := .int 1) (C := R_M) (T := T_M) (N := 20) hx hb hg in_M hown hK hP 0 rfl rfl 0 (by decide) (hg _ gw_524) (fun _ h9 => h9) rfl d_M_run_20 ?_
    refine lv_if_le (tgt := 28) hx hb d_M_run_23 (by decide) (fun c_2 => ?_) (fun c_2 => ?_)
    · skip
      exact absurd c_2 (by decide)
    · skip
      refine lv_iconst (v := 0) hx hb d_M_run_26 (by decide) ?_
      exact W.iret (v := 0) hx hb hr (fun t ht hW => ⟨rfl, by rw [ht]; exact hP, (hAe ▸ hS).F ht⟩) (hAe ▸ hS).2.2 d_M_run_27
  · skip
    refine lv_iload_n hx hb d_M_run_5 rfl (lv_at hl 1 rfl) ?_
    refine lv_ldc (v := 65535) hx hb hown (hg _ gw_618) d_M_run_6 ?_
    refine lv_icmp_le (tgt := 15) hx hb d_M_run_8 (by decide) (fun c_3 => ?_) (fun c_3 => ?_)
    · skip
      exact absurd hbad (fun q9 => q9.elim c_1 (Int32.not_lt.mpr c_3))
    · skip
      refine lv_iconst (v := 1) hx hb d_M_run_11 (by decide) ?_
      refine lv_goto (tgt := 16) hx hb d_M_run_12 (by decide) ?_
      refine va_put (D := D) (ci := 5) (v := .int 1) (ty := .int) (C := R_M) (T := T_M) (N := 20) hx hb hg in_M ty_M tok_M nm_M hown hK hP hD hS 0 rfl rfl 0 (by decide) (hg _ gw_524) (fun _ h9 => h9) rfl (by decide +kernel) (rfl) (rfl) (Nat.le_of_ble_eq_true rfl) d_M_run_16 (fun H locs hP hD hS => ?_)
      have hP : va_P D CLS [(y, .inr (5, [.int 1, .int (nI bi), .int (nI ne), .int (nI li), .int (nI sp), .int (nI q), .ref ms, .ref mw, .ref mu, .ref mc, .ref mn, .int en, .int (nI sz), .ref mr, .int (nI wa), .ref mq, .int la, .ref md, .int at0, .int lk]))] H := hP
      have hD : va_D A [(y, .inr (5, [.int 1, .int (nI bi), .int (nI ne), .int (nI li), .int (nI sp), .int (nI q), .ref ms, .ref mw, .ref mu, .ref mc, .ref mn, .int en, .int (nI sz), .ref mr, .int (nI wa), .ref mq, .int la, .ref md, .int at0, .int lk]))] := hD
      refine lv_aload_n hx hb d_M_run_19 rfl (lv_at hl 0 rfl) ?_
      refine va_get (D := D) (ci := 5) (v := .int 1) (C := R_M) (T := T_M) (N := 20) hx hb hg in_M hown hK hP 0 rfl rfl 0 (by decide) (hg _ gw_524) (fun _ h9 => h9) rfl d_M_run_20 ?_
      refine lv_if_le (tgt := 28) hx hb d_M_run_23 (by decide) (fun c_4 => ?_) (fun c_4 => ?_)
      · skip
        exact absurd c_4 (by decide)
      · skip
        refine lv_iconst (v := 0) hx hb d_M_run_26 (by decide) ?_
        exact W.iret (v := 0) hx hb hr (fun t ht hW => ⟨rfl, by rw [ht]; exact hP, (hAe ▸ hS).F ht⟩) (hAe ▸ hS).2.2 d_M_run_27
set_option maxHeartbeats 4000000 in
set_option maxRecDepth 100000 in
theorem c_M_interrupt0PG (l : Launch) (D : va_G) (y ms mw mu mc mn mr mq md bi ne li sp q sz wa : Nat) (th en la at0 lk : Int32) (cB cI : ClassId) (lw su cu nu wr dr : Nat → Int32) (rw sm ct ng n K M : Nat) (hlw : lw 0 = nI rw) (hsu : su 0 = nI sm) (hcu : cu 0 = nI ct) (hnu : nu 0 = nI ng) (hc0 : ct ≤ 64) (hn0 : ng ≤ 64) (hs0 : sm < 2 ^ 29) (hKb : K ≤ 29) (hK1 : sm ≤ ct * 2 ^ K) (hK2 : ∀ j, j < K → ct * 2 ^ j < sm) (hsp : sp ≤ 65536) (hn : n ≤ sp / 2) (hM : M = 2 * n - 0 - (if ¬ n = 0 ∧ (K = 0 ∧ 2 * ng < ct) then 1 else 0)) (hq : q ≤ 29) (hli : q + 18 ≤ li) (hlb : li ≤ 200) (hrw : rw ≤ 15) (hsz : sz ≤ 6000) (hu : sz + nlen q K M (li - 1 - rw - q - 1) ≤ 6000) : Met l y_M_interrupt (WSY y_M_interrupt b_M_interrupt 5 (some .int)) ({ frames := 3, cells := 0, slots := 0, locals := 72 }) (va_Pc [.ref y, .int 0, .int (nI n)] (fun U => va_P D CLS [(y, .inr (5, [.int th, .int (nI bi), .int (nI ne), .int (nI li), .int (nI sp), .int (nI q), .ref ms, .ref mw, .ref mu, .ref mc, .ref mn, .int en, .int (nI sz), .ref mr, .int (nI wa), .ref mq, .int la, .ref md, .int at0, .int lk])), (mw, .inl (cI, 2, .inl lw)), (mu, .inl (cI, 4, .inl su)), (mc, .inl (cI, 4, .inl cu)), (mn, .inl (cI, 4, .inl nu)), (mr, .inl (cB, 6000, .inl wr)), (md, .inl (cB, 400, .inl dr))] U.heap ∧ va_K D CLS [(cB, .byte), (cI, .int)] U ∧ va_D (fun _ => True) [(y, .inr (5, [.int th, .int (nI bi), .int (nI ne), .int (nI li), .int (nI sp), .int (nI q), .ref ms, .ref mw, .ref mu, .ref mc, .ref mn, .int en, .int (nI sz), .ref mr, .int (nI wa), .ref mq, .int la, .ref md, .int at0, .int lk])), (mw, .inl (cI, 2, .inl lw)), (mu, .inl (cI, 4, .inl su)), (mc, .inl (cI, 4, .inl cu)), (mn, .inl (cI, 4, .inl nu)), (mr, .inl (cB, 6000, .inl wr)), (md, .inl (cB, 400, .inl dr))])) (QM (some (.int (nI (0 + nlen q K M (li - 1 - rw - q - 1))))) [(y, .inr (5, [.int th, .int (nI bi), .int (nI ne), .int (nI li), .int (nI sp), .int (nI q), .ref ms, .ref mw, .ref mu, .ref mc, .ref mn, .int en, .int (nI sz), .ref mr, .int (nI wa), .ref mq, .int la, .ref md, .int at0, .int lk])), (mw, .inl (cI, 2, .inl lw)), (mu, .inl (cI, 4, .inl su)), (mc, .inl (cI, 4, .inl cu)), (mn, .inl (cI, 4, .inl nu)), (mr, .inl (cB, 6000, .inl wr)), (md, .inl (cB, 400, .inl dr))] [(y, .inr (5, [.int 0, .int (nI bi), .int (nI ne), .int (nI li), .int (nI sp), .int (nI q), .ref ms, .ref mw, .ref mu, .ref mc, .ref mn, .int en, .int (nI (sz + (0 + nlen q K M (li - 1 - rw - q - 1)))), .ref mr, .int (nI wa), .ref mq, .int (nI (0 + nlen q K M (li - 1 - rw - q - 1))), .ref md, .int at0, .int lk])), (mw, .inl (cI, 2, .inl lw)), (mu, .inl (cI, 4, .inl (upd su 0 (nI (hvd ct (sm + (M + 1 - 0) / 2)))))), (mc, .inl (cI, 4, .inl (upd cu 0 (nI (hvd ct ct + 1))))), (mn, .inl (cI, 4, .inl (upd nu 0 (nI (hvd ct ng))))), (mr, .inl (cB, 6000, .inl (cpw wr sz (wnum dr q K M (li - 1 - rw - q - 1) 0) (0 + nlen q K M (li - 1 - rw - q - 1))))), (md, .inl (cB, 400, .inl (wnum dr q K M (li - 1 - rw - q - 1) 0)))] D) 0 0 (ad [(y, .inr (5, [.int th, .int (nI bi), .int (nI ne), .int (nI li), .int (nI sp), .int (nI q), .ref ms, .ref mw, .ref mu, .ref mc, .ref mn, .int en, .int (nI sz), .ref mr, .int (nI wa), .ref mq, .int la, .ref md, .int at0, .int lk])), (mw, .inl (cI, 2, .inl lw)), (mu, .inl (cI, 4, .inl su)), (mc, .inl (cI, 4, .inl cu)), (mn, .inl (cI, 4, .inl nu)), (mr, .inl (cB, 6000, .inl wr)), (md, .inl (cB, 400, .inl dr))]) := by
  refine Met.ofW (cc := b_M_interrupt) (maxL := 5) (ret := (some .int)) (by decide) rfl ?_
  intro p e s m args below meth c s₁ B hml hv
  obtain ⟨rfl, hP, hK, hD0⟩ := hv
  have hx := B.exec
  have hb := B.bytes
  have hr := B.returns
  have hts := atoms_spec (ws := WSY y_M_interrupt b_M_interrupt 5 (some .int)) B.pre
  have hg : ∀ w ∈ GW, w.before _ s = true := fun w h => hts w (List.mem_cons_of_mem _ h)
  have hown : s.vm.findClass "LineGolombModel" = some m.cls := findClass_of_methodNamed B.named
  have hlocks := B.notSynchronized
  obtain ⟨A, hAe⟩ : ∃ A, A = ad [(y, .inr (5, [.int th, .int (nI bi), .int (nI ne), .int (nI li), .int (nI sp), .int (nI q), .ref ms, .ref mw, .ref mu, .ref mc, .ref mn, .int en, .int (nI sz), .ref mr, .int (nI wa), .ref mq, .int la, .ref md, .int at0, .int lk])), (mw, .inl (cI, 2, .inl lw)), (mu, .inl (cI, 4, .inl su)), (mc, .inl (cI, 4, .inl cu)), (mn, .inl (cI, 4, .inl nu)), (mr, .inl (cB, 6000, .inl wr)), (md, .inl (cB, 400, .inl dr))] := ⟨_, rfl⟩
  have hD : va_D A [(y, .inr (5, [.int th, .int (nI bi), .int (nI ne), .int (nI li), .int (nI sp), .int (nI q), .ref ms, .ref mw, .ref mu, .ref mc, .ref mn, .int en, .int (nI sz), .ref mr, .int (nI wa), .ref mq, .int la, .ref md, .int at0, .int lk])), (mw, .inl (cI, 2, .inl lw)), (mu, .inl (cI, 4, .inl su)), (mc, .inl (cI, 4, .inl cu)), (mn, .inl (cI, 4, .inl nu)), (mr, .inl (cB, 6000, .inl wr)), (md, .inl (cB, 400, .inl dr))] := by rw [hAe]; exact va_D_ad hD0
  have hS : va_S A s.heap s.heap [] := va_S.rf
  have hl := lv_entry ([.ref y, .int 0, .int (nI n)]) (n := 5) (Nat.le_of_ble_eq_true rfl)
  rw [lg_entry_eq]
  generalize (lg_sl ([.ref y, .int 0, .int (nI n)]) ++ List.replicate (5 - (lg_sl ([.ref y, .int 0, .int (nI n)])).length) Slot.unset).toArray = ls at hl ⊢
  have hl : lv_has ls 5 [(0, .ref y), (1, .int 0), (2, .int (nI n))] := hl
  have hMb : M ≤ 2 * n := by rw [hM]; omega
  have hlen : nlen q K M (li - 1 - rw - q - 1) ≤ 400 := by unfold nlen; split <;> omega
  refine lv_aload_n hx hb d_M_interrupt_0 rfl (lv_at hl 0 rfl) ?_
  refine lv_aload_n hx hb d_M_interrupt_1 rfl (lv_at hl 0 rfl) ?_
  refine lv_iload_n hx hb d_M_interrupt_2 rfl (lv_at hl 1 rfl) ?_
  have hPc := hP.sub (ws' := [(y, .inr (5, [.int th, .int (nI bi), .int (nI ne), .int (nI li), .int (nI sp), .int (nI q), .ref ms, .ref mw, .ref mu, .ref mc, .ref mn, .int en, .int (nI sz), .ref mr, .int (nI wa), .ref mq, .int la, .ref md, .int at0, .int lk]))]) [0] rfl
  have hKc := hK.sub (tys' := []) [] rfl
  refine pci (va_runV (As := [.int 0]) (rest := [.ref y]) ⟨hx, hb, hml, hown, hg⟩ (c_M_isKind l D y ms mw mu mc mn mr mq md bi ne li sp q sz wa th en la at0 lk 0) (cwV 1 hg (gV gw_626 gw_628 gs_18 gw_7 gw_629) rfl rfl rfl (by decide +kernel) ⟨Nat.le_of_ble_eq_true rfl, Nat.le_of_ble_eq_true rfl⟩) ⟨fun a U g mk q => by obtain ⟨q0, qP, qK⟩ := q; exact ⟨q0, qP, va_K.moved (u := U) (U := U.calling g mk a) (Vm.Alike.refl U.vm) qK⟩, va_recv hKc hPc (ci := 5) (q0 := 0) rfl rfl, fun U hU hW => ⟨rfl, by rw [hU]; exact hPc, va_K.moved hW.alike hKc⟩⟩ rfl rfl hl.1 rfl (lv_room (Nat.le_of_ble_eq_true rfl)) d_M_interrupt_3 (⟨Nat.le_of_ble_eq_true rfl, Nat.le_of_ble_eq_true rfl⟩)) ?_
  refine tpi (y := 1) (by decide) ?_
  refine lv_if_ne (tgt := 13) hx hb d_M_interrupt_6 (by decide) (fun c_1 => ?_) (fun c_1 => ?_)
  · skip
    refine lv_aload_n hx hb d_M_interrupt_13 rfl (lv_at hl 0 rfl) ?_
    refine lv_iload_n hx hb d_M_interrupt_14 rfl (lv_at hl 1 rfl) ?_
    refine lv_iload_n hx hb d_M_interrupt_15 rfl (lv_at hl 2 rfl) ?_
    have hPc := hP.sub (ws' := [(y, .inr (5, [.int th, .int (nI bi), .int (nI ne), .int (nI li), .int (nI sp), .int (nI q), .ref ms, .ref mw, .ref mu, .ref mc, .ref mn, .int en, .int (nI sz), .ref mr, .int (nI wa), .ref mq, .int la, .ref md, .int at0, .int lk]))]) [0] rfl
    have hKc := hK.sub (tys' := []) [] rfl
    refine pci (va_runV (As := [.int 0, .int (nI n)]) (rest := [.ref y]) ⟨hx, hb, hml, hown, hg⟩ (c_M_isError l D y ms mw mu mc mn mr mq md bi ne li sp q sz wa th en la at0 lk 0 (nI n) (by omega)) (cwV 2 hg (gV gw_630 gw_632 gs_19 gw_7 gw_633) rfl rfl rfl (by decide +kernel) ⟨Nat.le_of_ble_eq_true rfl, Nat.le_of_ble_eq_true rfl⟩) ⟨fun a U g mk q => by obtain ⟨q0, qP, qK⟩ := q; exact ⟨q0, qP, va_K.moved (u := U) (U := U.calling g mk a) (Vm.Alike.refl U.vm) qK⟩, va_recv hKc hPc (ci := 5) (q0 := 0) rfl rfl, fun U hU hW => ⟨rfl, by rw [hU]; exact hPc, va_K.moved hW.alike hKc⟩⟩ rfl rfl hl.1 rfl (lv_room (Nat.le_of_ble_eq_true rfl)) d_M_interrupt_16 (⟨Nat.le_of_ble_eq_true rfl, Nat.le_of_ble_eq_true rfl⟩)) ?_
    refine tpi (y := 1) (if_pos ⟨by rw [nI_toInt (by omega)]; omega, by rw [nI_toInt (by omega)]; omega, Or.inr rfl⟩) ?_
    refine lv_if_ne (tgt := 26) hx hb d_M_interrupt_19 (by decide) (fun c_2 => ?_) (fun c_2 => ?_)
    · skip
      refine lv_iconst (v := 0) hx hb d_M_interrupt_26 (by decide) ?_
      refine va_put (D := D) (ci := 5) (v := .int 0) (ty := .int) (C := R_M) (T := T_M) (N := 20) hx hb hg in_M ty_M tok_M nm_M hown hK hP hD hS 0 rfl rfl 0 (by decide) (hg _ gw_524) (fun _ h9 => h9) rfl (by decide +kernel) (rfl) (rfl) (Nat.le_of_ble_eq_true rfl) d_M_interrupt_27 (fun H locs hP hD hS => ?_)
      have hP : va_P D CLS [(y, .inr (5, [.int 0, .int (nI bi), .int (nI ne), .int (nI li), .int (nI sp), .int (nI q), .ref ms, .ref mw, .ref mu, .ref mc, .ref mn, .int en, .int (nI sz), .ref mr, .int (nI wa), .ref mq, .int la, .ref md, .int at0, .int lk])), (mw, .inl (cI, 2, .inl lw)), (mu, .inl (cI, 4, .inl su)), (mc, .inl (cI, 4, .inl cu)), (mn, .inl (cI, 4, .inl nu)), (mr, .inl (cB, 6000, .inl wr)), (md, .inl (cB, 400, .inl dr))] H := hP
      have hD : va_D A [(y, .inr (5, [.int 0, .int (nI bi), .int (nI ne), .int (nI li), .int (nI sp), .int (nI q), .ref ms, .ref mw, .ref mu, .ref mc, .ref mn, .int en, .int (nI sz), .ref mr, .int (nI wa), .ref mq, .int la, .ref md, .int at0, .int lk])), (mw, .inl (cI, 2, .inl lw)), (mu, .inl (cI, 4, .inl su)), (mc, .inl (cI, 4, .inl cu)), (mn, .inl (cI, 4, .inl nu)), (mr, .inl (cB, 6000, .inl wr)), (md, .inl (cB, 400, .inl dr))] := hD
      refine lv_aload_n hx hb d_M_interrupt_30 rfl (lv_at hl 0 rfl) ?_
      refine va_get (D := D) (ci := 5) (v := .int 0) (C := R_M) (T := T_M) (N := 20) hx hb hg in_M hown hK hP 0 rfl rfl 0 (by decide) (hg _ gw_524) (fun _ h9 => h9) rfl d_M_interrupt_31 ?_
      refine lv_if_le (tgt := 39) hx hb d_M_interrupt_34 (by decide) (fun c_3 => ?_) (fun c_3 => ?_)
      · skip
        refine lv_aload_n hx hb d_M_interrupt_39 rfl (lv_at hl 0 rfl) ?_
        refine lv_iload_n hx hb d_M_interrupt_40 rfl (lv_at hl 1 rfl) ?_
        have hPc := hP.sub (ws' := [(y, .inr (5, [.int 0, .int (nI bi), .int (nI ne), .int (nI li), .int (nI sp), .int (nI q), .ref ms, .ref mw, .ref mu, .ref mc, .ref mn, .int en, .int (nI sz), .ref mr, .int (nI wa), .ref mq, .int la, .ref md, .int at0, .int lk])), (mu, .inl (cI, 4, .inl su)), (mc, .inl (cI, 4, .inl cu)), (mn, .inl (cI, 4, .inl nu))]) [0, 2, 3, 4] rfl
        have hKc := hK.sub (tys' := [(cI, .int)]) [1] rfl
        refine pci (va_runV (As := [.int 0]) (rest := []) ⟨hx, hb, hml, hown, hg⟩ (c_M_isUp0 l D y ms mw mu mc mn mr mq md bi ne li sp q sz wa 0 en la at0 lk cI su cu nu sm ct ng K hsu hcu hnu hc0 hn0 (by omega) hKb hK1 hK2) (cwV 1 hg (gV gw_634 gw_636 gs_20 gw_7 gw_637) rfl rfl rfl (by decide +kernel) ⟨Nat.le_of_ble_eq_true rfl, Nat.le_of_ble_eq_true rfl⟩) ⟨fun a U g mk q => by obtain ⟨q0, qP, qK⟩ := q; exact ⟨q0, qP, va_K.moved (u := U) (U := U.calling g mk a) (Vm.Alike.refl U.vm) qK⟩, va_recv hKc hPc (ci := 5) (q0 := 0) rfl rfl, fun U hU hW => ⟨rfl, by rw [hU]; exact hPc, va_K.moved hW.alike hKc⟩⟩ rfl rfl hl.1 rfl (lv_room (Nat.le_of_ble_eq_true rfl)) d_M_interrupt_41 (⟨Nat.le_of_ble_eq_true rfl, Nat.le_of_ble_eq_true rfl⟩)) ?_
        by_cases hup : (K = 0 ∧ 2 * ng < ct)
        · skip
          refine tpi (y := 1) (if_pos hup) ?_
          refine lv_if_eq (tgt := 59) hx hb d_M_interrupt_44 (by decide) (fun c_4 => ?_) (fun c_4 => ?_)
          · skip
            exact absurd c_4 (by decide)
          · skip
            refine lv_iload_n hx hb d_M_interrupt_47 rfl (lv_at hl 2 rfl) ?_
            refine lv_if_le (tgt := 55) hx hb d_M_interrupt_48 (by decide) (fun c_5 => ?_) (fun c_5 => ?_)
            · skip
              have hn00 : n = 0 := Nat.eq_zero_of_not_pos (fun q9 => nI_nle q9 (by omega) c_5)
              have hfl : (if ¬ n = 0 ∧ (K = 0 ∧ 2 * ng < ct) then 1 else 0 : Nat) = 0 := if_neg (fun q9 => q9.1 hn00)
              refine lv_iconst (v := 0) hx hb d_M_interrupt_55 (by decide) ?_
              refine lv_goto (tgt := 68) hx hb d_M_interrupt_56 (by decide) ?_
              refine lv_istore_n (lv' := [(3, .int 0), (0, .ref y), (1, .int 0), (2, .int (nI n))]) hx hb d_M_interrupt_68 rfl hl (by decide) rfl (fun ls hl => ?_)
              refine lv_iconst (v := 2) hx hb d_M_interrupt_69 (by decide) ?_
              refine lv_iload_n hx hb d_M_interrupt_70 rfl (lv_at hl 3 rfl) ?_
              refine lv_if_ge (tgt := 79) hx hb d_M_interrupt_71 (by decide) (fun c_6 => ?_) (fun c_6 => ?_)
              · skip
                refine lv_iload_n hx hb d_M_interrupt_79 rfl (lv_at hl 3 rfl) ?_
                refine lv_imul hx hb d_M_interrupt_80 ?_
                refine tpi (y := nI (2 * n)) (mul2 n) ?_
                refine lv_iload_n hx hb d_M_interrupt_81 rfl (lv_at hl 2 rfl) ?_
                refine lv_isub hx hb d_M_interrupt_82 ?_
                refine tpi (y := nI (2 * n - 0)) (pk_sub (b := 0) (by omega)) ?_
                refine lv_iload_n hx hb d_M_interrupt_83 rfl (lv_at hl 0 rfl) ?_
                refine lv_if_eq (tgt := 91) hx hb d_M_interrupt_84 (by decide) (fun c_7 => ?_) (fun c_7 => ?_)
                · skip
                  refine lv_iconst (v := 0) hx hb d_M_interrupt_91 (by decide) ?_
                  refine lv_isub hx hb d_M_interrupt_92 ?_
                  refine tpi (y := nI M) ((pk_sub (b := 0) (by omega)).trans (congrArg nI (by rw [hM, hfl]))) ?_
                  refine lv_istore (lv' := [(4, .int (nI M)), (3, .int 0), (0, .ref y), (1, .int 0), (2, .int (nI n))]) hx hb d_M_interrupt_93 hl (by decide) rfl (fun ls hl => ?_)
                  refine lv_aload_n hx hb d_M_interrupt_95 rfl (lv_at hl 2 rfl) ?_
                  refine lv_iconst (v := 0) hx hb d_M_interrupt_96 (by decide) ?_
                  refine tpi (y := nI 0) (rfl) ?_
                  refine va_put (D := D) (ci := 5) (v := .int (nI 0)) (ty := .int) (C := R_M) (T := T_M) (N := 20) hx hb hg in_M ty_M tok_M nm_M hown hK hP hD hS 0 rfl rfl 16 (by decide) (hg _ gw_540) (fun _ h9 => h9) rfl (by decide +kernel) (rfl) (rfl) (Nat.le_of_ble_eq_true rfl) d_M_interrupt_97 (fun H locs hP hD hS => ?_)
                  have hP : va_P D CLS [(y, .inr (5, [.int 0, .int (nI bi), .int (nI ne), .int (nI li), .int (nI sp), .int (nI q), .ref ms, .ref mw, .ref mu, .ref mc, .ref mn, .int en, .int (nI sz), .ref mr, .int (nI wa), .ref mq, .int (nI 0), .ref md, .int at0, .int lk])), (mw, .inl (cI, 2, .inl lw)), (mu, .inl (cI, 4, .inl su)), (mc, .inl (cI, 4, .inl cu)), (mn, .inl (cI, 4, .inl nu)), (mr, .inl (cB, 6000, .inl wr)), (md, .inl (cB, 400, .inl dr))] H := hP
                  have hD : va_D A [(y, .inr (5, [.int 0, .int (nI bi), .int (nI ne), .int (nI li), .int (nI sp), .int (nI q), .ref ms, .ref mw, .ref mu, .ref mc, .ref mn, .int en, .int (nI sz), .ref mr, .int (nI wa), .ref mq, .int (nI 0), .ref md, .int at0, .int lk])), (mw, .inl (cI, 2, .inl lw)), (mu, .inl (cI, 4, .inl su)), (mc, .inl (cI, 4, .inl cu)), (mn, .inl (cI, 4, .inl nu)), (mr, .inl (cB, 6000, .inl wr)), (md, .inl (cB, 400, .inl dr))] := hD
                  refine lv_aload_n hx hb d_M_interrupt_100 rfl (lv_at hl 2 rfl) ?_
                  refine lv_iload hx hb d_M_interrupt_101 (lv_at hl 0 rfl) ?_
                  refine lv_aload_n hx hb d_M_interrupt_103 rfl (lv_at hl 2 rfl) ?_
                  refine lv_iload_n hx hb d_M_interrupt_104 rfl (lv_at hl 3 rfl) ?_
                  have hPc := hP.sub (ws' := [(y, .inr (5, [.int 0, .int (nI bi), .int (nI ne), .int (nI li), .int (nI sp), .int (nI q), .ref ms, .ref mw, .ref mu, .ref mc, .ref mn, .int en, .int (nI sz), .ref mr, .int (nI wa), .ref mq, .int (nI 0), .ref md, .int at0, .int lk])), (mu, .inl (cI, 4, .inl su)), (mc, .inl (cI, 4, .inl cu)), (mn, .inl (cI, 4, .inl nu))]) [0, 2, 3, 4] rfl
                  have hKc := hK.sub (tys' := [(cI, .int)]) [1] rfl
                  refine pci (va_runV (As := [.int 0]) (rest := [.int (nI M), .ref y]) ⟨hx, hb, hml, hown, hg⟩ (c_M_kOf0 l D y ms mw mu mc mn mr mq md bi ne li sp q sz wa 0 en (nI 0) at0 lk cI su cu nu sm ct ng K hsu hcu hnu hc0 hn0 (by omega) hKb hK1 hK2) (cwV 1 hg (gV gw_638 gw_640 gs_21 gw_7 gw_641) rfl rfl rfl (by decide +kernel) ⟨Nat.le_of_ble_eq_true rfl, Nat.le_of_ble_eq_true rfl⟩) ⟨fun a U g mk q => by obtain ⟨q0, qP, qK⟩ := q; exact ⟨q0, qP, va_K.moved (u := U) (U := U.calling g mk a) (Vm.Alike.refl U.vm) qK⟩, va_recv hKc hPc (ci := 5) (q0 := 0) rfl rfl, fun U hU hW => ⟨rfl, by rw [hU]; exact hPc, va_K.moved hW.alike hKc⟩⟩ rfl rfl hl.1 rfl (lv_room (Nat.le_of_ble_eq_true rfl)) d_M_interrupt_105 (⟨Nat.le_of_ble_eq_true rfl, Nat.le_of_ble_eq_true rfl⟩)) ?_
                  refine lv_aload_n hx hb d_M_interrupt_108 rfl (lv_at hl 2 rfl) ?_
                  refine lv_iconst (v := 0) hx hb d_M_interrupt_109 (by decide) ?_
                  have hPc := hP.sub (ws' := [(y, .inr (5, [.int 0, .int (nI bi), .int (nI ne), .int (nI li), .int (nI sp), .int (nI q), .ref ms, .ref mw, .ref mu, .ref mc, .ref mn, .int en, .int (nI sz), .ref mr, .int (nI wa), .ref mq, .int (nI 0), .ref md, .int at0, .int lk])), (mw, .inl (cI, 2, .inl lw))]) [0, 1] rfl
                  have hKc := hK.sub (tys' := [(cI, .int)]) [1] rfl
                  refine pci (va_runV (As := [.int 0]) (rest := [.int (nI K), .int (nI M), .ref y]) ⟨hx, hb, hml, hown, hg⟩ (c_M_limitFor0 l D y ms mw mu mc mn mr mq md bi ne li sp q sz wa 0 en (nI 0) at0 lk cI lw rw hlw (by omega)) (cwV 1 hg (gV gw_642 gw_644 gs_22 gw_7 gw_645) rfl rfl rfl (by decide +kernel) ⟨Nat.le_of_ble_eq_true rfl, Nat.le_of_ble_eq_true rfl⟩) ⟨fun a U g mk q => by obtain ⟨q0, qP, qK⟩ := q; exact ⟨q0, qP, va_K.moved (u := U) (U := U.calling g mk a) (Vm.Alike.refl U.vm) qK⟩, va_recv hKc hPc (ci := 5) (q0 := 0) rfl rfl, fun U hU hW => ⟨rfl, by rw [hU]; exact hPc, va_K.moved hW.alike hKc⟩⟩ rfl rfl hl.1 rfl (lv_room (Nat.le_of_ble_eq_true rfl)) d_M_interrupt_110 (⟨Nat.le_of_ble_eq_true rfl, Nat.le_of_ble_eq_true rfl⟩)) ?_
                  have hPc := hP.sub (ws' := [(y, .inr (5, [.int 0, .int (nI bi), .int (nI ne), .int (nI li), .int (nI sp), .int (nI q), .ref ms, .ref mw, .ref mu, .ref mc, .ref mn, .int en, .int (nI sz), .ref mr, .int (nI wa), .ref mq, .int (nI 0), .ref md, .int at0, .int lk])), (md, .inl (cB, 400, .inl dr))]) [0, 6] rfl
                  have hDc := hD.sub (ws' := [(y, .inr (5, [.int 0, .int (nI bi), .int (nI ne), .int (nI li), .int (nI sp), .int (nI q), .ref ms, .ref mw, .ref mu, .ref mc, .ref mn, .int en, .int (nI sz), .ref mr, .int (nI wa), .ref mq, .int (nI 0), .ref md, .int at0, .int lk])), (md, .inl (cB, 400, .inl dr))]) [0, 6] (by decide) rfl
                  have hKc := hK.sub (tys' := [(cB, .byte)]) [0] rfl
                  refine mcv (va_runV (As := [.int (nI M), .int (nI K), .int (nI (li - 1 - rw))]) (rest := []) ⟨hx, hb, hml, hown, hg⟩ (c_M_layNumber l D y ms mw mu mc mn mr mq md bi ne li sp q sz wa 0 en (nI 0) at0 lk cB dr 0 M K (li - 1 - rw) (by omega) (by omega) (by omega) (by omega) (by omega) (by omega)) (cwV 3 hg (gV gw_594 gw_596 gs_13 gw_7 gw_597) rfl rfl rfl (by decide +kernel) ⟨Nat.le_of_ble_eq_true rfl, Nat.le_of_ble_eq_true rfl⟩) ⟨fun a U g mk q => by obtain ⟨q0, qP, qK, qD⟩ := q; exact ⟨q0, qP, va_K.moved (u := U) (U := U.calling g mk a) (Vm.Alike.refl U.vm) qK, qD⟩, va_recv hKc hPc (ci := 5) (q0 := 0) rfl rfl, fun U hU hW => ⟨rfl, by rw [hU]; exact hPc, va_K.moved hW.alike hKc, hDc.weaken (fun _ _ _ _ => trivial)⟩⟩ rfl rfl hl.1 rfl (lv_room (Nat.le_of_ble_eq_true rfl)) d_M_interrupt_113 (⟨Nat.le_of_ble_eq_true rfl, Nat.le_of_ble_eq_true rfl⟩)) hS hP hD [0, 6] rfl rfl rfl (fun H locs hP hD hS => ?_)
                  have hP : va_P D CLS [(y, .inr (5, [.int 0, .int (nI bi), .int (nI ne), .int (nI li), .int (nI sp), .int (nI q), .ref ms, .ref mw, .ref mu, .ref mc, .ref mn, .int en, .int (nI sz), .ref mr, .int (nI wa), .ref mq, .int (nI (0 + nlen q K M (li - 1 - rw - q - 1))), .ref md, .int at0, .int lk])), (mw, .inl (cI, 2, .inl lw)), (mu, .inl (cI, 4, .inl su)), (mc, .inl (cI, 4, .inl cu)), (mn, .inl (cI, 4, .inl nu)), (mr, .inl (cB, 6000, .inl wr)), (md, .inl (cB, 400, .inl (wnum dr q K M (li - 1 - rw - q - 1) 0)))] H := hP
                  have hD : va_D A [(y, .inr (5, [.int 0, .int (nI bi), .int (nI ne), .int (nI li), .int (nI sp), .int (nI q), .ref ms, .ref mw, .ref mu, .ref mc, .ref mn, .int en, .int (nI sz), .ref mr, .int (nI wa), .ref mq, .int (nI (0 + nlen q K M (li - 1 - rw - q - 1))), .ref md, .int at0, .int lk])), (mw, .inl (cI, 2, .inl lw)), (mu, .inl (cI, 4, .inl su)), (mc, .inl (cI, 4, .inl cu)), (mn, .inl (cI, 4, .inl nu)), (mr, .inl (cB, 6000, .inl wr)), (md, .inl (cB, 400, .inl (wnum dr q K M (li - 1 - rw - q - 1) 0)))] := hD
                  refine lv_aload_n hx hb d_M_interrupt_116 rfl (lv_at hl 2 rfl) ?_
                  refine lv_aload_n hx hb d_M_interrupt_117 rfl (lv_at hl 2 rfl) ?_
                  have hPc := hP.sub (ws' := [(y, .inr (5, [.int 0, .int (nI bi), .int (nI ne), .int (nI li), .int (nI sp), .int (nI q), .ref ms, .ref mw, .ref mu, .ref mc, .ref mn, .int en, .int (nI sz), .ref mr, .int (nI wa), .ref mq, .int (nI (0 + nlen q K M (li - 1 - rw - q - 1))), .ref md, .int at0, .int lk]))]) [0] rfl
                  have hKc := hK.sub (tys' := []) [] rfl
                  refine pci (va_runV (As := []) (rest := [.ref y]) ⟨hx, hb, hml, hown, hg⟩ (c_M_hasRoom l D y ms mw mu mc mn mr mq md bi ne li sp q sz wa 0 en (nI (0 + nlen q K M (li - 1 - rw - q - 1))) at0 lk (0 + nlen q K M (li - 1 - rw - q - 1)) hsz (by omega)) (cwV 0 hg (gV gw_606 gw_608 gs_16 gw_7 gw_609) rfl rfl rfl (by decide +kernel) ⟨Nat.le_of_ble_eq_true rfl, Nat.le_of_ble_eq_true rfl⟩) ⟨fun a U g mk q => by obtain ⟨q0, qP, qK⟩ := q; exact ⟨q0, qP, va_K.moved (u := U) (U := U.calling g mk a) (Vm.Alike.refl U.vm) qK⟩, va_recv hKc hPc (ci := 5) (q0 := 0) rfl rfl, fun U hU hW => ⟨rfl, by rw [hU]; exact hPc, va_K.moved hW.alike hKc⟩⟩ rfl rfl hl.1 rfl (lv_room (Nat.le_of_ble_eq_true rfl)) d_M_interrupt_118 (⟨Nat.le_of_ble_eq_true rfl, Nat.le_of_ble_eq_true rfl⟩)) ?_
                  refine tpi (y := 1) (if_pos (by omega)) ?_
                  refine lv_if_eq (tgt := 128) hx hb d_M_interrupt_121 (by decide) (fun c_8 => ?_) (fun c_8 => ?_)
                  · skip
                    exact absurd c_8 (by decide)
                  · skip
                    refine lv_iconst (v := 0) hx hb d_M_interrupt_124 (by decide) ?_
                    refine lv_goto (tgt := 129) hx hb d_M_interrupt_125 (by decide) ?_
                    refine va_put (D := D) (ci := 5) (v := .int 0) (ty := .int) (C := R_M) (T := T_M) (N := 20) hx hb hg in_M ty_M tok_M nm_M hown hK hP hD hS 0 rfl rfl 0 (by decide) (hg _ gw_524) (fun _ h9 => h9) rfl (by decide +kernel) (rfl) (rfl) (Nat.le_of_ble_eq_true rfl) d_M_interrupt_129 (fun H locs hP hD hS => ?_)
                    have hP : va_P D CLS [(y, .inr (5, [.int 0, .int (nI bi), .int (nI ne), .int (nI li), .int (nI sp), .int (nI q), .ref ms, .ref mw, .ref mu, .ref mc, .ref mn, .int en, .int (nI sz), .ref mr, .int (nI wa), .ref mq, .int (nI (0 + nlen q K M (li - 1 - rw - q - 1))), .ref md, .int at0, .int lk])), (mw, .inl (cI, 2, .inl lw)), (mu, .inl (cI, 4, .inl su)), (mc, .inl (cI, 4, .inl cu)), (mn, .inl (cI, 4, .inl nu)), (mr, .inl (cB, 6000, .inl wr)), (md, .inl (cB, 400, .inl (wnum dr q K M (li - 1 - rw - q - 1) 0)))] H := hP
                    have hD : va_D A [(y, .inr (5, [.int 0, .int (nI bi), .int (nI ne), .int (nI li), .int (nI sp), .int (nI q), .ref ms, .ref mw, .ref mu, .ref mc, .ref mn, .int en, .int (nI sz), .ref mr, .int (nI wa), .ref mq, .int (nI (0 + nlen q K M (li - 1 - rw - q - 1))), .ref md, .int at0, .int lk])), (mw, .inl (cI, 2, .inl lw)), (mu, .inl (cI, 4, .inl su)), (mc, .inl (cI, 4, .inl cu)), (mn, .inl (cI, 4, .inl nu)), (mr, .inl (cB, 6000, .inl wr)), (md, .inl (cB, 400, .inl (wnum dr q K M (li - 1 - rw - q - 1) 0)))] := hD
                    refine lv_aload_n hx hb d_M_interrupt_132 rfl (lv_at hl 2 rfl) ?_
                    refine va_get (D := D) (ci := 5) (v := .int 0) (C := R_M) (T := T_M) (N := 20) hx hb hg in_M hown hK hP 0 rfl rfl 0 (by decide) (hg _ gw_524) (fun _ h9 => h9) rfl d_M_interrupt_133 ?_
                    refine lv_if_le (tgt := 141) hx hb d_M_interrupt_136 (by decide) (fun c_9 => ?_) (fun c_9 => ?_)
                    · skip
                      refine lv_aload_n hx hb d_M_interrupt_141 rfl (lv_at hl 2 rfl) ?_
                      refine lv_iload_n hx hb d_M_interrupt_142 rfl (lv_at hl 3 rfl) ?_
                      refine lv_iload_n hx hb d_M_interrupt_143 rfl (lv_at hl 3 rfl) ?_
                      refine lv_iload hx hb d_M_interrupt_144 (lv_at hl 0 rfl) ?_
                      refine lv_iload_n hx hb d_M_interrupt_146 rfl (lv_at hl 4 rfl) ?_
                      have hPc := hP.sub (ws' := [(y, .inr (5, [.int 0, .int (nI bi), .int (nI ne), .int (nI li), .int (nI sp), .int (nI q), .ref ms, .ref mw, .ref mu, .ref mc, .ref mn, .int en, .int (nI sz), .ref mr, .int (nI wa), .ref mq, .int (nI (0 + nlen q K M (li - 1 - rw - q - 1))), .ref md, .int at0, .int lk])), (mu, .inl (cI, 4, .inl su)), (mc, .inl (cI, 4, .inl cu)), (mn, .inl (cI, 4, .inl nu))]) [0, 2, 3, 4] rfl
                      have hDc := hD.sub (ws' := [(y, .inr (5, [.int 0, .int (nI bi), .int (nI ne), .int (nI li), .int (nI sp), .int (nI q), .ref ms, .ref mw, .ref mu, .ref mc, .ref mn, .int en, .int (nI sz), .ref mr, .int (nI wa), .ref mq, .int (nI (0 + nlen q K M (li - 1 - rw - q - 1))), .ref md, .int at0, .int lk])), (mu, .inl (cI, 4, .inl su)), (mc, .inl (cI, 4, .inl cu)), (mn, .inl (cI, 4, .inl nu))]) [0, 2, 3, 4] (by decide) rfl
                      have hKc := hK.sub (tys' := [(cI, .int)]) [1] rfl
                      refine mcv (va_runV (As := [.int 0, .int 0, .int (nI M), .int (nI n)]) (rest := []) ⟨hx, hb, hml, hown, hg⟩ (c_M_learn0P l D y ms mw mu mc mn mr mq md bi ne li sp q sz wa 0 en (nI (0 + nlen q K M (li - 1 - rw - q - 1))) at0 lk cI su cu nu sm ct ng n M hsu hcu hnu hc0 hn0 hs0 (by omega) (by omega)) (cwV 4 hg (gV gw_646 gw_648 gs_23 gw_7 gw_649) rfl rfl rfl (by decide +kernel) ⟨Nat.le_of_ble_eq_true rfl, Nat.le_of_ble_eq_true rfl⟩) ⟨fun a U g mk q => by obtain ⟨q0, qP, qK, qD⟩ := q; exact ⟨q0, qP, va_K.moved (u := U) (U := U.calling g mk a) (Vm.Alike.refl U.vm) qK, qD⟩, va_recv hKc hPc (ci := 5) (q0 := 0) rfl rfl, fun U hU hW => ⟨rfl, by rw [hU]; exact hPc, va_K.moved hW.alike hKc, hDc.weaken (fun _ _ _ _ => trivial)⟩⟩ rfl rfl hl.1 rfl (lv_room (Nat.le_of_ble_eq_true rfl)) d_M_interrupt_147 (⟨Nat.le_of_ble_eq_true rfl, Nat.le_of_ble_eq_true rfl⟩)) hS hP hD [0, 2, 3, 4] rfl rfl rfl (fun H locs hP hD hS => ?_)
                      have hP : va_P D CLS [(y, .inr (5, [.int 0, .int (nI bi), .int (nI ne), .int (nI li), .int (nI sp), .int (nI q), .ref ms, .ref mw, .ref mu, .ref mc, .ref mn, .int en, .int (nI sz), .ref mr, .int (nI wa), .ref mq, .int (nI (0 + nlen q K M (li - 1 - rw - q - 1))), .ref md, .int at0, .int lk])), (mw, .inl (cI, 2, .inl lw)), (mu, .inl (cI, 4, .inl (upd su 0 (nI (hvd ct (sm + (M + 1 - 0) / 2)))))), (mc, .inl (cI, 4, .inl (upd cu 0 (nI (hvd ct ct + 1))))), (mn, .inl (cI, 4, .inl (upd nu 0 (nI (hvd ct ng))))), (mr, .inl (cB, 6000, .inl wr)), (md, .inl (cB, 400, .inl (wnum dr q K M (li - 1 - rw - q - 1) 0)))] H := hP
                      have hD : va_D A [(y, .inr (5, [.int 0, .int (nI bi), .int (nI ne), .int (nI li), .int (nI sp), .int (nI q), .ref ms, .ref mw, .ref mu, .ref mc, .ref mn, .int en, .int (nI sz), .ref mr, .int (nI wa), .ref mq, .int (nI (0 + nlen q K M (li - 1 - rw - q - 1))), .ref md, .int at0, .int lk])), (mw, .inl (cI, 2, .inl lw)), (mu, .inl (cI, 4, .inl (upd su 0 (nI (hvd ct (sm + (M + 1 - 0) / 2)))))), (mc, .inl (cI, 4, .inl (upd cu 0 (nI (hvd ct ct + 1))))), (mn, .inl (cI, 4, .inl (upd nu 0 (nI (hvd ct ng))))), (mr, .inl (cB, 6000, .inl wr)), (md, .inl (cB, 400, .inl (wnum dr q K M (li - 1 - rw - q - 1) 0)))] := hD
                      refine lv_aload_n hx hb d_M_interrupt_150 rfl (lv_at hl 2 rfl) ?_
                      have hPc := hP.sub (ws' := [(y, .inr (5, [.int 0, .int (nI bi), .int (nI ne), .int (nI li), .int (nI sp), .int (nI q), .ref ms, .ref mw, .ref mu, .ref mc, .ref mn, .int en, .int (nI sz), .ref mr, .int (nI wa), .ref mq, .int (nI (0 + nlen q K M (li - 1 - rw - q - 1))), .ref md, .int at0, .int lk])), (mr, .inl (cB, 6000, .inl wr)), (md, .inl (cB, 400, .inl (wnum dr q K M (li - 1 - rw - q - 1) 0)))]) [0, 5, 6] rfl
                      have hDc := hD.sub (ws' := [(y, .inr (5, [.int 0, .int (nI bi), .int (nI ne), .int (nI li), .int (nI sp), .int (nI q), .ref ms, .ref mw, .ref mu, .ref mc, .ref mn, .int en, .int (nI sz), .ref mr, .int (nI wa), .ref mq, .int (nI (0 + nlen q K M (li - 1 - rw - q - 1))), .ref md, .int at0, .int lk])), (mr, .inl (cB, 6000, .inl wr)), (md, .inl (cB, 400, .inl (wnum dr q K M (li - 1 - rw - q - 1) 0)))]) [0, 5, 6] (by decide) rfl
                      have hKc := hK.sub (tys' := [(cB, .byte)]) [0] rfl
                      refine mci (va_runV (As := []) (rest := []) ⟨hx, hb, hml, hown, hg⟩ (c_M_write l D y ms mw mu mc mn mr mq md bi ne li sp q sz wa 0 en (nI (0 + nlen q K M (li - 1 - rw - q - 1))) at0 lk cB wr (wnum dr q K M (li - 1 - rw - q - 1) 0) (0 + nlen q K M (li - 1 - rw - q - 1)) (by omega) (by omega) (fun j hj => wnum01 j (Nat.zero_le _) hj)) (cwV 0 hg (gV gw_610 gw_612 gs_17 gw_7 gw_613) rfl rfl rfl (by decide +kernel) ⟨Nat.le_of_ble_eq_true rfl, Nat.le_of_ble_eq_true rfl⟩) ⟨fun a U g mk q => by obtain ⟨q0, qP, qK, qD⟩ := q; exact ⟨q0, qP, va_K.moved (u := U) (U := U.calling g mk a) (Vm.Alike.refl U.vm) qK, qD⟩, va_recv hKc hPc (ci := 5) (q0 := 0) rfl rfl, fun U hU hW => ⟨rfl, by rw [hU]; exact hPc, va_K.moved hW.alike hKc, hDc.weaken (fun _ _ _ _ => trivial)⟩⟩ rfl rfl hl.1 rfl (lv_room (Nat.le_of_ble_eq_true rfl)) d_M_interrupt_151 (⟨Nat.le_of_ble_eq_true rfl, Nat.le_of_ble_eq_true rfl⟩)) hS hP hD [0, 5, 6] rfl rfl rfl (fun H locs hP hD hS => ?_)
                      have hP : va_P D CLS [(y, .inr (5, [.int 0, .int (nI bi), .int (nI ne), .int (nI li), .int (nI sp), .int (nI q), .ref ms, .ref mw, .ref mu, .ref mc, .ref mn, .int en, .int (nI (sz + (0 + nlen q K M (li - 1 - rw - q - 1)))), .ref mr, .int (nI wa), .ref mq, .int (nI (0 + nlen q K M (li - 1 - rw - q - 1))), .ref md, .int at0, .int lk])), (mw, .inl (cI, 2, .inl lw)), (mu, .inl (cI, 4, .inl (upd su 0 (nI (hvd ct (sm + (M + 1 - 0) / 2)))))), (mc, .inl (cI, 4, .inl (upd cu 0 (nI (hvd ct ct + 1))))), (mn, .inl (cI, 4, .inl (upd nu 0 (nI (hvd ct ng))))), (mr, .inl (cB, 6000, .inl (cpw wr sz (wnum dr q K M (li - 1 - rw - q - 1) 0) (0 + nlen q K M (li - 1 - rw - q - 1))))), (md, .inl (cB, 400, .inl (wnum dr q K M (li - 1 - rw - q - 1) 0)))] H := hP
                      have hD : va_D A [(y, .inr (5, [.int 0, .int (nI bi), .int (nI ne), .int (nI li), .int (nI sp), .int (nI q), .ref ms, .ref mw, .ref mu, .ref mc, .ref mn, .int en, .int (nI (sz + (0 + nlen q K M (li - 1 - rw - q - 1)))), .ref mr, .int (nI wa), .ref mq, .int (nI (0 + nlen q K M (li - 1 - rw - q - 1))), .ref md, .int at0, .int lk])), (mw, .inl (cI, 2, .inl lw)), (mu, .inl (cI, 4, .inl (upd su 0 (nI (hvd ct (sm + (M + 1 - 0) / 2)))))), (mc, .inl (cI, 4, .inl (upd cu 0 (nI (hvd ct ct + 1))))), (mn, .inl (cI, 4, .inl (upd nu 0 (nI (hvd ct ng))))), (mr, .inl (cB, 6000, .inl (cpw wr sz (wnum dr q K M (li - 1 - rw - q - 1) 0) (0 + nlen q K M (li - 1 - rw - q - 1))))), (md, .inl (cB, 400, .inl (wnum dr q K M (li - 1 - rw - q - 1) 0)))] := hD
                      exact W.iret (v := nI (0 + nlen q K M (li - 1 - rw - q - 1))) hx hb hr (fun t ht hW => ⟨rfl, by rw [ht]; exact hP, (hAe ▸ hS).F ht⟩) (hAe ▸ hS).2.2 d_M_interrupt_154
                    · skip
                      exact absurd (by decide) c_9
                · skip
                  exact absurd rfl c_7
              · skip
                exact absurd (Int32.not_lt.mp (nI_pos (by omega))) c_6
            · skip
              have hn00 : ¬ n = 0 := fun q9 => c_5 (by rw [q9]; decide)
              have hfl : (if ¬ n = 0 ∧ (K = 0 ∧ 2 * ng < ct) then 1 else 0 : Nat) = 1 := if_pos ⟨hn00, hup⟩
              refine lv_iconst (v := 1) hx hb d_M_interrupt_51 (by decide) ?_
              refine lv_goto (tgt := 68) hx hb d_M_interrupt_52 (by decide) ?_
              refine lv_istore_n (lv' := [(3, .int 1), (0, .ref y), (1, .int 0), (2, .int (nI n))]) hx hb d_M_interrupt_68 rfl hl (by decide) rfl (fun ls hl => ?_)
              refine lv_iconst (v := 2) hx hb d_M_interrupt_69 (by decide) ?_
              refine lv_iload_n hx hb d_M_interrupt_70 rfl (lv_at hl 3 rfl) ?_
              refine lv_if_ge (tgt := 79) hx hb d_M_interrupt_71 (by decide) (fun c_10 => ?_) (fun c_10 => ?_)
              · skip
                refine lv_iload_n hx hb d_M_interrupt_79 rfl (lv_at hl 3 rfl) ?_
                refine lv_imul hx hb d_M_interrupt_80 ?_
                refine tpi (y := nI (2 * n)) (mul2 n) ?_
                refine lv_iload_n hx hb d_M_interrupt_81 rfl (lv_at hl 2 rfl) ?_
                refine lv_isub hx hb d_M_interrupt_82 ?_
                refine tpi (y := nI (2 * n - 0)) (pk_sub (b := 0) (by omega)) ?_
                refine lv_iload_n hx hb d_M_interrupt_83 rfl (lv_at hl 0 rfl) ?_
                refine lv_if_eq (tgt := 91) hx hb d_M_interrupt_84 (by decide) (fun c_11 => ?_) (fun c_11 => ?_)
                · skip
                  exact absurd c_11 (by decide)
                · skip
                  refine lv_iconst (v := 1) hx hb d_M_interrupt_87 (by decide) ?_
                  refine lv_goto (tgt := 92) hx hb d_M_interrupt_88 (by decide) ?_
                  refine lv_isub hx hb d_M_interrupt_92 ?_
                  refine tpi (y := nI M) ((pk_sub (b := 1) (by omega)).trans (congrArg nI (by rw [hM, hfl]))) ?_
                  refine lv_istore (lv' := [(4, .int (nI M)), (3, .int 1), (0, .ref y), (1, .int 0), (2, .int (nI n))]) hx hb d_M_interrupt_93 hl (by decide) rfl (fun ls hl => ?_)
                  refine lv_aload_n hx hb d_M_interrupt_95 rfl (lv_at hl 2 rfl) ?_
                  refine lv_iconst (v := 0) hx hb d_M_interrupt_96 (by decide) ?_
                  refine tpi (y := nI 0) (rfl) ?_
                  refine va_put (D := D) (ci := 5) (v := .int (nI 0)) (ty := .int) (C := R_M) (T := T_M) (N := 20) hx hb hg in_M ty_M tok_M nm_M hown hK hP hD hS 0 rfl rfl 16 (by decide) (hg _ gw_540) (fun _ h9 => h9) rfl (by decide +kernel) (rfl) (rfl) (Nat.le_of_ble_eq_true rfl) d_M_interrupt_97 (fun H locs hP hD hS => ?_)
                  have hP : va_P D CLS [(y, .inr (5, [.int 0, .int (nI bi), .int (nI ne), .int (nI li), .int (nI sp), .int (nI q), .ref ms, .ref mw, .ref mu, .ref mc, .ref mn, .int en, .int (nI sz), .ref mr, .int (nI wa), .ref mq, .int (nI 0), .ref md, .int at0, .int lk])), (mw, .inl (cI, 2, .inl lw)), (mu, .inl (cI, 4, .inl su)), (mc, .inl (cI, 4, .inl cu)), (mn, .inl (cI, 4, .inl nu)), (mr, .inl (cB, 6000, .inl wr)), (md, .inl (cB, 400, .inl dr))] H := hP
                  have hD : va_D A [(y, .inr (5, [.int 0, .int (nI bi), .int (nI ne), .int (nI li), .int (nI sp), .int (nI q), .ref ms, .ref mw, .ref mu, .ref mc, .ref mn, .int en, .int (nI sz), .ref mr, .int (nI wa), .ref mq, .int (nI 0), .ref md, .int at0, .int lk])), (mw, .inl (cI, 2, .inl lw)), (mu, .inl (cI, 4, .inl su)), (mc, .inl (cI, 4, .inl cu)), (mn, .inl (cI, 4, .inl nu)), (mr, .inl (cB, 6000, .inl wr)), (md, .inl (cB, 400, .inl dr))] := hD
                  refine lv_aload_n hx hb d_M_interrupt_100 rfl (lv_at hl 2 rfl) ?_
                  refine lv_iload hx hb d_M_interrupt_101 (lv_at hl 0 rfl) ?_
                  refine lv_aload_n hx hb d_M_interrupt_103 rfl (lv_at hl 2 rfl) ?_
                  refine lv_iload_n hx hb d_M_interrupt_104 rfl (lv_at hl 3 rfl) ?_
                  have hPc := hP.sub (ws' := [(y, .inr (5, [.int 0, .int (nI bi), .int (nI ne), .int (nI li), .int (nI sp), .int (nI q), .ref ms, .ref mw, .ref mu, .ref mc, .ref mn, .int en, .int (nI sz), .ref mr, .int (nI wa), .ref mq, .int (nI 0), .ref md, .int at0, .int lk])), (mu, .inl (cI, 4, .inl su)), (mc, .inl (cI, 4, .inl cu)), (mn, .inl (cI, 4, .inl nu))]) [0, 2, 3, 4] rfl
                  have hKc := hK.sub (tys' := [(cI, .int)]) [1] rfl
                  refine pci (va_runV (As := [.int 0]) (rest := [.int (nI M), .ref y]) ⟨hx, hb, hml, hown, hg⟩ (c_M_kOf0 l D y ms mw mu mc mn mr mq md bi ne li sp q sz wa 0 en (nI 0) at0 lk cI su cu nu sm ct ng K hsu hcu hnu hc0 hn0 (by omega) hKb hK1 hK2) (cwV 1 hg (gV gw_638 gw_640 gs_21 gw_7 gw_641) rfl rfl rfl (by decide +kernel) ⟨Nat.le_of_ble_eq_true rfl, Nat.le_of_ble_eq_true rfl⟩) ⟨fun a U g mk q => by obtain ⟨q0, qP, qK⟩ := q; exact ⟨q0, qP, va_K.moved (u := U) (U := U.calling g mk a) (Vm.Alike.refl U.vm) qK⟩, va_recv hKc hPc (ci := 5) (q0 := 0) rfl rfl, fun U hU hW => ⟨rfl, by rw [hU]; exact hPc, va_K.moved hW.alike hKc⟩⟩ rfl rfl hl.1 rfl (lv_room (Nat.le_of_ble_eq_true rfl)) d_M_interrupt_105 (⟨Nat.le_of_ble_eq_true rfl, Nat.le_of_ble_eq_true rfl⟩)) ?_
                  refine lv_aload_n hx hb d_M_interrupt_108 rfl (lv_at hl 2 rfl) ?_
                  refine lv_iconst (v := 0) hx hb d_M_interrupt_109 (by decide) ?_
                  have hPc := hP.sub (ws' := [(y, .inr (5, [.int 0, .int (nI bi), .int (nI ne), .int (nI li), .int (nI sp), .int (nI q), .ref ms, .ref mw, .ref mu, .ref mc, .ref mn, .int en, .int (nI sz), .ref mr, .int (nI wa), .ref mq, .int (nI 0), .ref md, .int at0, .int lk])), (mw, .inl (cI, 2, .inl lw))]) [0, 1] rfl
                  have hKc := hK.sub (tys' := [(cI, .int)]) [1] rfl
                  refine pci (va_runV (As := [.int 0]) (rest := [.int (nI K), .int (nI M), .ref y]) ⟨hx, hb, hml, hown, hg⟩ (c_M_limitFor0 l D y ms mw mu mc mn mr mq md bi ne li sp q sz wa 0 en (nI 0) at0 lk cI lw rw hlw (by omega)) (cwV 1 hg (gV gw_642 gw_644 gs_22 gw_7 gw_645) rfl rfl rfl (by decide +kernel) ⟨Nat.le_of_ble_eq_true rfl, Nat.le_of_ble_eq_true rfl⟩) ⟨fun a U g mk q => by obtain ⟨q0, qP, qK⟩ := q; exact ⟨q0, qP, va_K.moved (u := U) (U := U.calling g mk a) (Vm.Alike.refl U.vm) qK⟩, va_recv hKc hPc (ci := 5) (q0 := 0) rfl rfl, fun U hU hW => ⟨rfl, by rw [hU]; exact hPc, va_K.moved hW.alike hKc⟩⟩ rfl rfl hl.1 rfl (lv_room (Nat.le_of_ble_eq_true rfl)) d_M_interrupt_110 (⟨Nat.le_of_ble_eq_true rfl, Nat.le_of_ble_eq_true rfl⟩)) ?_
                  have hPc := hP.sub (ws' := [(y, .inr (5, [.int 0, .int (nI bi), .int (nI ne), .int (nI li), .int (nI sp), .int (nI q), .ref ms, .ref mw, .ref mu, .ref mc, .ref mn, .int en, .int (nI sz), .ref mr, .int (nI wa), .ref mq, .int (nI 0), .ref md, .int at0, .int lk])), (md, .inl (cB, 400, .inl dr))]) [0, 6] rfl
                  have hDc := hD.sub (ws' := [(y, .inr (5, [.int 0, .int (nI bi), .int (nI ne), .int (nI li), .int (nI sp), .int (nI q), .ref ms, .ref mw, .ref mu, .ref mc, .ref mn, .int en, .int (nI sz), .ref mr, .int (nI wa), .ref mq, .int (nI 0), .ref md, .int at0, .int lk])), (md, .inl (cB, 400, .inl dr))]) [0, 6] (by decide) rfl
                  have hKc := hK.sub (tys' := [(cB, .byte)]) [0] rfl
                  refine mcv (va_runV (As := [.int (nI M), .int (nI K), .int (nI (li - 1 - rw))]) (rest := []) ⟨hx, hb, hml, hown, hg⟩ (c_M_layNumber l D y ms mw mu mc mn mr mq md bi ne li sp q sz wa 0 en (nI 0) at0 lk cB dr 0 M K (li - 1 - rw) (by omega) (by omega) (by omega) (by omega) (by omega) (by omega)) (cwV 3 hg (gV gw_594 gw_596 gs_13 gw_7 gw_597) rfl rfl rfl (by decide +kernel) ⟨Nat.le_of_ble_eq_true rfl, Nat.le_of_ble_eq_true rfl⟩) ⟨fun a U g mk q => by obtain ⟨q0, qP, qK, qD⟩ := q; exact ⟨q0, qP, va_K.moved (u := U) (U := U.calling g mk a) (Vm.Alike.refl U.vm) qK, qD⟩, va_recv hKc hPc (ci := 5) (q0 := 0) rfl rfl, fun U hU hW => ⟨rfl, by rw [hU]; exact hPc, va_K.moved hW.alike hKc, hDc.weaken (fun _ _ _ _ => trivial)⟩⟩ rfl rfl hl.1 rfl (lv_room (Nat.le_of_ble_eq_true rfl)) d_M_interrupt_113 (⟨Nat.le_of_ble_eq_true rfl, Nat.le_of_ble_eq_true rfl⟩)) hS hP hD [0, 6] rfl rfl rfl (fun H locs hP hD hS => ?_)
                  have hP : va_P D CLS [(y, .inr (5, [.int 0, .int (nI bi), .int (nI ne), .int (nI li), .int (nI sp), .int (nI q), .ref ms, .ref mw, .ref mu, .ref mc, .ref mn, .int en, .int (nI sz), .ref mr, .int (nI wa), .ref mq, .int (nI (0 + nlen q K M (li - 1 - rw - q - 1))), .ref md, .int at0, .int lk])), (mw, .inl (cI, 2, .inl lw)), (mu, .inl (cI, 4, .inl su)), (mc, .inl (cI, 4, .inl cu)), (mn, .inl (cI, 4, .inl nu)), (mr, .inl (cB, 6000, .inl wr)), (md, .inl (cB, 400, .inl (wnum dr q K M (li - 1 - rw - q - 1) 0)))] H := hP
                  have hD : va_D A [(y, .inr (5, [.int 0, .int (nI bi), .int (nI ne), .int (nI li), .int (nI sp), .int (nI q), .ref ms, .ref mw, .ref mu, .ref mc, .ref mn, .int en, .int (nI sz), .ref mr, .int (nI wa), .ref mq, .int (nI (0 + nlen q K M (li - 1 - rw - q - 1))), .ref md, .int at0, .int lk])), (mw, .inl (cI, 2, .inl lw)), (mu, .inl (cI, 4, .inl su)), (mc, .inl (cI, 4, .inl cu)), (mn, .inl (cI, 4, .inl nu)), (mr, .inl (cB, 6000, .inl wr)), (md, .inl (cB, 400, .inl (wnum dr q K M (li - 1 - rw - q - 1) 0)))] := hD
                  refine lv_aload_n hx hb d_M_interrupt_116 rfl (lv_at hl 2 rfl) ?_
                  refine lv_aload_n hx hb d_M_interrupt_117 rfl (lv_at hl 2 rfl) ?_
                  have hPc := hP.sub (ws' := [(y, .inr (5, [.int 0, .int (nI bi), .int (nI ne), .int (nI li), .int (nI sp), .int (nI q), .ref ms, .ref mw, .ref mu, .ref mc, .ref mn, .int en, .int (nI sz), .ref mr, .int (nI wa), .ref mq, .int (nI (0 + nlen q K M (li - 1 - rw - q - 1))), .ref md, .int at0, .int lk]))]) [0] rfl
                  have hKc := hK.sub (tys' := []) [] rfl
                  refine pci (va_runV (As := []) (rest := [.ref y]) ⟨hx, hb, hml, hown, hg⟩ (c_M_hasRoom l D y ms mw mu mc mn mr mq md bi ne li sp q sz wa 0 en (nI (0 + nlen q K M (li - 1 - rw - q - 1))) at0 lk (0 + nlen q K M (li - 1 - rw - q - 1)) hsz (by omega)) (cwV 0 hg (gV gw_606 gw_608 gs_16 gw_7 gw_609) rfl rfl rfl (by decide +kernel) ⟨Nat.le_of_ble_eq_true rfl, Nat.le_of_ble_eq_true rfl⟩) ⟨fun a U g mk q => by obtain ⟨q0, qP, qK⟩ := q; exact ⟨q0, qP, va_K.moved (u := U) (U := U.calling g mk a) (Vm.Alike.refl U.vm) qK⟩, va_recv hKc hPc (ci := 5) (q0 := 0) rfl rfl, fun U hU hW => ⟨rfl, by rw [hU]; exact hPc, va_K.moved hW.alike hKc⟩⟩ rfl rfl hl.1 rfl (lv_room (Nat.le_of_ble_eq_true rfl)) d_M_interrupt_118 (⟨Nat.le_of_ble_eq_true rfl, Nat.le_of_ble_eq_true rfl⟩)) ?_
                  refine tpi (y := 1) (if_pos (by omega)) ?_
                  refine lv_if_eq (tgt := 128) hx hb d_M_interrupt_121 (by decide) (fun c_12 => ?_) (fun c_12 => ?_)
                  · skip
                    exact absurd c_12 (by decide)
                  · skip
                    refine lv_iconst (v := 0) hx hb d_M_interrupt_124 (by decide) ?_
                    refine lv_goto (tgt := 129) hx hb d_M_interrupt_125 (by decide) ?_
                    refine va_put (D := D) (ci := 5) (v := .int 0) (ty := .int) (C := R_M) (T := T_M) (N := 20) hx hb hg in_M ty_M tok_M nm_M hown hK hP hD hS 0 rfl rfl 0 (by decide) (hg _ gw_524) (fun _ h9 => h9) rfl (by decide +kernel) (rfl) (rfl) (Nat.le_of_ble_eq_true rfl) d_M_interrupt_129 (fun H locs hP hD hS => ?_)
                    have hP : va_P D CLS [(y, .inr (5, [.int 0, .int (nI bi), .int (nI ne), .int (nI li), .int (nI sp), .int (nI q), .ref ms, .ref mw, .ref mu, .ref mc, .ref mn, .int en, .int (nI sz), .ref mr, .int (nI wa), .ref mq, .int (nI (0 + nlen q K M (li - 1 - rw - q - 1))), .ref md, .int at0, .int lk])), (mw, .inl (cI, 2, .inl lw)), (mu, .inl (cI, 4, .inl su)), (mc, .inl (cI, 4, .inl cu)), (mn, .inl (cI, 4, .inl nu)), (mr, .inl (cB, 6000, .inl wr)), (md, .inl (cB, 400, .inl (wnum dr q K M (li - 1 - rw - q - 1) 0)))] H := hP
                    have hD : va_D A [(y, .inr (5, [.int 0, .int (nI bi), .int (nI ne), .int (nI li), .int (nI sp), .int (nI q), .ref ms, .ref mw, .ref mu, .ref mc, .ref mn, .int en, .int (nI sz), .ref mr, .int (nI wa), .ref mq, .int (nI (0 + nlen q K M (li - 1 - rw - q - 1))), .ref md, .int at0, .int lk])), (mw, .inl (cI, 2, .inl lw)), (mu, .inl (cI, 4, .inl su)), (mc, .inl (cI, 4, .inl cu)), (mn, .inl (cI, 4, .inl nu)), (mr, .inl (cB, 6000, .inl wr)), (md, .inl (cB, 400, .inl (wnum dr q K M (li - 1 - rw - q - 1) 0)))] := hD
                    refine lv_aload_n hx hb d_M_interrupt_132 rfl (lv_at hl 2 rfl) ?_
                    refine va_get (D := D) (ci := 5) (v := .int 0) (C := R_M) (T := T_M) (N := 20) hx hb hg in_M hown hK hP 0 rfl rfl 0 (by decide) (hg _ gw_524) (fun _ h9 => h9) rfl d_M_interrupt_133 ?_
                    refine lv_if_le (tgt := 141) hx hb d_M_interrupt_136 (by decide) (fun c_13 => ?_) (fun c_13 => ?_)
                    · skip
                      refine lv_aload_n hx hb d_M_interrupt_141 rfl (lv_at hl 2 rfl) ?_
                      refine lv_iload_n hx hb d_M_interrupt_142 rfl (lv_at hl 3 rfl) ?_
                      refine lv_iload_n hx hb d_M_interrupt_143 rfl (lv_at hl 3 rfl) ?_
                      refine lv_iload hx hb d_M_interrupt_144 (lv_at hl 0 rfl) ?_
                      refine lv_iload_n hx hb d_M_interrupt_146 rfl (lv_at hl 4 rfl) ?_
                      have hPc := hP.sub (ws' := [(y, .inr (5, [.int 0, .int (nI bi), .int (nI ne), .int (nI li), .int (nI sp), .int (nI q), .ref ms, .ref mw, .ref mu, .ref mc, .ref mn, .int en, .int (nI sz), .ref mr, .int (nI wa), .ref mq, .int (nI (0 + nlen q K M (li - 1 - rw - q - 1))), .ref md, .int at0, .int lk])), (mu, .inl (cI, 4, .inl su)), (mc, .inl (cI, 4, .inl cu)), (mn, .inl (cI, 4, .inl nu))]) [0, 2, 3, 4] rfl
                      have hDc := hD.sub (ws' := [(y, .inr (5, [.int 0, .int (nI bi), .int (nI ne), .int (nI li), .int (nI sp), .int (nI q), .ref ms, .ref mw, .ref mu, .ref mc, .ref mn, .int en, .int (nI sz), .ref mr, .int (nI wa), .ref mq, .int (nI (0 + nlen q K M (li - 1 - rw - q - 1))), .ref md, .int at0, .int lk])), (mu, .inl (cI, 4, .inl su)), (mc, .inl (cI, 4, .inl cu)), (mn, .inl (cI, 4, .inl nu))]) [0, 2, 3, 4] (by decide) rfl
                      have hKc := hK.sub (tys' := [(cI, .int)]) [1] rfl
                      refine mcv (va_runV (As := [.int 0, .int 0, .int (nI M), .int (nI n)]) (rest := []) ⟨hx, hb, hml, hown, hg⟩ (c_M_learn0P l D y ms mw mu mc mn mr mq md bi ne li sp q sz wa 0 en (nI (0 + nlen q K M (li - 1 - rw - q - 1))) at0 lk cI su cu nu sm ct ng n M hsu hcu hnu hc0 hn0 hs0 (by omega) (by omega)) (cwV 4 hg (gV gw_646 gw_648 gs_23 gw_7 gw_649) rfl rfl rfl (by decide +kernel) ⟨Nat.le_of_ble_eq_true rfl, Nat.le_of_ble_eq_true rfl⟩) ⟨fun a U g mk q => by obtain ⟨q0, qP, qK, qD⟩ := q; exact ⟨q0, qP, va_K.moved (u := U) (U := U.calling g mk a) (Vm.Alike.refl U.vm) qK, qD⟩, va_recv hKc hPc (ci := 5) (q0 := 0) rfl rfl, fun U hU hW => ⟨rfl, by rw [hU]; exact hPc, va_K.moved hW.alike hKc, hDc.weaken (fun _ _ _ _ => trivial)⟩⟩ rfl rfl hl.1 rfl (lv_room (Nat.le_of_ble_eq_true rfl)) d_M_interrupt_147 (⟨Nat.le_of_ble_eq_true rfl, Nat.le_of_ble_eq_true rfl⟩)) hS hP hD [0, 2, 3, 4] rfl rfl rfl (fun H locs hP hD hS => ?_)
                      have hP : va_P D CLS [(y, .inr (5, [.int 0, .int (nI bi), .int (nI ne), .int (nI li), .int (nI sp), .int (nI q), .ref ms, .ref mw, .ref mu, .ref mc, .ref mn, .int en, .int (nI sz), .ref mr, .int (nI wa), .ref mq, .int (nI (0 + nlen q K M (li - 1 - rw - q - 1))), .ref md, .int at0, .int lk])), (mw, .inl (cI, 2, .inl lw)), (mu, .inl (cI, 4, .inl (upd su 0 (nI (hvd ct (sm + (M + 1 - 0) / 2)))))), (mc, .inl (cI, 4, .inl (upd cu 0 (nI (hvd ct ct + 1))))), (mn, .inl (cI, 4, .inl (upd nu 0 (nI (hvd ct ng))))), (mr, .inl (cB, 6000, .inl wr)), (md, .inl (cB, 400, .inl (wnum dr q K M (li - 1 - rw - q - 1) 0)))] H := hP
                      have hD : va_D A [(y, .inr (5, [.int 0, .int (nI bi), .int (nI ne), .int (nI li), .int (nI sp), .int (nI q), .ref ms, .ref mw, .ref mu, .ref mc, .ref mn, .int en, .int (nI sz), .ref mr, .int (nI wa), .ref mq, .int (nI (0 + nlen q K M (li - 1 - rw - q - 1))), .ref md, .int at0, .int lk])), (mw, .inl (cI, 2, .inl lw)), (mu, .inl (cI, 4, .inl (upd su 0 (nI (hvd ct (sm + (M + 1 - 0) / 2)))))), (mc, .inl (cI, 4, .inl (upd cu 0 (nI (hvd ct ct + 1))))), (mn, .inl (cI, 4, .inl (upd nu 0 (nI (hvd ct ng))))), (mr, .inl (cB, 6000, .inl wr)), (md, .inl (cB, 400, .inl (wnum dr q K M (li - 1 - rw - q - 1) 0)))] := hD
                      refine lv_aload_n hx hb d_M_interrupt_150 rfl (lv_at hl 2 rfl) ?_
                      have hPc := hP.sub (ws' := [(y, .inr (5, [.int 0, .int (nI bi), .int (nI ne), .int (nI li), .int (nI sp), .int (nI q), .ref ms, .ref mw, .ref mu, .ref mc, .ref mn, .int en, .int (nI sz), .ref mr, .int (nI wa), .ref mq, .int (nI (0 + nlen q K M (li - 1 - rw - q - 1))), .ref md, .int at0, .int lk])), (mr, .inl (cB, 6000, .inl wr)), (md, .inl (cB, 400, .inl (wnum dr q K M (li - 1 - rw - q - 1) 0)))]) [0, 5, 6] rfl
                      have hDc := hD.sub (ws' := [(y, .inr (5, [.int 0, .int (nI bi), .int (nI ne), .int (nI li), .int (nI sp), .int (nI q), .ref ms, .ref mw, .ref mu, .ref mc, .ref mn, .int en, .int (nI sz), .ref mr, .int (nI wa), .ref mq, .int (nI (0 + nlen q K M (li - 1 - rw - q - 1))), .ref md, .int at0, .int lk])), (mr, .inl (cB, 6000, .inl wr)), (md, .inl (cB, 400, .inl (wnum dr q K M (li - 1 - rw - q - 1) 0)))]) [0, 5, 6] (by decide) rfl
                      have hKc := hK.sub (tys' := [(cB, .byte)]) [0] rfl
                      refine mci (va_runV (As := []) (rest := []) ⟨hx, hb, hml, hown, hg⟩ (c_M_write l D y ms mw mu mc mn mr mq md bi ne li sp q sz wa 0 en (nI (0 + nlen q K M (li - 1 - rw - q - 1))) at0 lk cB wr (wnum dr q K M (li - 1 - rw - q - 1) 0) (0 + nlen q K M (li - 1 - rw - q - 1)) (by omega) (by omega) (fun j hj => wnum01 j (Nat.zero_le _) hj)) (cwV 0 hg (gV gw_610 gw_612 gs_17 gw_7 gw_613) rfl rfl rfl (by decide +kernel) ⟨Nat.le_of_ble_eq_true rfl, Nat.le_of_ble_eq_true rfl⟩) ⟨fun a U g mk q => by obtain ⟨q0, qP, qK, qD⟩ := q; exact ⟨q0, qP, va_K.moved (u := U) (U := U.calling g mk a) (Vm.Alike.refl U.vm) qK, qD⟩, va_recv hKc hPc (ci := 5) (q0 := 0) rfl rfl, fun U hU hW => ⟨rfl, by rw [hU]; exact hPc, va_K.moved hW.alike hKc, hDc.weaken (fun _ _ _ _ => trivial)⟩⟩ rfl rfl hl.1 rfl (lv_room (Nat.le_of_ble_eq_true rfl)) d_M_interrupt_151 (⟨Nat.le_of_ble_eq_true rfl, Nat.le_of_ble_eq_true rfl⟩)) hS hP hD [0, 5, 6] rfl rfl rfl (fun H locs hP hD hS => ?_)
                      have hP : va_P D CLS [(y, .inr (5, [.int 0, .int (nI bi), .int (nI ne), .int (nI li), .int (nI sp), .int (nI q), .ref ms, .ref mw, .ref mu, .ref mc, .ref mn, .int en, .int (nI (sz + (0 + nlen q K M (li - 1 - rw - q - 1)))), .ref mr, .int (nI wa), .ref mq, .int (nI (0 + nlen q K M (li - 1 - rw - q - 1))), .ref md, .int at0, .int lk])), (mw, .inl (cI, 2, .inl lw)), (mu, .inl (cI, 4, .inl (upd su 0 (nI (hvd ct (sm + (M + 1 - 0) / 2)))))), (mc, .inl (cI, 4, .inl (upd cu 0 (nI (hvd ct ct + 1))))), (mn, .inl (cI, 4, .inl (upd nu 0 (nI (hvd ct ng))))), (mr, .inl (cB, 6000, .inl (cpw wr sz (wnum dr q K M (li - 1 - rw - q - 1) 0) (0 + nlen q K M (li - 1 - rw - q - 1))))), (md, .inl (cB, 400, .inl (wnum dr q K M (li - 1 - rw - q - 1) 0)))] H := hP
                      have hD : va_D A [(y, .inr (5, [.int 0, .int (nI bi), .int (nI ne), .int (nI li), .int (nI sp), .int (nI q), .ref ms, .ref mw, .ref mu, .ref mc, .ref mn, .int en, .int (nI (sz + (0 + nlen q K M (li - 1 - rw - q - 1)))), .ref mr, .int (nI wa), .ref mq, .int (nI (0 + nlen q K M (li - 1 - rw - q - 1))), .ref md, .int at0, .int lk])), (mw, .inl (cI, 2, .inl lw)), (mu, .inl (cI, 4, .inl (upd su 0 (nI (hvd ct (sm + (M + 1 - 0) / 2)))))), (mc, .inl (cI, 4, .inl (upd cu 0 (nI (hvd ct ct + 1))))), (mn, .inl (cI, 4, .inl (upd nu 0 (nI (hvd ct ng))))), (mr, .inl (cB, 6000, .inl (cpw wr sz (wnum dr q K M (li - 1 - rw - q - 1) 0) (0 + nlen q K M (li - 1 - rw - q - 1))))), (md, .inl (cB, 400, .inl (wnum dr q K M (li - 1 - rw - q - 1) 0)))] := hD
                      exact W.iret (v := nI (0 + nlen q K M (li - 1 - rw - q - 1))) hx hb hr (fun t ht hW => ⟨rfl, by rw [ht]; exact hP, (hAe ▸ hS).F ht⟩) (hAe ▸ hS).2.2 d_M_interrupt_154
                    · skip
                      exact absurd (by decide) c_13
              · skip
                exact absurd (Int32.not_lt.mp (nI_pos (by omega))) c_10
        · skip
          refine tpi (y := 0) (if_neg hup) ?_
          refine lv_if_eq (tgt := 59) hx hb d_M_interrupt_44 (by decide) (fun c_14 => ?_) (fun c_14 => ?_)
          · skip
            refine lv_iload_n hx hb d_M_interrupt_59 rfl (lv_at hl 2 rfl) ?_
            refine lv_if_ge (tgt := 67) hx hb d_M_interrupt_60 (by decide) (fun c_15 => ?_) (fun c_15 => ?_)
            · skip
              have hfl : (if ¬ n = 0 ∧ (K = 0 ∧ 2 * ng < ct) then 1 else 0 : Nat) = 0 := if_neg (fun q9 => hup q9.2)
              refine lv_iconst (v := 0) hx hb d_M_interrupt_67 (by decide) ?_
              refine lv_istore_n (lv' := [(3, .int 0), (0, .ref y), (1, .int 0), (2, .int (nI n))]) hx hb d_M_interrupt_68 rfl hl (by decide) rfl (fun ls hl => ?_)
              refine lv_iconst (v := 2) hx hb d_M_interrupt_69 (by decide) ?_
              refine lv_iload_n hx hb d_M_interrupt_70 rfl (lv_at hl 3 rfl) ?_
              refine lv_if_ge (tgt := 79) hx hb d_M_interrupt_71 (by decide) (fun c_16 => ?_) (fun c_16 => ?_)
              · skip
                refine lv_iload_n hx hb d_M_interrupt_79 rfl (lv_at hl 3 rfl) ?_
                refine lv_imul hx hb d_M_interrupt_80 ?_
                refine tpi (y := nI (2 * n)) (mul2 n) ?_
                refine lv_iload_n hx hb d_M_interrupt_81 rfl (lv_at hl 2 rfl) ?_
                refine lv_isub hx hb d_M_interrupt_82 ?_
                refine tpi (y := nI (2 * n - 0)) (pk_sub (b := 0) (by omega)) ?_
                refine lv_iload_n hx hb d_M_interrupt_83 rfl (lv_at hl 0 rfl) ?_
                refine lv_if_eq (tgt := 91) hx hb d_M_interrupt_84 (by decide) (fun c_17 => ?_) (fun c_17 => ?_)
                · skip
                  refine lv_iconst (v := 0) hx hb d_M_interrupt_91 (by decide) ?_
                  refine lv_isub hx hb d_M_interrupt_92 ?_
                  refine tpi (y := nI M) ((pk_sub (b := 0) (by omega)).trans (congrArg nI (by rw [hM, hfl]))) ?_
                  refine lv_istore (lv' := [(4, .int (nI M)), (3, .int 0), (0, .ref y), (1, .int 0), (2, .int (nI n))]) hx hb d_M_interrupt_93 hl (by decide) rfl (fun ls hl => ?_)
                  refine lv_aload_n hx hb d_M_interrupt_95 rfl (lv_at hl 2 rfl) ?_
                  refine lv_iconst (v := 0) hx hb d_M_interrupt_96 (by decide) ?_
                  refine tpi (y := nI 0) (rfl) ?_
                  refine va_put (D := D) (ci := 5) (v := .int (nI 0)) (ty := .int) (C := R_M) (T := T_M) (N := 20) hx hb hg in_M ty_M tok_M nm_M hown hK hP hD hS 0 rfl rfl 16 (by decide) (hg _ gw_540) (fun _ h9 => h9) rfl (by decide +kernel) (rfl) (rfl) (Nat.le_of_ble_eq_true rfl) d_M_interrupt_97 (fun H locs hP hD hS => ?_)
                  have hP : va_P D CLS [(y, .inr (5, [.int 0, .int (nI bi), .int (nI ne), .int (nI li), .int (nI sp), .int (nI q), .ref ms, .ref mw, .ref mu, .ref mc, .ref mn, .int en, .int (nI sz), .ref mr, .int (nI wa), .ref mq, .int (nI 0), .ref md, .int at0, .int lk])), (mw, .inl (cI, 2, .inl lw)), (mu, .inl (cI, 4, .inl su)), (mc, .inl (cI, 4, .inl cu)), (mn, .inl (cI, 4, .inl nu)), (mr, .inl (cB, 6000, .inl wr)), (md, .inl (cB, 400, .inl dr))] H := hP
                  have hD : va_D A [(y, .inr (5, [.int 0, .int (nI bi), .int (nI ne), .int (nI li), .int (nI sp), .int (nI q), .ref ms, .ref mw, .ref mu, .ref mc, .ref mn, .int en, .int (nI sz), .ref mr, .int (nI wa), .ref mq, .int (nI 0), .ref md, .int at0, .int lk])), (mw, .inl (cI, 2, .inl lw)), (mu, .inl (cI, 4, .inl su)), (mc, .inl (cI, 4, .inl cu)), (mn, .inl (cI, 4, .inl nu)), (mr, .inl (cB, 6000, .inl wr)), (md, .inl (cB, 400, .inl dr))] := hD
                  refine lv_aload_n hx hb d_M_interrupt_100 rfl (lv_at hl 2 rfl) ?_
                  refine lv_iload hx hb d_M_interrupt_101 (lv_at hl 0 rfl) ?_
                  refine lv_aload_n hx hb d_M_interrupt_103 rfl (lv_at hl 2 rfl) ?_
                  refine lv_iload_n hx hb d_M_interrupt_104 rfl (lv_at hl 3 rfl) ?_
                  have hPc := hP.sub (ws' := [(y, .inr (5, [.int 0, .int (nI bi), .int (nI ne), .int (nI li), .int (nI sp), .int (nI q), .ref ms, .ref mw, .ref mu, .ref mc, .ref mn, .int en, .int (nI sz), .ref mr, .int (nI wa), .ref mq, .int (nI 0), .ref md, .int at0, .int lk])), (mu, .inl (cI, 4, .inl su)), (mc, .inl (cI, 4, .inl cu)), (mn, .inl (cI, 4, .inl nu))]) [0, 2, 3, 4] rfl
                  have hKc := hK.sub (tys' := [(cI, .int)]) [1] rfl
                  refine pci (va_runV (As := [.int 0]) (rest := [.int (nI M), .ref y]) ⟨hx, hb, hml, hown, hg⟩ (c_M_kOf0 l D y ms mw mu mc mn mr mq md bi ne li sp q sz wa 0 en (nI 0) at0 lk cI su cu nu sm ct ng K hsu hcu hnu hc0 hn0 (by omega) hKb hK1 hK2) (cwV 1 hg (gV gw_638 gw_640 gs_21 gw_7 gw_641) rfl rfl rfl (by decide +kernel) ⟨Nat.le_of_ble_eq_true rfl, Nat.le_of_ble_eq_true rfl⟩) ⟨fun a U g mk q => by obtain ⟨q0, qP, qK⟩ := q; exact ⟨q0, qP, va_K.moved (u := U) (U := U.calling g mk a) (Vm.Alike.refl U.vm) qK⟩, va_recv hKc hPc (ci := 5) (q0 := 0) rfl rfl, fun U hU hW => ⟨rfl, by rw [hU]; exact hPc, va_K.moved hW.alike hKc⟩⟩ rfl rfl hl.1 rfl (lv_room (Nat.le_of_ble_eq_true rfl)) d_M_interrupt_105 (⟨Nat.le_of_ble_eq_true rfl, Nat.le_of_ble_eq_true rfl⟩)) ?_
                  refine lv_aload_n hx hb d_M_interrupt_108 rfl (lv_at hl 2 rfl) ?_
                  refine lv_iconst (v := 0) hx hb d_M_interrupt_109 (by decide) ?_
                  have hPc := hP.sub (ws' := [(y, .inr (5, [.int 0, .int (nI bi), .int (nI ne), .int (nI li), .int (nI sp), .int (nI q), .ref ms, .ref mw, .ref mu, .ref mc, .ref mn, .int en, .int (nI sz), .ref mr, .int (nI wa), .ref mq, .int (nI 0), .ref md, .int at0, .int lk])), (mw, .inl (cI, 2, .inl lw))]) [0, 1] rfl
                  have hKc := hK.sub (tys' := [(cI, .int)]) [1] rfl
                  refine pci (va_runV (As := [.int 0]) (rest := [.int (nI K), .int (nI M), .ref y]) ⟨hx, hb, hml, hown, hg⟩ (c_M_limitFor0 l D y ms mw mu mc mn mr mq md bi ne li sp q sz wa 0 en (nI 0) at0 lk cI lw rw hlw (by omega)) (cwV 1 hg (gV gw_642 gw_644 gs_22 gw_7 gw_645) rfl rfl rfl (by decide +kernel) ⟨Nat.le_of_ble_eq_true rfl, Nat.le_of_ble_eq_true rfl⟩) ⟨fun a U g mk q => by obtain ⟨q0, qP, qK⟩ := q; exact ⟨q0, qP, va_K.moved (u := U) (U := U.calling g mk a) (Vm.Alike.refl U.vm) qK⟩, va_recv hKc hPc (ci := 5) (q0 := 0) rfl rfl, fun U hU hW => ⟨rfl, by rw [hU]; exact hPc, va_K.moved hW.alike hKc⟩⟩ rfl rfl hl.1 rfl (lv_room (Nat.le_of_ble_eq_true rfl)) d_M_interrupt_110 (⟨Nat.le_of_ble_eq_true rfl, Nat.le_of_ble_eq_true rfl⟩)) ?_
                  have hPc := hP.sub (ws' := [(y, .inr (5, [.int 0, .int (nI bi), .int (nI ne), .int (nI li), .int (nI sp), .int (nI q), .ref ms, .ref mw, .ref mu, .ref mc, .ref mn, .int en, .int (nI sz), .ref mr, .int (nI wa), .ref mq, .int (nI 0), .ref md, .int at0, .int lk])), (md, .inl (cB, 400, .inl dr))]) [0, 6] rfl
                  have hDc := hD.sub (ws' := [(y, .inr (5, [.int 0, .int (nI bi), .int (nI ne), .int (nI li), .int (nI sp), .int (nI q), .ref ms, .ref mw, .ref mu, .ref mc, .ref mn, .int en, .int (nI sz), .ref mr, .int (nI wa), .ref mq, .int (nI 0), .ref md, .int at0, .int lk])), (md, .inl (cB, 400, .inl dr))]) [0, 6] (by decide) rfl
                  have hKc := hK.sub (tys' := [(cB, .byte)]) [0] rfl
                  refine mcv (va_runV (As := [.int (nI M), .int (nI K), .int (nI (li - 1 - rw))]) (rest := []) ⟨hx, hb, hml, hown, hg⟩ (c_M_layNumber l D y ms mw mu mc mn mr mq md bi ne li sp q sz wa 0 en (nI 0) at0 lk cB dr 0 M K (li - 1 - rw) (by omega) (by omega) (by omega) (by omega) (by omega) (by omega)) (cwV 3 hg (gV gw_594 gw_596 gs_13 gw_7 gw_597) rfl rfl rfl (by decide +kernel) ⟨Nat.le_of_ble_eq_true rfl, Nat.le_of_ble_eq_true rfl⟩) ⟨fun a U g mk q => by obtain ⟨q0, qP, qK, qD⟩ := q; exact ⟨q0, qP, va_K.moved (u := U) (U := U.calling g mk a) (Vm.Alike.refl U.vm) qK, qD⟩, va_recv hKc hPc (ci := 5) (q0 := 0) rfl rfl, fun U hU hW => ⟨rfl, by rw [hU]; exact hPc, va_K.moved hW.alike hKc, hDc.weaken (fun _ _ _ _ => trivial)⟩⟩ rfl rfl hl.1 rfl (lv_room (Nat.le_of_ble_eq_true rfl)) d_M_interrupt_113 (⟨Nat.le_of_ble_eq_true rfl, Nat.le_of_ble_eq_true rfl⟩)) hS hP hD [0, 6] rfl rfl rfl (fun H locs hP hD hS => ?_)
                  have hP : va_P D CLS [(y, .inr (5, [.int 0, .int (nI bi), .int (nI ne), .int (nI li), .int (nI sp), .int (nI q), .ref ms, .ref mw, .ref mu, .ref mc, .ref mn, .int en, .int (nI sz), .ref mr, .int (nI wa), .ref mq, .int (nI (0 + nlen q K M (li - 1 - rw - q - 1))), .ref md, .int at0, .int lk])), (mw, .inl (cI, 2, .inl lw)), (mu, .inl (cI, 4, .inl su)), (mc, .inl (cI, 4, .inl cu)), (mn, .inl (cI, 4, .inl nu)), (mr, .inl (cB, 6000, .inl wr)), (md, .inl (cB, 400, .inl (wnum dr q K M (li - 1 - rw - q - 1) 0)))] H := hP
                  have hD : va_D A [(y, .inr (5, [.int 0, .int (nI bi), .int (nI ne), .int (nI li), .int (nI sp), .int (nI q), .ref ms, .ref mw, .ref mu, .ref mc, .ref mn, .int en, .int (nI sz), .ref mr, .int (nI wa), .ref mq, .int (nI (0 + nlen q K M (li - 1 - rw - q - 1))), .ref md, .int at0, .int lk])), (mw, .inl (cI, 2, .inl lw)), (mu, .inl (cI, 4, .inl su)), (mc, .inl (cI, 4, .inl cu)), (mn, .inl (cI, 4, .inl nu)), (mr, .inl (cB, 6000, .inl wr)), (md, .inl (cB, 400, .inl (wnum dr q K M (li - 1 - rw - q - 1) 0)))] := hD
                  refine lv_aload_n hx hb d_M_interrupt_116 rfl (lv_at hl 2 rfl) ?_
                  refine lv_aload_n hx hb d_M_interrupt_117 rfl (lv_at hl 2 rfl) ?_
                  have hPc := hP.sub (ws' := [(y, .inr (5, [.int 0, .int (nI bi), .int (nI ne), .int (nI li), .int (nI sp), .int (nI q), .ref ms, .ref mw, .ref mu, .ref mc, .ref mn, .int en, .int (nI sz), .ref mr, .int (nI wa), .ref mq, .int (nI (0 + nlen q K M (li - 1 - rw - q - 1))), .ref md, .int at0, .int lk]))]) [0] rfl
                  have hKc := hK.sub (tys' := []) [] rfl
                  refine pci (va_runV (As := []) (rest := [.ref y]) ⟨hx, hb, hml, hown, hg⟩ (c_M_hasRoom l D y ms mw mu mc mn mr mq md bi ne li sp q sz wa 0 en (nI (0 + nlen q K M (li - 1 - rw - q - 1))) at0 lk (0 + nlen q K M (li - 1 - rw - q - 1)) hsz (by omega)) (cwV 0 hg (gV gw_606 gw_608 gs_16 gw_7 gw_609) rfl rfl rfl (by decide +kernel) ⟨Nat.le_of_ble_eq_true rfl, Nat.le_of_ble_eq_true rfl⟩) ⟨fun a U g mk q => by obtain ⟨q0, qP, qK⟩ := q; exact ⟨q0, qP, va_K.moved (u := U) (U := U.calling g mk a) (Vm.Alike.refl U.vm) qK⟩, va_recv hKc hPc (ci := 5) (q0 := 0) rfl rfl, fun U hU hW => ⟨rfl, by rw [hU]; exact hPc, va_K.moved hW.alike hKc⟩⟩ rfl rfl hl.1 rfl (lv_room (Nat.le_of_ble_eq_true rfl)) d_M_interrupt_118 (⟨Nat.le_of_ble_eq_true rfl, Nat.le_of_ble_eq_true rfl⟩)) ?_
                  refine tpi (y := 1) (if_pos (by omega)) ?_
                  refine lv_if_eq (tgt := 128) hx hb d_M_interrupt_121 (by decide) (fun c_18 => ?_) (fun c_18 => ?_)
                  · skip
                    exact absurd c_18 (by decide)
                  · skip
                    refine lv_iconst (v := 0) hx hb d_M_interrupt_124 (by decide) ?_
                    refine lv_goto (tgt := 129) hx hb d_M_interrupt_125 (by decide) ?_
                    refine va_put (D := D) (ci := 5) (v := .int 0) (ty := .int) (C := R_M) (T := T_M) (N := 20) hx hb hg in_M ty_M tok_M nm_M hown hK hP hD hS 0 rfl rfl 0 (by decide) (hg _ gw_524) (fun _ h9 => h9) rfl (by decide +kernel) (rfl) (rfl) (Nat.le_of_ble_eq_true rfl) d_M_interrupt_129 (fun H locs hP hD hS => ?_)
                    have hP : va_P D CLS [(y, .inr (5, [.int 0, .int (nI bi), .int (nI ne), .int (nI li), .int (nI sp), .int (nI q), .ref ms, .ref mw, .ref mu, .ref mc, .ref mn, .int en, .int (nI sz), .ref mr, .int (nI wa), .ref mq, .int (nI (0 + nlen q K M (li - 1 - rw - q - 1))), .ref md, .int at0, .int lk])), (mw, .inl (cI, 2, .inl lw)), (mu, .inl (cI, 4, .inl su)), (mc, .inl (cI, 4, .inl cu)), (mn, .inl (cI, 4, .inl nu)), (mr, .inl (cB, 6000, .inl wr)), (md, .inl (cB, 400, .inl (wnum dr q K M (li - 1 - rw - q - 1) 0)))] H := hP
                    have hD : va_D A [(y, .inr (5, [.int 0, .int (nI bi), .int (nI ne), .int (nI li), .int (nI sp), .int (nI q), .ref ms, .ref mw, .ref mu, .ref mc, .ref mn, .int en, .int (nI sz), .ref mr, .int (nI wa), .ref mq, .int (nI (0 + nlen q K M (li - 1 - rw - q - 1))), .ref md, .int at0, .int lk])), (mw, .inl (cI, 2, .inl lw)), (mu, .inl (cI, 4, .inl su)), (mc, .inl (cI, 4, .inl cu)), (mn, .inl (cI, 4, .inl nu)), (mr, .inl (cB, 6000, .inl wr)), (md, .inl (cB, 400, .inl (wnum dr q K M (li - 1 - rw - q - 1) 0)))] := hD
                    refine lv_aload_n hx hb d_M_interrupt_132 rfl (lv_at hl 2 rfl) ?_
                    refine va_get (D := D) (ci := 5) (v := .int 0) (C := R_M) (T := T_M) (N := 20) hx hb hg in_M hown hK hP 0 rfl rfl 0 (by decide) (hg _ gw_524) (fun _ h9 => h9) rfl d_M_interrupt_133 ?_
                    refine lv_if_le (tgt := 141) hx hb d_M_interrupt_136 (by decide) (fun c_19 => ?_) (fun c_19 => ?_)
                    · skip
                      refine lv_aload_n hx hb d_M_interrupt_141 rfl (lv_at hl 2 rfl) ?_
                      refine lv_iload_n hx hb d_M_interrupt_142 rfl (lv_at hl 3 rfl) ?_
                      refine lv_iload_n hx hb d_M_interrupt_143 rfl (lv_at hl 3 rfl) ?_
                      refine lv_iload hx hb d_M_interrupt_144 (lv_at hl 0 rfl) ?_
                      refine lv_iload_n hx hb d_M_interrupt_146 rfl (lv_at hl 4 rfl) ?_
                      have hPc := hP.sub (ws' := [(y, .inr (5, [.int 0, .int (nI bi), .int (nI ne), .int (nI li), .int (nI sp), .int (nI q), .ref ms, .ref mw, .ref mu, .ref mc, .ref mn, .int en, .int (nI sz), .ref mr, .int (nI wa), .ref mq, .int (nI (0 + nlen q K M (li - 1 - rw - q - 1))), .ref md, .int at0, .int lk])), (mu, .inl (cI, 4, .inl su)), (mc, .inl (cI, 4, .inl cu)), (mn, .inl (cI, 4, .inl nu))]) [0, 2, 3, 4] rfl
                      have hDc := hD.sub (ws' := [(y, .inr (5, [.int 0, .int (nI bi), .int (nI ne), .int (nI li), .int (nI sp), .int (nI q), .ref ms, .ref mw, .ref mu, .ref mc, .ref mn, .int en, .int (nI sz), .ref mr, .int (nI wa), .ref mq, .int (nI (0 + nlen q K M (li - 1 - rw - q - 1))), .ref md, .int at0, .int lk])), (mu, .inl (cI, 4, .inl su)), (mc, .inl (cI, 4, .inl cu)), (mn, .inl (cI, 4, .inl nu))]) [0, 2, 3, 4] (by decide) rfl
                      have hKc := hK.sub (tys' := [(cI, .int)]) [1] rfl
                      refine mcv (va_runV (As := [.int 0, .int 0, .int (nI M), .int (nI n)]) (rest := []) ⟨hx, hb, hml, hown, hg⟩ (c_M_learn0P l D y ms mw mu mc mn mr mq md bi ne li sp q sz wa 0 en (nI (0 + nlen q K M (li - 1 - rw - q - 1))) at0 lk cI su cu nu sm ct ng n M hsu hcu hnu hc0 hn0 hs0 (by omega) (by omega)) (cwV 4 hg (gV gw_646 gw_648 gs_23 gw_7 gw_649) rfl rfl rfl (by decide +kernel) ⟨Nat.le_of_ble_eq_true rfl, Nat.le_of_ble_eq_true rfl⟩) ⟨fun a U g mk q => by obtain ⟨q0, qP, qK, qD⟩ := q; exact ⟨q0, qP, va_K.moved (u := U) (U := U.calling g mk a) (Vm.Alike.refl U.vm) qK, qD⟩, va_recv hKc hPc (ci := 5) (q0 := 0) rfl rfl, fun U hU hW => ⟨rfl, by rw [hU]; exact hPc, va_K.moved hW.alike hKc, hDc.weaken (fun _ _ _ _ => trivial)⟩⟩ rfl rfl hl.1 rfl (lv_room (Nat.le_of_ble_eq_true rfl)) d_M_interrupt_147 (⟨Nat.le_of_ble_eq_true rfl, Nat.le_of_ble_eq_true rfl⟩)) hS hP hD [0, 2, 3, 4] rfl rfl rfl (fun H locs hP hD hS => ?_)
                      have hP : va_P D CLS [(y, .inr (5, [.int 0, .int (nI bi), .int (nI ne), .int (nI li), .int (nI sp), .int (nI q), .ref ms, .ref mw, .ref mu, .ref mc, .ref mn, .int en, .int (nI sz), .ref mr, .int (nI wa), .ref mq, .int (nI (0 + nlen q K M (li - 1 - rw - q - 1))), .ref md, .int at0, .int lk])), (mw, .inl (cI, 2, .inl lw)), (mu, .inl (cI, 4, .inl (upd su 0 (nI (hvd ct (sm + (M + 1 - 0) / 2)))))), (mc, .inl (cI, 4, .inl (upd cu 0 (nI (hvd ct ct + 1))))), (mn, .inl (cI, 4, .inl (upd nu 0 (nI (hvd ct ng))))), (mr, .inl (cB, 6000, .inl wr)), (md, .inl (cB, 400, .inl (wnum dr q K M (li - 1 - rw - q - 1) 0)))] H := hP
                      have hD : va_D A [(y, .inr (5, [.int 0, .int (nI bi), .int (nI ne), .int (nI li), .int (nI sp), .int (nI q), .ref ms, .ref mw, .ref mu, .ref mc, .ref mn, .int en, .int (nI sz), .ref mr, .int (nI wa), .ref mq, .int (nI (0 + nlen q K M (li - 1 - rw - q - 1))), .ref md, .int at0, .int lk])), (mw, .inl (cI, 2, .inl lw)), (mu, .inl (cI, 4, .inl (upd su 0 (nI (hvd ct (sm + (M + 1 - 0) / 2)))))), (mc, .inl (cI, 4, .inl (upd cu 0 (nI (hvd ct ct + 1))))), (mn, .inl (cI, 4, .inl (upd nu 0 (nI (hvd ct ng))))), (mr, .inl (cB, 6000, .inl wr)), (md, .inl (cB, 400, .inl (wnum dr q K M (li - 1 - rw - q - 1) 0)))] := hD
                      refine lv_aload_n hx hb d_M_interrupt_150 rfl (lv_at hl 2 rfl) ?_
                      have hPc := hP.sub (ws' := [(y, .inr (5, [.int 0, .int (nI bi), .int (nI ne), .int (nI li), .int (nI sp), .int (nI q), .ref ms, .ref mw, .ref mu, .ref mc, .ref mn, .int en, .int (nI sz), .ref mr, .int (nI wa), .ref mq, .int (nI (0 + nlen q K M (li - 1 - rw - q - 1))), .ref md, .int at0, .int lk])), (mr, .inl (cB, 6000, .inl wr)), (md, .inl (cB, 400, .inl (wnum dr q K M (li - 1 - rw - q - 1) 0)))]) [0, 5, 6] rfl
                      have hDc := hD.sub (ws' := [(y, .inr (5, [.int 0, .int (nI bi), .int (nI ne), .int (nI li), .int (nI sp), .int (nI q), .ref ms, .ref mw, .ref mu, .ref mc, .ref mn, .int en, .int (nI sz), .ref mr, .int (nI wa), .ref mq, .int (nI (0 + nlen q K M (li - 1 - rw - q - 1))), .ref md, .int at0, .int lk])), (mr, .inl (cB, 6000, .inl wr)), (md, .inl (cB, 400, .inl (wnum dr q K M (li - 1 - rw - q - 1) 0)))]) [0, 5, 6] (by decide) rfl
                      have hKc := hK.sub (tys' := [(cB, .byte)]) [0] rfl
                      refine mci (va_runV (As := []) (rest := []) ⟨hx, hb, hml, hown, hg⟩ (c_M_write l D y ms mw mu mc mn mr mq md bi ne li sp q sz wa 0 en (nI (0 + nlen q K M (li - 1 - rw - q - 1))) at0 lk cB wr (wnum dr q K M (li - 1 - rw - q - 1) 0) (0 + nlen q K M (li - 1 - rw - q - 1)) (by omega) (by omega) (fun j hj => wnum01 j (Nat.zero_le _) hj)) (cwV 0 hg (gV gw_610 gw_612 gs_17 gw_7 gw_613) rfl rfl rfl (by decide +kernel) ⟨Nat.le_of_ble_eq_true rfl, Nat.le_of_ble_eq_true rfl⟩) ⟨fun a U g mk q => by obtain ⟨q0, qP, qK, qD⟩ := q; exact ⟨q0, qP, va_K.moved (u := U) (U := U.calling g mk a) (Vm.Alike.refl U.vm) qK, qD⟩, va_recv hKc hPc (ci := 5) (q0 := 0) rfl rfl, fun U hU hW => ⟨rfl, by rw [hU]; exact hPc, va_K.moved hW.alike hKc, hDc.weaken (fun _ _ _ _ => trivial)⟩⟩ rfl rfl hl.1 rfl (lv_room (Nat.le_of_ble_eq_true rfl)) d_M_interrupt_151 (⟨Nat.le_of_ble_eq_true rfl, Nat.le_of_ble_eq_true rfl⟩)) hS hP hD [0, 5, 6] rfl rfl rfl (fun H locs hP hD hS => ?_)
                      have hP : va_P D CLS [(y, .inr (5, [.int 0, .int (nI bi), .int (nI ne), .int (nI li), .int (nI sp), .int (nI q), .ref ms, .ref mw, .ref mu, .ref mc, .ref mn, .int en, .int (nI (sz + (0 + nlen q K M (li - 1 - rw - q - 1)))), .ref mr, .int (nI wa), .ref mq, .int (nI (0 + nlen q K M (li - 1 - rw - q - 1))), .ref md, .int at0, .int lk])), (mw, .inl (cI, 2, .inl lw)), (mu, .inl (cI, 4, .inl (upd su 0 (nI (hvd ct (sm + (M + 1 - 0) / 2)))))), (mc, .inl (cI, 4, .inl (upd cu 0 (nI (hvd ct ct + 1))))), (mn, .inl (cI, 4, .inl (upd nu 0 (nI (hvd ct ng))))), (mr, .inl (cB, 6000, .inl (cpw wr sz (wnum dr q K M (li - 1 - rw - q - 1) 0) (0 + nlen q K M (li - 1 - rw - q - 1))))), (md, .inl (cB, 400, .inl (wnum dr q K M (li - 1 - rw - q - 1) 0)))] H := hP
                      have hD : va_D A [(y, .inr (5, [.int 0, .int (nI bi), .int (nI ne), .int (nI li), .int (nI sp), .int (nI q), .ref ms, .ref mw, .ref mu, .ref mc, .ref mn, .int en, .int (nI (sz + (0 + nlen q K M (li - 1 - rw - q - 1)))), .ref mr, .int (nI wa), .ref mq, .int (nI (0 + nlen q K M (li - 1 - rw - q - 1))), .ref md, .int at0, .int lk])), (mw, .inl (cI, 2, .inl lw)), (mu, .inl (cI, 4, .inl (upd su 0 (nI (hvd ct (sm + (M + 1 - 0) / 2)))))), (mc, .inl (cI, 4, .inl (upd cu 0 (nI (hvd ct ct + 1))))), (mn, .inl (cI, 4, .inl (upd nu 0 (nI (hvd ct ng))))), (mr, .inl (cB, 6000, .inl (cpw wr sz (wnum dr q K M (li - 1 - rw - q - 1) 0) (0 + nlen q K M (li - 1 - rw - q - 1))))), (md, .inl (cB, 400, .inl (wnum dr q K M (li - 1 - rw - q - 1) 0)))] := hD
                      exact W.iret (v := nI (0 + nlen q K M (li - 1 - rw - q - 1))) hx hb hr (fun t ht hW => ⟨rfl, by rw [ht]; exact hP, (hAe ▸ hS).F ht⟩) (hAe ▸ hS).2.2 d_M_interrupt_154
                    · skip
                      exact absurd (by decide) c_19
                · skip
                  exact absurd rfl c_17
              · skip
                exact absurd (Int32.not_lt.mp (nI_pos (by omega))) c_16
            · skip
              exact absurd (Int32.not_lt.mp (nI_pos (by omega))) c_15
          · skip
            exact absurd rfl c_14
      · skip
        exact absurd (by decide) c_3
    · skip
      exact absurd c_2 (by decide)
  · skip
    exact absurd c_1 (by decide)
set_option maxHeartbeats 4000000 in
set_option maxRecDepth 100000 in
theorem c_M_interrupt0PU (l : Launch) (D : va_G) (y ms mw mu mc mn mr mq md bi ne li sp q sz wa : Nat) (th en la at0 lk : Int32) (cB cI : ClassId) (lw su cu nu wr dr : Nat → Int32) (rw sm ct ng n K M : Nat) (hlw : lw 0 = nI rw) (hsu : su 0 = nI sm) (hcu : cu 0 = nI ct) (hnu : nu 0 = nI ng) (hc0 : ct ≤ 64) (hn0 : ng ≤ 64) (hs0 : sm < 2 ^ 29) (hKb : K ≤ 29) (hK1 : sm ≤ ct * 2 ^ K) (hK2 : ∀ j, j < K → ct * 2 ^ j < sm) (hsp : sp ≤ 65536) (hn : n ≤ sp / 2) (hM : M = 2 * n - 0 - (if ¬ n = 0 ∧ (K = 0 ∧ 2 * ng < ct) then 1 else 0)) (hq : q ≤ 29) (hli : q + 18 ≤ li) (hlb : li ≤ 200) (hrw : rw ≤ 15) (hsz : sz ≤ 6000) (hu : ¬ sz + nlen q K M (li - 1 - rw - q - 1) ≤ 6000) : Met l y_M_interrupt (WSY y_M_interrupt b_M_interrupt 5 (some .int)) ({ frames := 3, cells := 0, slots := 0, locals := 72 }) (va_Pc [.ref y, .int 0, .int (nI n)] (fun U => va_P D CLS [(y, .inr (5, [.int th, .int (nI bi), .int (nI ne), .int (nI li), .int (nI sp), .int (nI q), .ref ms, .ref mw, .ref mu, .ref mc, .ref mn, .int en, .int (nI sz), .ref mr, .int (nI wa), .ref mq, .int la, .ref md, .int at0, .int lk])), (mw, .inl (cI, 2, .inl lw)), (mu, .inl (cI, 4, .inl su)), (mc, .inl (cI, 4, .inl cu)), (mn, .inl (cI, 4, .inl nu)), (mr, .inl (cB, 6000, .inl wr)), (md, .inl (cB, 400, .inl dr))] U.heap ∧ va_K D CLS [(cB, .byte), (cI, .int)] U ∧ va_D (fun _ => True) [(y, .inr (5, [.int th, .int (nI bi), .int (nI ne), .int (nI li), .int (nI sp), .int (nI q), .ref ms, .ref mw, .ref mu, .ref mc, .ref mn, .int en, .int (nI sz), .ref mr, .int (nI wa), .ref mq, .int la, .ref md, .int at0, .int lk])), (mw, .inl (cI, 2, .inl lw)), (mu, .inl (cI, 4, .inl su)), (mc, .inl (cI, 4, .inl cu)), (mn, .inl (cI, 4, .inl nu)), (mr, .inl (cB, 6000, .inl wr)), (md, .inl (cB, 400, .inl dr))])) (QM (some (.int (0))) [(y, .inr (5, [.int th, .int (nI bi), .int (nI ne), .int (nI li), .int (nI sp), .int (nI q), .ref ms, .ref mw, .ref mu, .ref mc, .ref mn, .int en, .int (nI sz), .ref mr, .int (nI wa), .ref mq, .int la, .ref md, .int at0, .int lk])), (mw, .inl (cI, 2, .inl lw)), (mu, .inl (cI, 4, .inl su)), (mc, .inl (cI, 4, .inl cu)), (mn, .inl (cI, 4, .inl nu)), (mr, .inl (cB, 6000, .inl wr)), (md, .inl (cB, 400, .inl dr))] [(y, .inr (5, [.int 3, .int (nI bi), .int (nI ne), .int (nI li), .int (nI sp), .int (nI q), .ref ms, .ref mw, .ref mu, .ref mc, .ref mn, .int en, .int (nI sz), .ref mr, .int (nI wa), .ref mq, .int (nI (0 + nlen q K M (li - 1 - rw - q - 1))), .ref md, .int at0, .int lk])), (mw, .inl (cI, 2, .inl lw)), (mu, .inl (cI, 4, .inl su)), (mc, .inl (cI, 4, .inl cu)), (mn, .inl (cI, 4, .inl nu)), (mr, .inl (cB, 6000, .inl wr)), (md, .inl (cB, 400, .inl (wnum dr q K M (li - 1 - rw - q - 1) 0)))] D) 0 0 (ad [(y, .inr (5, [.int th, .int (nI bi), .int (nI ne), .int (nI li), .int (nI sp), .int (nI q), .ref ms, .ref mw, .ref mu, .ref mc, .ref mn, .int en, .int (nI sz), .ref mr, .int (nI wa), .ref mq, .int la, .ref md, .int at0, .int lk])), (mw, .inl (cI, 2, .inl lw)), (mu, .inl (cI, 4, .inl su)), (mc, .inl (cI, 4, .inl cu)), (mn, .inl (cI, 4, .inl nu)), (mr, .inl (cB, 6000, .inl wr)), (md, .inl (cB, 400, .inl dr))]) := by
  refine Met.ofW (cc := b_M_interrupt) (maxL := 5) (ret := (some .int)) (by decide) rfl ?_
  intro p e s m args below meth c s₁ B hml hv
  obtain ⟨rfl, hP, hK, hD0⟩ := hv
  have hx := B.exec
  have hb := B.bytes
  have hr := B.returns
  have hts := atoms_spec (ws := WSY y_M_interrupt b_M_interrupt 5 (some .int)) B.pre
  have hg : ∀ w ∈ GW, w.before _ s = true := fun w h => hts w (List.mem_cons_of_mem _ h)
  have hown : s.vm.findClass "LineGolombModel" = some m.cls := findClass_of_methodNamed B.named
  have hlocks := B.notSynchronized
  obtain ⟨A, hAe⟩ : ∃ A, A = ad [(y, .inr (5, [.int th, .int (nI bi), .int (nI ne), .int (nI li), .int (nI sp), .int (nI q), .ref ms, .ref mw, .ref mu, .ref mc, .ref mn, .int en, .int (nI sz), .ref mr, .int (nI wa), .ref mq, .int la, .ref md, .int at0, .int lk])), (mw, .inl (cI, 2, .inl lw)), (mu, .inl (cI, 4, .inl su)), (mc, .inl (cI, 4, .inl cu)), (mn, .inl (cI, 4, .inl nu)), (mr, .inl (cB, 6000, .inl wr)), (md, .inl (cB, 400, .inl dr))] := ⟨_, rfl⟩
  have hD : va_D A [(y, .inr (5, [.int th, .int (nI bi), .int (nI ne), .int (nI li), .int (nI sp), .int (nI q), .ref ms, .ref mw, .ref mu, .ref mc, .ref mn, .int en, .int (nI sz), .ref mr, .int (nI wa), .ref mq, .int la, .ref md, .int at0, .int lk])), (mw, .inl (cI, 2, .inl lw)), (mu, .inl (cI, 4, .inl su)), (mc, .inl (cI, 4, .inl cu)), (mn, .inl (cI, 4, .inl nu)), (mr, .inl (cB, 6000, .inl wr)), (md, .inl (cB, 400, .inl dr))] := by rw [hAe]; exact va_D_ad hD0
  have hS : va_S A s.heap s.heap [] := va_S.rf
  have hl := lv_entry ([.ref y, .int 0, .int (nI n)]) (n := 5) (Nat.le_of_ble_eq_true rfl)
  rw [lg_entry_eq]
  generalize (lg_sl ([.ref y, .int 0, .int (nI n)]) ++ List.replicate (5 - (lg_sl ([.ref y, .int 0, .int (nI n)])).length) Slot.unset).toArray = ls at hl ⊢
  have hl : lv_has ls 5 [(0, .ref y), (1, .int 0), (2, .int (nI n))] := hl
  have hMb : M ≤ 2 * n := by rw [hM]; omega
  have hlen : nlen q K M (li - 1 - rw - q - 1) ≤ 400 := by unfold nlen; split <;> omega
  refine lv_aload_n hx hb d_M_interrupt_0 rfl (lv_at hl 0 rfl) ?_
  refine lv_aload_n hx hb d_M_interrupt_1 rfl (lv_at hl 0 rfl) ?_
  refine lv_iload_n hx hb d_M_interrupt_2 rfl (lv_at hl 1 rfl) ?_
  have hPc := hP.sub (ws' := [(y, .inr (5, [.int th, .int (nI bi), .int (nI ne), .int (nI li), .int (nI sp), .int (nI q), .ref ms, .ref mw, .ref mu, .ref mc, .ref mn, .int en, .int (nI sz), .ref mr, .int (nI wa), .ref mq, .int la, .ref md, .int at0, .int lk]))]) [0] rfl
  have hKc := hK.sub (tys' := []) [] rfl
  refine pci (va_runV (As := [.int 0]) (rest := [.ref y]) ⟨hx, hb, hml, hown, hg⟩ (c_M_isKind l D y ms mw mu mc mn mr mq md bi ne li sp q sz wa th en la at0 lk 0) (cwV 1 hg (gV gw_626 gw_628 gs_18 gw_7 gw_629) rfl rfl rfl (by decide +kernel) ⟨Nat.le_of_ble_eq_true rfl, Nat.le_of_ble_eq_true rfl⟩) ⟨fun a U g mk q => by obtain ⟨q0, qP, qK⟩ := q; exact ⟨q0, qP, va_K.moved (u := U) (U := U.calling g mk a) (Vm.Alike.refl U.vm) qK⟩, va_recv hKc hPc (ci := 5) (q0 := 0) rfl rfl, fun U hU hW => ⟨rfl, by rw [hU]; exact hPc, va_K.moved hW.alike hKc⟩⟩ rfl rfl hl.1 rfl (lv_room (Nat.le_of_ble_eq_true rfl)) d_M_interrupt_3 (⟨Nat.le_of_ble_eq_true rfl, Nat.le_of_ble_eq_true rfl⟩)) ?_
  refine tpi (y := 1) (by decide) ?_
  refine lv_if_ne (tgt := 13) hx hb d_M_interrupt_6 (by decide) (fun c_1 => ?_) (fun c_1 => ?_)
  · skip
    refine lv_aload_n hx hb d_M_interrupt_13 rfl (lv_at hl 0 rfl) ?_
    refine lv_iload_n hx hb d_M_interrupt_14 rfl (lv_at hl 1 rfl) ?_
    refine lv_iload_n hx hb d_M_interrupt_15 rfl (lv_at hl 2 rfl) ?_
    have hPc := hP.sub (ws' := [(y, .inr (5, [.int th, .int (nI bi), .int (nI ne), .int (nI li), .int (nI sp), .int (nI q), .ref ms, .ref mw, .ref mu, .ref mc, .ref mn, .int en, .int (nI sz), .ref mr, .int (nI wa), .ref mq, .int la, .ref md, .int at0, .int lk]))]) [0] rfl
    have hKc := hK.sub (tys' := []) [] rfl
    refine pci (va_runV (As := [.int 0, .int (nI n)]) (rest := [.ref y]) ⟨hx, hb, hml, hown, hg⟩ (c_M_isError l D y ms mw mu mc mn mr mq md bi ne li sp q sz wa th en la at0 lk 0 (nI n) (by omega)) (cwV 2 hg (gV gw_630 gw_632 gs_19 gw_7 gw_633) rfl rfl rfl (by decide +kernel) ⟨Nat.le_of_ble_eq_true rfl, Nat.le_of_ble_eq_true rfl⟩) ⟨fun a U g mk q => by obtain ⟨q0, qP, qK⟩ := q; exact ⟨q0, qP, va_K.moved (u := U) (U := U.calling g mk a) (Vm.Alike.refl U.vm) qK⟩, va_recv hKc hPc (ci := 5) (q0 := 0) rfl rfl, fun U hU hW => ⟨rfl, by rw [hU]; exact hPc, va_K.moved hW.alike hKc⟩⟩ rfl rfl hl.1 rfl (lv_room (Nat.le_of_ble_eq_true rfl)) d_M_interrupt_16 (⟨Nat.le_of_ble_eq_true rfl, Nat.le_of_ble_eq_true rfl⟩)) ?_
    refine tpi (y := 1) (if_pos ⟨by rw [nI_toInt (by omega)]; omega, by rw [nI_toInt (by omega)]; omega, Or.inr rfl⟩) ?_
    refine lv_if_ne (tgt := 26) hx hb d_M_interrupt_19 (by decide) (fun c_2 => ?_) (fun c_2 => ?_)
    · skip
      refine lv_iconst (v := 0) hx hb d_M_interrupt_26 (by decide) ?_
      refine va_put (D := D) (ci := 5) (v := .int 0) (ty := .int) (C := R_M) (T := T_M) (N := 20) hx hb hg in_M ty_M tok_M nm_M hown hK hP hD hS 0 rfl rfl 0 (by decide) (hg _ gw_524) (fun _ h9 => h9) rfl (by decide +kernel) (rfl) (rfl) (Nat.le_of_ble_eq_true rfl) d_M_interrupt_27 (fun H locs hP hD hS => ?_)
      have hP : va_P D CLS [(y, .inr (5, [.int 0, .int (nI bi), .int (nI ne), .int (nI li), .int (nI sp), .int (nI q), .ref ms, .ref mw, .ref mu, .ref mc, .ref mn, .int en, .int (nI sz), .ref mr, .int (nI wa), .ref mq, .int la, .ref md, .int at0, .int lk])), (mw, .inl (cI, 2, .inl lw)), (mu, .inl (cI, 4, .inl su)), (mc, .inl (cI, 4, .inl cu)), (mn, .inl (cI, 4, .inl nu)), (mr, .inl (cB, 6000, .inl wr)), (md, .inl (cB, 400, .inl dr))] H := hP
      have hD : va_D A [(y, .inr (5, [.int 0, .int (nI bi), .int (nI ne), .int (nI li), .int (nI sp), .int (nI q), .ref ms, .ref mw, .ref mu, .ref mc, .ref mn, .int en, .int (nI sz), .ref mr, .int (nI wa), .ref mq, .int la, .ref md, .int at0, .int lk])), (mw, .inl (cI, 2, .inl lw)), (mu, .inl (cI, 4, .inl su)), (mc, .inl (cI, 4, .inl cu)), (mn, .inl (cI, 4, .inl nu)), (mr, .inl (cB, 6000, .inl wr)), (md, .inl (cB, 400, .inl dr))] := hD
      refine lv_aload_n hx hb d_M_interrupt_30 rfl (lv_at hl 0 rfl) ?_
      refine va_get (D := D) (ci := 5) (v := .int 0) (C := R_M) (T := T_M) (N := 20) hx hb hg in_M hown hK hP 0 rfl rfl 0 (by decide) (hg _ gw_524) (fun _ h9 => h9) rfl d_M_interrupt_31 ?_
      refine lv_if_le (tgt := 39) hx hb d_M_interrupt_34 (by decide) (fun c_3 => ?_) (fun c_3 => ?_)
      · skip
        refine lv_aload_n hx hb d_M_interrupt_39 rfl (lv_at hl 0 rfl) ?_
        refine lv_iload_n hx hb d_M_interrupt_40 rfl (lv_at hl 1 rfl) ?_
        have hPc := hP.sub (ws' := [(y, .inr (5, [.int 0, .int (nI bi), .int (nI ne), .int (nI li), .int (nI sp), .int (nI q), .ref ms, .ref mw, .ref mu, .ref mc, .ref mn, .int en, .int (nI sz), .ref mr, .int (nI wa), .ref mq, .int la, .ref md, .int at0, .int lk])), (mu, .inl (cI, 4, .inl su)), (mc, .inl (cI, 4, .inl cu)), (mn, .inl (cI, 4, .inl nu))]) [0, 2, 3, 4] rfl
        have hKc := hK.sub (tys' := [(cI, .int)]) [1] rfl
        refine pci (va_runV (As := [.int 0]) (rest := []) ⟨hx, hb, hml, hown, hg⟩ (c_M_isUp0 l D y ms mw mu mc mn mr mq md bi ne li sp q sz wa 0 en la at0 lk cI su cu nu sm ct ng K hsu hcu hnu hc0 hn0 (by omega) hKb hK1 hK2) (cwV 1 hg (gV gw_634 gw_636 gs_20 gw_7 gw_637) rfl rfl rfl (by decide +kernel) ⟨Nat.le_of_ble_eq_true rfl, Nat.le_of_ble_eq_true rfl⟩) ⟨fun a U g mk q => by obtain ⟨q0, qP, qK⟩ := q; exact ⟨q0, qP, va_K.moved (u := U) (U := U.calling g mk a) (Vm.Alike.refl U.vm) qK⟩, va_recv hKc hPc (ci := 5) (q0 := 0) rfl rfl, fun U hU hW => ⟨rfl, by rw [hU]; exact hPc, va_K.moved hW.alike hKc⟩⟩ rfl rfl hl.1 rfl (lv_room (Nat.le_of_ble_eq_true rfl)) d_M_interrupt_41 (⟨Nat.le_of_ble_eq_true rfl, Nat.le_of_ble_eq_true rfl⟩)) ?_
        by_cases hup : (K = 0 ∧ 2 * ng < ct)
        · skip
          refine tpi (y := 1) (if_pos hup) ?_
          refine lv_if_eq (tgt := 59) hx hb d_M_interrupt_44 (by decide) (fun c_4 => ?_) (fun c_4 => ?_)
          · skip
            exact absurd c_4 (by decide)
          · skip
            refine lv_iload_n hx hb d_M_interrupt_47 rfl (lv_at hl 2 rfl) ?_
            refine lv_if_le (tgt := 55) hx hb d_M_interrupt_48 (by decide) (fun c_5 => ?_) (fun c_5 => ?_)
            · skip
              have hn00 : n = 0 := Nat.eq_zero_of_not_pos (fun q9 => nI_nle q9 (by omega) c_5)
              have hfl : (if ¬ n = 0 ∧ (K = 0 ∧ 2 * ng < ct) then 1 else 0 : Nat) = 0 := if_neg (fun q9 => q9.1 hn00)
              refine lv_iconst (v := 0) hx hb d_M_interrupt_55 (by decide) ?_
              refine lv_goto (tgt := 68) hx hb d_M_interrupt_56 (by decide) ?_
              refine lv_istore_n (lv' := [(3, .int 0), (0, .ref y), (1, .int 0), (2, .int (nI n))]) hx hb d_M_interrupt_68 rfl hl (by decide) rfl (fun ls hl => ?_)
              refine lv_iconst (v := 2) hx hb d_M_interrupt_69 (by decide) ?_
              refine lv_iload_n hx hb d_M_interrupt_70 rfl (lv_at hl 3 rfl) ?_
              refine lv_if_ge (tgt := 79) hx hb d_M_interrupt_71 (by decide) (fun c_6 => ?_) (fun c_6 => ?_)
              · skip
                refine lv_iload_n hx hb d_M_interrupt_79 rfl (lv_at hl 3 rfl) ?_
                refine lv_imul hx hb d_M_interrupt_80 ?_
                refine tpi (y := nI (2 * n)) (mul2 n) ?_
                refine lv_iload_n hx hb d_M_interrupt_81 rfl (lv_at hl 2 rfl) ?_
                refine lv_isub hx hb d_M_interrupt_82 ?_
                refine tpi (y := nI (2 * n - 0)) (pk_sub (b := 0) (by omega)) ?_
                refine lv_iload_n hx hb d_M_interrupt_83 rfl (lv_at hl 0 rfl) ?_
                refine lv_if_eq (tgt := 91) hx hb d_M_interrupt_84 (by decide) (fun c_7 => ?_) (fun c_7 => ?_)
                · skip
                  refine lv_iconst (v := 0) hx hb d_M_interrupt_91 (by decide) ?_
                  refine lv_isub hx hb d_M_interrupt_92 ?_
                  refine tpi (y := nI M) ((pk_sub (b := 0) (by omega)).trans (congrArg nI (by rw [hM, hfl]))) ?_
                  refine lv_istore (lv' := [(4, .int (nI M)), (3, .int 0), (0, .ref y), (1, .int 0), (2, .int (nI n))]) hx hb d_M_interrupt_93 hl (by decide) rfl (fun ls hl => ?_)
                  refine lv_aload_n hx hb d_M_interrupt_95 rfl (lv_at hl 2 rfl) ?_
                  refine lv_iconst (v := 0) hx hb d_M_interrupt_96 (by decide) ?_
                  refine tpi (y := nI 0) (rfl) ?_
                  refine va_put (D := D) (ci := 5) (v := .int (nI 0)) (ty := .int) (C := R_M) (T := T_M) (N := 20) hx hb hg in_M ty_M tok_M nm_M hown hK hP hD hS 0 rfl rfl 16 (by decide) (hg _ gw_540) (fun _ h9 => h9) rfl (by decide +kernel) (rfl) (rfl) (Nat.le_of_ble_eq_true rfl) d_M_interrupt_97 (fun H locs hP hD hS => ?_)
                  have hP : va_P D CLS [(y, .inr (5, [.int 0, .int (nI bi), .int (nI ne), .int (nI li), .int (nI sp), .int (nI q), .ref ms, .ref mw, .ref mu, .ref mc, .ref mn, .int en, .int (nI sz), .ref mr, .int (nI wa), .ref mq, .int (nI 0), .ref md, .int at0, .int lk])), (mw, .inl (cI, 2, .inl lw)), (mu, .inl (cI, 4, .inl su)), (mc, .inl (cI, 4, .inl cu)), (mn, .inl (cI, 4, .inl nu)), (mr, .inl (cB, 6000, .inl wr)), (md, .inl (cB, 400, .inl dr))] H := hP
                  have hD : va_D A [(y, .inr (5, [.int 0, .int (nI bi), .int (nI ne), .int (nI li), .int (nI sp), .int (nI q), .ref ms, .ref mw, .ref mu, .ref mc, .ref mn, .int en, .int (nI sz), .ref mr, .int (nI wa), .ref mq, .int (nI 0), .ref md, .int at0, .int lk])), (mw, .inl (cI, 2, .inl lw)), (mu, .inl (cI, 4, .inl su)), (mc, .inl (cI, 4, .inl cu)), (mn, .inl (cI, 4, .inl nu)), (mr, .inl (cB, 6000, .inl wr)), (md, .inl (cB, 400, .inl dr))] := hD
                  refine lv_aload_n hx hb d_M_interrupt_100 rfl (lv_at hl 2 rfl) ?_
                  refine lv_iload hx hb d_M_interrupt_101 (lv_at hl 0 rfl) ?_
                  refine lv_aload_n hx hb d_M_interrupt_103 rfl (lv_at hl 2 rfl) ?_
                  refine lv_iload_n hx hb d_M_interrupt_104 rfl (lv_at hl 3 rfl) ?_
                  have hPc := hP.sub (ws' := [(y, .inr (5, [.int 0, .int (nI bi), .int (nI ne), .int (nI li), .int (nI sp), .int (nI q), .ref ms, .ref mw, .ref mu, .ref mc, .ref mn, .int en, .int (nI sz), .ref mr, .int (nI wa), .ref mq, .int (nI 0), .ref md, .int at0, .int lk])), (mu, .inl (cI, 4, .inl su)), (mc, .inl (cI, 4, .inl cu)), (mn, .inl (cI, 4, .inl nu))]) [0, 2, 3, 4] rfl
                  have hKc := hK.sub (tys' := [(cI, .int)]) [1] rfl
                  refine pci (va_runV (As := [.int 0]) (rest := [.int (nI M), .ref y]) ⟨hx, hb, hml, hown, hg⟩ (c_M_kOf0 l D y ms mw mu mc mn mr mq md bi ne li sp q sz wa 0 en (nI 0) at0 lk cI su cu nu sm ct ng K hsu hcu hnu hc0 hn0 (by omega) hKb hK1 hK2) (cwV 1 hg (gV gw_638 gw_640 gs_21 gw_7 gw_641) rfl rfl rfl (by decide +kernel) ⟨Nat.le_of_ble_eq_true rfl, Nat.le_of_ble_eq_true rfl⟩) ⟨fun a U g mk q => by obtain ⟨q0, qP, qK⟩ := q; exact ⟨q0, qP, va_K.moved (u := U) (U := U.calling g mk a) (Vm.Alike.refl U.vm) qK⟩, va_recv hKc hPc (ci := 5) (q0 := 0) rfl rfl, fun U hU hW => ⟨rfl, by rw [hU]; exact hPc, va_K.moved hW.alike hKc⟩⟩ rfl rfl hl.1 rfl (lv_room (Nat.le_of_ble_eq_true rfl)) d_M_interrupt_105 (⟨Nat.le_of_ble_eq_true rfl, Nat.le_of_ble_eq_true rfl⟩)) ?_
                  refine lv_aload_n hx hb d_M_interrupt_108 rfl (lv_at hl 2 rfl) ?_
                  refine lv_iconst (v := 0) hx hb d_M_interrupt_109 (by decide) ?_
                  have hPc := hP.sub (ws' := [(y, .inr (5, [.int 0, .int (nI bi), .int (nI ne), .int (nI li), .int (nI sp), .int (nI q), .ref ms, .ref mw, .ref mu, .ref mc, .ref mn, .int en, .int (nI sz), .ref mr, .int (nI wa), .ref mq, .int (nI 0), .ref md, .int at0, .int lk])), (mw, .inl (cI, 2, .inl lw))]) [0, 1] rfl
                  have hKc := hK.sub (tys' := [(cI, .int)]) [1] rfl
                  refine pci (va_runV (As := [.int 0]) (rest := [.int (nI K), .int (nI M), .ref y]) ⟨hx, hb, hml, hown, hg⟩ (c_M_limitFor0 l D y ms mw mu mc mn mr mq md bi ne li sp q sz wa 0 en (nI 0) at0 lk cI lw rw hlw (by omega)) (cwV 1 hg (gV gw_642 gw_644 gs_22 gw_7 gw_645) rfl rfl rfl (by decide +kernel) ⟨Nat.le_of_ble_eq_true rfl, Nat.le_of_ble_eq_true rfl⟩) ⟨fun a U g mk q => by obtain ⟨q0, qP, qK⟩ := q; exact ⟨q0, qP, va_K.moved (u := U) (U := U.calling g mk a) (Vm.Alike.refl U.vm) qK⟩, va_recv hKc hPc (ci := 5) (q0 := 0) rfl rfl, fun U hU hW => ⟨rfl, by rw [hU]; exact hPc, va_K.moved hW.alike hKc⟩⟩ rfl rfl hl.1 rfl (lv_room (Nat.le_of_ble_eq_true rfl)) d_M_interrupt_110 (⟨Nat.le_of_ble_eq_true rfl, Nat.le_of_ble_eq_true rfl⟩)) ?_
                  have hPc := hP.sub (ws' := [(y, .inr (5, [.int 0, .int (nI bi), .int (nI ne), .int (nI li), .int (nI sp), .int (nI q), .ref ms, .ref mw, .ref mu, .ref mc, .ref mn, .int en, .int (nI sz), .ref mr, .int (nI wa), .ref mq, .int (nI 0), .ref md, .int at0, .int lk])), (md, .inl (cB, 400, .inl dr))]) [0, 6] rfl
                  have hDc := hD.sub (ws' := [(y, .inr (5, [.int 0, .int (nI bi), .int (nI ne), .int (nI li), .int (nI sp), .int (nI q), .ref ms, .ref mw, .ref mu, .ref mc, .ref mn, .int en, .int (nI sz), .ref mr, .int (nI wa), .ref mq, .int (nI 0), .ref md, .int at0, .int lk])), (md, .inl (cB, 400, .inl dr))]) [0, 6] (by decide) rfl
                  have hKc := hK.sub (tys' := [(cB, .byte)]) [0] rfl
                  refine mcv (va_runV (As := [.int (nI M), .int (nI K), .int (nI (li - 1 - rw))]) (rest := []) ⟨hx, hb, hml, hown, hg⟩ (c_M_layNumber l D y ms mw mu mc mn mr mq md bi ne li sp q sz wa 0 en (nI 0) at0 lk cB dr 0 M K (li - 1 - rw) (by omega) (by omega) (by omega) (by omega) (by omega) (by omega)) (cwV 3 hg (gV gw_594 gw_596 gs_13 gw_7 gw_597) rfl rfl rfl (by decide +kernel) ⟨Nat.le_of_ble_eq_true rfl, Nat.le_of_ble_eq_true rfl⟩) ⟨fun a U g mk q => by obtain ⟨q0, qP, qK, qD⟩ := q; exact ⟨q0, qP, va_K.moved (u := U) (U := U.calling g mk a) (Vm.Alike.refl U.vm) qK, qD⟩, va_recv hKc hPc (ci := 5) (q0 := 0) rfl rfl, fun U hU hW => ⟨rfl, by rw [hU]; exact hPc, va_K.moved hW.alike hKc, hDc.weaken (fun _ _ _ _ => trivial)⟩⟩ rfl rfl hl.1 rfl (lv_room (Nat.le_of_ble_eq_true rfl)) d_M_interrupt_113 (⟨Nat.le_of_ble_eq_true rfl, Nat.le_of_ble_eq_true rfl⟩)) hS hP hD [0, 6] rfl rfl rfl (fun H locs hP hD hS => ?_)
                  have hP : va_P D CLS [(y, .inr (5, [.int 0, .int (nI bi), .int (nI ne), .int (nI li), .int (nI sp), .int (nI q), .ref ms, .ref mw, .ref mu, .ref mc, .ref mn, .int en, .int (nI sz), .ref mr, .int (nI wa), .ref mq, .int (nI (0 + nlen q K M (li - 1 - rw - q - 1))), .ref md, .int at0, .int lk])), (mw, .inl (cI, 2, .inl lw)), (mu, .inl (cI, 4, .inl su)), (mc, .inl (cI, 4, .inl cu)), (mn, .inl (cI, 4, .inl nu)), (mr, .inl (cB, 6000, .inl wr)), (md, .inl (cB, 400, .inl (wnum dr q K M (li - 1 - rw - q - 1) 0)))] H := hP
                  have hD : va_D A [(y, .inr (5, [.int 0, .int (nI bi), .int (nI ne), .int (nI li), .int (nI sp), .int (nI q), .ref ms, .ref mw, .ref mu, .ref mc, .ref mn, .int en, .int (nI sz), .ref mr, .int (nI wa), .ref mq, .int (nI (0 + nlen q K M (li - 1 - rw - q - 1))), .ref md, .int at0, .int lk])), (mw, .inl (cI, 2, .inl lw)), (mu, .inl (cI, 4, .inl su)), (mc, .inl (cI, 4, .inl cu)), (mn, .inl (cI, 4, .inl nu)), (mr, .inl (cB, 6000, .inl wr)), (md, .inl (cB, 400, .inl (wnum dr q K M (li - 1 - rw - q - 1) 0)))] := hD
                  refine lv_aload_n hx hb d_M_interrupt_116 rfl (lv_at hl 2 rfl) ?_
                  refine lv_aload_n hx hb d_M_interrupt_117 rfl (lv_at hl 2 rfl) ?_
                  have hPc := hP.sub (ws' := [(y, .inr (5, [.int 0, .int (nI bi), .int (nI ne), .int (nI li), .int (nI sp), .int (nI q), .ref ms, .ref mw, .ref mu, .ref mc, .ref mn, .int en, .int (nI sz), .ref mr, .int (nI wa), .ref mq, .int (nI (0 + nlen q K M (li - 1 - rw - q - 1))), .ref md, .int at0, .int lk]))]) [0] rfl
                  have hKc := hK.sub (tys' := []) [] rfl
                  refine pci (va_runV (As := []) (rest := [.ref y]) ⟨hx, hb, hml, hown, hg⟩ (c_M_hasRoom l D y ms mw mu mc mn mr mq md bi ne li sp q sz wa 0 en (nI (0 + nlen q K M (li - 1 - rw - q - 1))) at0 lk (0 + nlen q K M (li - 1 - rw - q - 1)) hsz (by omega)) (cwV 0 hg (gV gw_606 gw_608 gs_16 gw_7 gw_609) rfl rfl rfl (by decide +kernel) ⟨Nat.le_of_ble_eq_true rfl, Nat.le_of_ble_eq_true rfl⟩) ⟨fun a U g mk q => by obtain ⟨q0, qP, qK⟩ := q; exact ⟨q0, qP, va_K.moved (u := U) (U := U.calling g mk a) (Vm.Alike.refl U.vm) qK⟩, va_recv hKc hPc (ci := 5) (q0 := 0) rfl rfl, fun U hU hW => ⟨rfl, by rw [hU]; exact hPc, va_K.moved hW.alike hKc⟩⟩ rfl rfl hl.1 rfl (lv_room (Nat.le_of_ble_eq_true rfl)) d_M_interrupt_118 (⟨Nat.le_of_ble_eq_true rfl, Nat.le_of_ble_eq_true rfl⟩)) ?_
                  refine tpi (y := 0) (if_neg (by omega)) ?_
                  refine lv_if_eq (tgt := 128) hx hb d_M_interrupt_121 (by decide) (fun c_8 => ?_) (fun c_8 => ?_)
                  · skip
                    refine lv_iconst (v := 3) hx hb d_M_interrupt_128 (by decide) ?_
                    refine va_put (D := D) (ci := 5) (v := .int 3) (ty := .int) (C := R_M) (T := T_M) (N := 20) hx hb hg in_M ty_M tok_M nm_M hown hK hP hD hS 0 rfl rfl 0 (by decide) (hg _ gw_524) (fun _ h9 => h9) rfl (by decide +kernel) (rfl) (rfl) (Nat.le_of_ble_eq_true rfl) d_M_interrupt_129 (fun H locs hP hD hS => ?_)
                    have hP : va_P D CLS [(y, .inr (5, [.int 3, .int (nI bi), .int (nI ne), .int (nI li), .int (nI sp), .int (nI q), .ref ms, .ref mw, .ref mu, .ref mc, .ref mn, .int en, .int (nI sz), .ref mr, .int (nI wa), .ref mq, .int (nI (0 + nlen q K M (li - 1 - rw - q - 1))), .ref md, .int at0, .int lk])), (mw, .inl (cI, 2, .inl lw)), (mu, .inl (cI, 4, .inl su)), (mc, .inl (cI, 4, .inl cu)), (mn, .inl (cI, 4, .inl nu)), (mr, .inl (cB, 6000, .inl wr)), (md, .inl (cB, 400, .inl (wnum dr q K M (li - 1 - rw - q - 1) 0)))] H := hP
                    have hD : va_D A [(y, .inr (5, [.int 3, .int (nI bi), .int (nI ne), .int (nI li), .int (nI sp), .int (nI q), .ref ms, .ref mw, .ref mu, .ref mc, .ref mn, .int en, .int (nI sz), .ref mr, .int (nI wa), .ref mq, .int (nI (0 + nlen q K M (li - 1 - rw - q - 1))), .ref md, .int at0, .int lk])), (mw, .inl (cI, 2, .inl lw)), (mu, .inl (cI, 4, .inl su)), (mc, .inl (cI, 4, .inl cu)), (mn, .inl (cI, 4, .inl nu)), (mr, .inl (cB, 6000, .inl wr)), (md, .inl (cB, 400, .inl (wnum dr q K M (li - 1 - rw - q - 1) 0)))] := hD
                    refine lv_aload_n hx hb d_M_interrupt_132 rfl (lv_at hl 2 rfl) ?_
                    refine va_get (D := D) (ci := 5) (v := .int 3) (C := R_M) (T := T_M) (N := 20) hx hb hg in_M hown hK hP 0 rfl rfl 0 (by decide) (hg _ gw_524) (fun _ h9 => h9) rfl d_M_interrupt_133 ?_
                    refine lv_if_le (tgt := 141) hx hb d_M_interrupt_136 (by decide) (fun c_9 => ?_) (fun c_9 => ?_)
                    · skip
                      exact absurd c_9 (by decide)
                    · skip
                      refine lv_iconst (v := 0) hx hb d_M_interrupt_139 (by decide) ?_
                      exact W.iret (v := 0) hx hb hr (fun t ht hW => ⟨rfl, by rw [ht]; exact hP, (hAe ▸ hS).F ht⟩) (hAe ▸ hS).2.2 d_M_interrupt_140
                  · skip
                    exact absurd rfl c_8
                · skip
                  exact absurd rfl c_7
              · skip
                exact absurd (Int32.not_lt.mp (nI_pos (by omega))) c_6
            · skip
              have hn00 : ¬ n = 0 := fun q9 => c_5 (by rw [q9]; decide)
              have hfl : (if ¬ n = 0 ∧ (K = 0 ∧ 2 * ng < ct) then 1 else 0 : Nat) = 1 := if_pos ⟨hn00, hup⟩
              refine lv_iconst (v := 1) hx hb d_M_interrupt_51 (by decide) ?_
              refine lv_goto (tgt := 68) hx hb d_M_interrupt_52 (by decide) ?_
              refine lv_istore_n (lv' := [(3, .int 1), (0, .ref y), (1, .int 0), (2, .int (nI n))]) hx hb d_M_interrupt_68 rfl hl (by decide) rfl (fun ls hl => ?_)
              refine lv_iconst (v := 2) hx hb d_M_interrupt_69 (by decide) ?_
              refine lv_iload_n hx hb d_M_interrupt_70 rfl (lv_at hl 3 rfl) ?_
              refine lv_if_ge (tgt := 79) hx hb d_M_interrupt_71 (by decide) (fun c_10 => ?_) (fun c_10 => ?_)
              · skip
                refine lv_iload_n hx hb d_M_interrupt_79 rfl (lv_at hl 3 rfl) ?_
                refine lv_imul hx hb d_M_interrupt_80 ?_
                refine tpi (y := nI (2 * n)) (mul2 n) ?_
                refine lv_iload_n hx hb d_M_interrupt_81 rfl (lv_at hl 2 rfl) ?_
                refine lv_isub hx hb d_M_interrupt_82 ?_
                refine tpi (y := nI (2 * n - 0)) (pk_sub (b := 0) (by omega)) ?_
                refine lv_iload_n hx hb d_M_interrupt_83 rfl (lv_at hl 0 rfl) ?_
                refine lv_if_eq (tgt := 91) hx hb d_M_interrupt_84 (by decide) (fun c_11 => ?_) (fun c_11 => ?_)
                · skip
                  exact absurd c_11 (by decide)
                · skip
                  refine lv_iconst (v := 1) hx hb d_M_interrupt_87 (by decide) ?_
                  refine lv_goto (tgt := 92) hx hb d_M_interrupt_88 (by decide) ?_
                  refine lv_isub hx hb d_M_interrupt_92 ?_
                  refine tpi (y := nI M) ((pk_sub (b := 1) (by omega)).trans (congrArg nI (by rw [hM, hfl]))) ?_
                  refine lv_istore (lv' := [(4, .int (nI M)), (3, .int 1), (0, .ref y), (1, .int 0), (2, .int (nI n))]) hx hb d_M_interrupt_93 hl (by decide) rfl (fun ls hl => ?_)
                  refine lv_aload_n hx hb d_M_interrupt_95 rfl (lv_at hl 2 rfl) ?_
                  refine lv_iconst (v := 0) hx hb d_M_interrupt_96 (by decide) ?_
                  refine tpi (y := nI 0) (rfl) ?_
                  refine va_put (D := D) (ci := 5) (v := .int (nI 0)) (ty := .int) (C := R_M) (T := T_M) (N := 20) hx hb hg in_M ty_M tok_M nm_M hown hK hP hD hS 0 rfl rfl 16 (by decide) (hg _ gw_540) (fun _ h9 => h9) rfl (by decide +kernel) (rfl) (rfl) (Nat.le_of_ble_eq_true rfl) d_M_interrupt_97 (fun H locs hP hD hS => ?_)
                  have hP : va_P D CLS [(y, .inr (5, [.int 0, .int (nI bi), .int (nI ne), .int (nI li), .int (nI sp), .int (nI q), .ref ms, .ref mw, .ref mu, .ref mc, .ref mn, .int en, .int (nI sz), .ref mr, .int (nI wa), .ref mq, .int (nI 0), .ref md, .int at0, .int lk])), (mw, .inl (cI, 2, .inl lw)), (mu, .inl (cI, 4, .inl su)), (mc, .inl (cI, 4, .inl cu)), (mn, .inl (cI, 4, .inl nu)), (mr, .inl (cB, 6000, .inl wr)), (md, .inl (cB, 400, .inl dr))] H := hP
                  have hD : va_D A [(y, .inr (5, [.int 0, .int (nI bi), .int (nI ne), .int (nI li), .int (nI sp), .int (nI q), .ref ms, .ref mw, .ref mu, .ref mc, .ref mn, .int en, .int (nI sz), .ref mr, .int (nI wa), .ref mq, .int (nI 0), .ref md, .int at0, .int lk])), (mw, .inl (cI, 2, .inl lw)), (mu, .inl (cI, 4, .inl su)), (mc, .inl (cI, 4, .inl cu)), (mn, .inl (cI, 4, .inl nu)), (mr, .inl (cB, 6000, .inl wr)), (md, .inl (cB, 400, .inl dr))] := hD
                  refine lv_aload_n hx hb d_M_interrupt_100 rfl (lv_at hl 2 rfl) ?_
                  refine lv_iload hx hb d_M_interrupt_101 (lv_at hl 0 rfl) ?_
                  refine lv_aload_n hx hb d_M_interrupt_103 rfl (lv_at hl 2 rfl) ?_
                  refine lv_iload_n hx hb d_M_interrupt_104 rfl (lv_at hl 3 rfl) ?_
                  have hPc := hP.sub (ws' := [(y, .inr (5, [.int 0, .int (nI bi), .int (nI ne), .int (nI li), .int (nI sp), .int (nI q), .ref ms, .ref mw, .ref mu, .ref mc, .ref mn, .int en, .int (nI sz), .ref mr, .int (nI wa), .ref mq, .int (nI 0), .ref md, .int at0, .int lk])), (mu, .inl (cI, 4, .inl su)), (mc, .inl (cI, 4, .inl cu)), (mn, .inl (cI, 4, .inl nu))]) [0, 2, 3, 4] rfl
                  have hKc := hK.sub (tys' := [(cI, .int)]) [1] rfl
                  refine pci (va_runV (As := [.int 0]) (rest := [.int (nI M), .ref y]) ⟨hx, hb, hml, hown, hg⟩ (c_M_kOf0 l D y ms mw mu mc mn mr mq md bi ne li sp q sz wa 0 en (nI 0) at0 lk cI su cu nu sm ct ng K hsu hcu hnu hc0 hn0 (by omega) hKb hK1 hK2) (cwV 1 hg (gV gw_638 gw_640 gs_21 gw_7 gw_641) rfl rfl rfl (by decide +kernel) ⟨Nat.le_of_ble_eq_true rfl, Nat.le_of_ble_eq_true rfl⟩) ⟨fun a U g mk q => by obtain ⟨q0, qP, qK⟩ := q; exact ⟨q0, qP, va_K.moved (u := U) (U := U.calling g mk a) (Vm.Alike.refl U.vm) qK⟩, va_recv hKc hPc (ci := 5) (q0 := 0) rfl rfl, fun U hU hW => ⟨rfl, by rw [hU]; exact hPc, va_K.moved hW.alike hKc⟩⟩ rfl rfl hl.1 rfl (lv_room (Nat.le_of_ble_eq_true rfl)) d_M_interrupt_105 (⟨Nat.le_of_ble_eq_true rfl, Nat.le_of_ble_eq_true rfl⟩)) ?_
                  refine lv_aload_n hx hb d_M_interrupt_108 rfl (lv_at hl 2 rfl) ?_
                  refine lv_iconst (v := 0) hx hb d_M_interrupt_109 (by decide) ?_
                  have hPc := hP.sub (ws' := [(y, .inr (5, [.int 0, .int (nI bi), .int (nI ne), .int (nI li), .int (nI sp), .int (nI q), .ref ms, .ref mw, .ref mu, .ref mc, .ref mn, .int en, .int (nI sz), .ref mr, .int (nI wa), .ref mq, .int (nI 0), .ref md, .int at0, .int lk])), (mw, .inl (cI, 2, .inl lw))]) [0, 1] rfl
                  have hKc := hK.sub (tys' := [(cI, .int)]) [1] rfl
                  refine pci (va_runV (As := [.int 0]) (rest := [.int (nI K), .int (nI M), .ref y]) ⟨hx, hb, hml, hown, hg⟩ (c_M_limitFor0 l D y ms mw mu mc mn mr mq md bi ne li sp q sz wa 0 en (nI 0) at0 lk cI lw rw hlw (by omega)) (cwV 1 hg (gV gw_642 gw_644 gs_22 gw_7 gw_645) rfl rfl rfl (by decide +kernel) ⟨Nat.le_of_ble_eq_true rfl, Nat.le_of_ble_eq_true rfl⟩) ⟨fun a U g mk q => by obtain ⟨q0, qP, qK⟩ := q; exact ⟨q0, qP, va_K.moved (u := U) (U := U.calling g mk a) (Vm.Alike.refl U.vm) qK⟩, va_recv hKc hPc (ci := 5) (q0 := 0) rfl rfl, fun U hU hW => ⟨rfl, by rw [hU]; exact hPc, va_K.moved hW.alike hKc⟩⟩ rfl rfl hl.1 rfl (lv_room (Nat.le_of_ble_eq_true rfl)) d_M_interrupt_110 (⟨Nat.le_of_ble_eq_true rfl, Nat.le_of_ble_eq_true rfl⟩)) ?_
                  have hPc := hP.sub (ws' := [(y, .inr (5, [.int 0, .int (nI bi), .int (nI ne), .int (nI li), .int (nI sp), .int (nI q), .ref ms, .ref mw, .ref mu, .ref mc, .ref mn, .int en, .int (nI sz), .ref mr, .int (nI wa), .ref mq, .int (nI 0), .ref md, .int at0, .int lk])), (md, .inl (cB, 400, .inl dr))]) [0, 6] rfl
                  have hDc := hD.sub (ws' := [(y, .inr (5, [.int 0, .int (nI bi), .int (nI ne), .int (nI li), .int (nI sp), .int (nI q), .ref ms, .ref mw, .ref mu, .ref mc, .ref mn, .int en, .int (nI sz), .ref mr, .int (nI wa), .ref mq, .int (nI 0), .ref md, .int at0, .int lk])), (md, .inl (cB, 400, .inl dr))]) [0, 6] (by decide) rfl
                  have hKc := hK.sub (tys' := [(cB, .byte)]) [0] rfl
                  refine mcv (va_runV (As := [.int (nI M), .int (nI K), .int (nI (li - 1 - rw))]) (rest := []) ⟨hx, hb, hml, hown, hg⟩ (c_M_layNumber l D y ms mw mu mc mn mr mq md bi ne li sp q sz wa 0 en (nI 0) at0 lk cB dr 0 M K (li - 1 - rw) (by omega) (by omega) (by omega) (by omega) (by omega) (by omega)) (cwV 3 hg (gV gw_594 gw_596 gs_13 gw_7 gw_597) rfl rfl rfl (by decide +kernel) ⟨Nat.le_of_ble_eq_true rfl, Nat.le_of_ble_eq_true rfl⟩) ⟨fun a U g mk q => by obtain ⟨q0, qP, qK, qD⟩ := q; exact ⟨q0, qP, va_K.moved (u := U) (U := U.calling g mk a) (Vm.Alike.refl U.vm) qK, qD⟩, va_recv hKc hPc (ci := 5) (q0 := 0) rfl rfl, fun U hU hW => ⟨rfl, by rw [hU]; exact hPc, va_K.moved hW.alike hKc, hDc.weaken (fun _ _ _ _ => trivial)⟩⟩ rfl rfl hl.1 rfl (lv_room (Nat.le_of_ble_eq_true rfl)) d_M_interrupt_113 (⟨Nat.le_of_ble_eq_true rfl, Nat.le_of_ble_eq_true rfl⟩)) hS hP hD [0, 6] rfl rfl rfl (fun H locs hP hD hS => ?_)
                  have hP : va_P D CLS [(y, .inr (5, [.int 0, .int (nI bi), .int (nI ne), .int (nI li), .int (nI sp), .int (nI q), .ref ms, .ref mw, .ref mu, .ref mc, .ref mn, .int en, .int (nI sz), .ref mr, .int (nI wa), .ref mq, .int (nI (0 + nlen q K M (li - 1 - rw - q - 1))), .ref md, .int at0, .int lk])), (mw, .inl (cI, 2, .inl lw)), (mu, .inl (cI, 4, .inl su)), (mc, .inl (cI, 4, .inl cu)), (mn, .inl (cI, 4, .inl nu)), (mr, .inl (cB, 6000, .inl wr)), (md, .inl (cB, 400, .inl (wnum dr q K M (li - 1 - rw - q - 1) 0)))] H := hP
                  have hD : va_D A [(y, .inr (5, [.int 0, .int (nI bi), .int (nI ne), .int (nI li), .int (nI sp), .int (nI q), .ref ms, .ref mw, .ref mu, .ref mc, .ref mn, .int en, .int (nI sz), .ref mr, .int (nI wa), .ref mq, .int (nI (0 + nlen q K M (li - 1 - rw - q - 1))), .ref md, .int at0, .int lk])), (mw, .inl (cI, 2, .inl lw)), (mu, .inl (cI, 4, .inl su)), (mc, .inl (cI, 4, .inl cu)), (mn, .inl (cI, 4, .inl nu)), (mr, .inl (cB, 6000, .inl wr)), (md, .inl (cB, 400, .inl (wnum dr q K M (li - 1 - rw - q - 1) 0)))] := hD
                  refine lv_aload_n hx hb d_M_interrupt_116 rfl (lv_at hl 2 rfl) ?_
                  refine lv_aload_n hx hb d_M_interrupt_117 rfl (lv_at hl 2 rfl) ?_
                  have hPc := hP.sub (ws' := [(y, .inr (5, [.int 0, .int (nI bi), .int (nI ne), .int (nI li), .int (nI sp), .int (nI q), .ref ms, .ref mw, .ref mu, .ref mc, .ref mn, .int en, .int (nI sz), .ref mr, .int (nI wa), .ref mq, .int (nI (0 + nlen q K M (li - 1 - rw - q - 1))), .ref md, .int at0, .int lk]))]) [0] rfl
                  have hKc := hK.sub (tys' := []) [] rfl
                  refine pci (va_runV (As := []) (rest := [.ref y]) ⟨hx, hb, hml, hown, hg⟩ (c_M_hasRoom l D y ms mw mu mc mn mr mq md bi ne li sp q sz wa 0 en (nI (0 + nlen q K M (li - 1 - rw - q - 1))) at0 lk (0 + nlen q K M (li - 1 - rw - q - 1)) hsz (by omega)) (cwV 0 hg (gV gw_606 gw_608 gs_16 gw_7 gw_609) rfl rfl rfl (by decide +kernel) ⟨Nat.le_of_ble_eq_true rfl, Nat.le_of_ble_eq_true rfl⟩) ⟨fun a U g mk q => by obtain ⟨q0, qP, qK⟩ := q; exact ⟨q0, qP, va_K.moved (u := U) (U := U.calling g mk a) (Vm.Alike.refl U.vm) qK⟩, va_recv hKc hPc (ci := 5) (q0 := 0) rfl rfl, fun U hU hW => ⟨rfl, by rw [hU]; exact hPc, va_K.moved hW.alike hKc⟩⟩ rfl rfl hl.1 rfl (lv_room (Nat.le_of_ble_eq_true rfl)) d_M_interrupt_118 (⟨Nat.le_of_ble_eq_true rfl, Nat.le_of_ble_eq_true rfl⟩)) ?_
                  refine tpi (y := 0) (if_neg (by omega)) ?_
                  refine lv_if_eq (tgt := 128) hx hb d_M_interrupt_121 (by decide) (fun c_12 => ?_) (fun c_12 => ?_)
                  · skip
                    refine lv_iconst (v := 3) hx hb d_M_interrupt_128 (by decide) ?_
                    refine va_put (D := D) (ci := 5) (v := .int 3) (ty := .int) (C := R_M) (T := T_M) (N := 20) hx hb hg in_M ty_M tok_M nm_M hown hK hP hD hS 0 rfl rfl 0 (by decide) (hg _ gw_524) (fun _ h9 => h9) rfl (by decide +kernel) (rfl) (rfl) (Nat.le_of_ble_eq_true rfl) d_M_interrupt_129 (fun H locs hP hD hS => ?_)
                    have hP : va_P D CLS [(y, .inr (5, [.int 3, .int (nI bi), .int (nI ne), .int (nI li), .int (nI sp), .int (nI q), .ref ms, .ref mw, .ref mu, .ref mc, .ref mn, .int en, .int (nI sz), .ref mr, .int (nI wa), .ref mq, .int (nI (0 + nlen q K M (li - 1 - rw - q - 1))), .ref md, .int at0, .int lk])), (mw, .inl (cI, 2, .inl lw)), (mu, .inl (cI, 4, .inl su)), (mc, .inl (cI, 4, .inl cu)), (mn, .inl (cI, 4, .inl nu)), (mr, .inl (cB, 6000, .inl wr)), (md, .inl (cB, 400, .inl (wnum dr q K M (li - 1 - rw - q - 1) 0)))] H := hP
                    have hD : va_D A [(y, .inr (5, [.int 3, .int (nI bi), .int (nI ne), .int (nI li), .int (nI sp), .int (nI q), .ref ms, .ref mw, .ref mu, .ref mc, .ref mn, .int en, .int (nI sz), .ref mr, .int (nI wa), .ref mq, .int (nI (0 + nlen q K M (li - 1 - rw - q - 1))), .ref md, .int at0, .int lk])), (mw, .inl (cI, 2, .inl lw)), (mu, .inl (cI, 4, .inl su)), (mc, .inl (cI, 4, .inl cu)), (mn, .inl (cI, 4, .inl nu)), (mr, .inl (cB, 6000, .inl wr)), (md, .inl (cB, 400, .inl (wnum dr q K M (li - 1 - rw - q - 1) 0)))] := hD
                    refine lv_aload_n hx hb d_M_interrupt_132 rfl (lv_at hl 2 rfl) ?_
                    refine va_get (D := D) (ci := 5) (v := .int 3) (C := R_M) (T := T_M) (N := 20) hx hb hg in_M hown hK hP 0 rfl rfl 0 (by decide) (hg _ gw_524) (fun _ h9 => h9) rfl d_M_interrupt_133 ?_
                    refine lv_if_le (tgt := 141) hx hb d_M_interrupt_136 (by decide) (fun c_13 => ?_) (fun c_13 => ?_)
                    · skip
                      exact absurd c_13 (by decide)
                    · skip
                      refine lv_iconst (v := 0) hx hb d_M_interrupt_139 (by decide) ?_
                      exact W.iret (v := 0) hx hb hr (fun t ht hW => ⟨rfl, by rw [ht]; exact hP, (hAe ▸ hS).F ht⟩) (hAe ▸ hS).2.2 d_M_interrupt_140
                  · skip
                    exact absurd rfl c_12
              · skip
                exact absurd (Int32.not_lt.mp (nI_pos (by omega))) c_10
        · skip
          refine tpi (y := 0) (if_neg hup) ?_
          refine lv_if_eq (tgt := 59) hx hb d_M_interrupt_44 (by decide) (fun c_14 => ?_) (fun c_14 => ?_)
          · skip
            refine lv_iload_n hx hb d_M_interrupt_59 rfl (lv_at hl 2 rfl) ?_
            refine lv_if_ge (tgt := 67) hx hb d_M_interrupt_60 (by decide) (fun c_15 => ?_) (fun c_15 => ?_)
            · skip
              have hfl : (if ¬ n = 0 ∧ (K = 0 ∧ 2 * ng < ct) then 1 else 0 : Nat) = 0 := if_neg (fun q9 => hup q9.2)
              refine lv_iconst (v := 0) hx hb d_M_interrupt_67 (by decide) ?_
              refine lv_istore_n (lv' := [(3, .int 0), (0, .ref y), (1, .int 0), (2, .int (nI n))]) hx hb d_M_interrupt_68 rfl hl (by decide) rfl (fun ls hl => ?_)
              refine lv_iconst (v := 2) hx hb d_M_interrupt_69 (by decide) ?_
              refine lv_iload_n hx hb d_M_interrupt_70 rfl (lv_at hl 3 rfl) ?_
              refine lv_if_ge (tgt := 79) hx hb d_M_interrupt_71 (by decide) (fun c_16 => ?_) (fun c_16 => ?_)
              · skip
                refine lv_iload_n hx hb d_M_interrupt_79 rfl (lv_at hl 3 rfl) ?_
                refine lv_imul hx hb d_M_interrupt_80 ?_
                refine tpi (y := nI (2 * n)) (mul2 n) ?_
                refine lv_iload_n hx hb d_M_interrupt_81 rfl (lv_at hl 2 rfl) ?_
                refine lv_isub hx hb d_M_interrupt_82 ?_
                refine tpi (y := nI (2 * n - 0)) (pk_sub (b := 0) (by omega)) ?_
                refine lv_iload_n hx hb d_M_interrupt_83 rfl (lv_at hl 0 rfl) ?_
                refine lv_if_eq (tgt := 91) hx hb d_M_interrupt_84 (by decide) (fun c_17 => ?_) (fun c_17 => ?_)
                · skip
                  refine lv_iconst (v := 0) hx hb d_M_interrupt_91 (by decide) ?_
                  refine lv_isub hx hb d_M_interrupt_92 ?_
                  refine tpi (y := nI M) ((pk_sub (b := 0) (by omega)).trans (congrArg nI (by rw [hM, hfl]))) ?_
                  refine lv_istore (lv' := [(4, .int (nI M)), (3, .int 0), (0, .ref y), (1, .int 0), (2, .int (nI n))]) hx hb d_M_interrupt_93 hl (by decide) rfl (fun ls hl => ?_)
                  refine lv_aload_n hx hb d_M_interrupt_95 rfl (lv_at hl 2 rfl) ?_
                  refine lv_iconst (v := 0) hx hb d_M_interrupt_96 (by decide) ?_
                  refine tpi (y := nI 0) (rfl) ?_
                  refine va_put (D := D) (ci := 5) (v := .int (nI 0)) (ty := .int) (C := R_M) (T := T_M) (N := 20) hx hb hg in_M ty_M tok_M nm_M hown hK hP hD hS 0 rfl rfl 16 (by decide) (hg _ gw_540) (fun _ h9 => h9) rfl (by decide +kernel) (rfl) (rfl) (Nat.le_of_ble_eq_true rfl) d_M_interrupt_97 (fun H locs hP hD hS => ?_)
                  have hP : va_P D CLS [(y, .inr (5, [.int 0, .int (nI bi), .int (nI ne), .int (nI li), .int (nI sp), .int (nI q), .ref ms, .ref mw, .ref mu, .ref mc, .ref mn, .int en, .int (nI sz), .ref mr, .int (nI wa), .ref mq, .int (nI 0), .ref md, .int at0, .int lk])), (mw, .inl (cI, 2, .inl lw)), (mu, .inl (cI, 4, .inl su)), (mc, .inl (cI, 4, .inl cu)), (mn, .inl (cI, 4, .inl nu)), (mr, .inl (cB, 6000, .inl wr)), (md, .inl (cB, 400, .inl dr))] H := hP
                  have hD : va_D A [(y, .inr (5, [.int 0, .int (nI bi), .int (nI ne), .int (nI li), .int (nI sp), .int (nI q), .ref ms, .ref mw, .ref mu, .ref mc, .ref mn, .int en, .int (nI sz), .ref mr, .int (nI wa), .ref mq, .int (nI 0), .ref md, .int at0, .int lk])), (mw, .inl (cI, 2, .inl lw)), (mu, .inl (cI, 4, .inl su)), (mc, .inl (cI, 4, .inl cu)), (mn, .inl (cI, 4, .inl nu)), (mr, .inl (cB, 6000, .inl wr)), (md, .inl (cB, 400, .inl dr))] := hD
                  refine lv_aload_n hx hb d_M_interrupt_100 rfl (lv_at hl 2 rfl) ?_
                  refine lv_iload hx hb d_M_interrupt_101 (lv_at hl 0 rfl) ?_
                  refine lv_aload_n hx hb d_M_interrupt_103 rfl (lv_at hl 2 rfl) ?_
                  refine lv_iload_n hx hb d_M_interrupt_104 rfl (lv_at hl 3 rfl) ?_
                  have hPc := hP.sub (ws' := [(y, .inr (5, [.int 0, .int (nI bi), .int (nI ne), .int (nI li), .int (nI sp), .int (nI q), .ref ms, .ref mw, .ref mu, .ref mc, .ref mn, .int en, .int (nI sz), .ref mr, .int (nI wa), .ref mq, .int (nI 0), .ref md, .int at0, .int lk])), (mu, .inl (cI, 4, .inl su)), (mc, .inl (cI, 4, .inl cu)), (mn, .inl (cI, 4, .inl nu))]) [0, 2, 3, 4] rfl
                  have hKc := hK.sub (tys' := [(cI, .int)]) [1] rfl
                  refine pci (va_runV (As := [.int 0]) (rest := [.int (nI M), .ref y]) ⟨hx, hb, hml, hown, hg⟩ (c_M_kOf0 l D y ms mw mu mc mn mr mq md bi ne li sp q sz wa 0 en (nI 0) at0 lk cI su cu nu sm ct ng K hsu hcu hnu hc0 hn0 (by omega) hKb hK1 hK2) (cwV 1 hg (gV gw_638 gw_640 gs_21 gw_7 gw_641) rfl rfl rfl (by decide +kernel) ⟨Nat.le_of_ble_eq_true rfl, Nat.le_of_ble_eq_true rfl⟩) ⟨fun a U g mk q => by obtain ⟨q0, qP, qK⟩ := q; exact ⟨q0, qP, va_K.moved (u := U) (U := U.calling g mk a) (Vm.Alike.refl U.vm) qK⟩, va_recv hKc hPc (ci := 5) (q0 := 0) rfl rfl, fun U hU hW => ⟨rfl, by rw [hU]; exact hPc, va_K.moved hW.alike hKc⟩⟩ rfl rfl hl.1 rfl (lv_room (Nat.le_of_ble_eq_true rfl)) d_M_interrupt_105 (⟨Nat.le_of_ble_eq_true rfl, Nat.le_of_ble_eq_true rfl⟩)) ?_
                  refine lv_aload_n hx hb d_M_interrupt_108 rfl (lv_at hl 2 rfl) ?_
                  refine lv_iconst (v := 0) hx hb d_M_interrupt_109 (by decide) ?_
                  have hPc := hP.sub (ws' := [(y, .inr (5, [.int 0, .int (nI bi), .int (nI ne), .int (nI li), .int (nI sp), .int (nI q), .ref ms, .ref mw, .ref mu, .ref mc, .ref mn, .int en, .int (nI sz), .ref mr, .int (nI wa), .ref mq, .int (nI 0), .ref md, .int at0, .int lk])), (mw, .inl (cI, 2, .inl lw))]) [0, 1] rfl
                  have hKc := hK.sub (tys' := [(cI, .int)]) [1] rfl
                  refine pci (va_runV (As := [.int 0]) (rest := [.int (nI K), .int (nI M), .ref y]) ⟨hx, hb, hml, hown, hg⟩ (c_M_limitFor0 l D y ms mw mu mc mn mr mq md bi ne li sp q sz wa 0 en (nI 0) at0 lk cI lw rw hlw (by omega)) (cwV 1 hg (gV gw_642 gw_644 gs_22 gw_7 gw_645) rfl rfl rfl (by decide +kernel) ⟨Nat.le_of_ble_eq_true rfl, Nat.le_of_ble_eq_true rfl⟩) ⟨fun a U g mk q => by obtain ⟨q0, qP, qK⟩ := q; exact ⟨q0, qP, va_K.moved (u := U) (U := U.calling g mk a) (Vm.Alike.refl U.vm) qK⟩, va_recv hKc hPc (ci := 5) (q0 := 0) rfl rfl, fun U hU hW => ⟨rfl, by rw [hU]; exact hPc, va_K.moved hW.alike hKc⟩⟩ rfl rfl hl.1 rfl (lv_room (Nat.le_of_ble_eq_true rfl)) d_M_interrupt_110 (⟨Nat.le_of_ble_eq_true rfl, Nat.le_of_ble_eq_true rfl⟩)) ?_
                  have hPc := hP.sub (ws' := [(y, .inr (5, [.int 0, .int (nI bi), .int (nI ne), .int (nI li), .int (nI sp), .int (nI q), .ref ms, .ref mw, .ref mu, .ref mc, .ref mn, .int en, .int (nI sz), .ref mr, .int (nI wa), .ref mq, .int (nI 0), .ref md, .int at0, .int lk])), (md, .inl (cB, 400, .inl dr))]) [0, 6] rfl
                  have hDc := hD.sub (ws' := [(y, .inr (5, [.int 0, .int (nI bi), .int (nI ne), .int (nI li), .int (nI sp), .int (nI q), .ref ms, .ref mw, .ref mu, .ref mc, .ref mn, .int en, .int (nI sz), .ref mr, .int (nI wa), .ref mq, .int (nI 0), .ref md, .int at0, .int lk])), (md, .inl (cB, 400, .inl dr))]) [0, 6] (by decide) rfl
                  have hKc := hK.sub (tys' := [(cB, .byte)]) [0] rfl
                  refine mcv (va_runV (As := [.int (nI M), .int (nI K), .int (nI (li - 1 - rw))]) (rest := []) ⟨hx, hb, hml, hown, hg⟩ (c_M_layNumber l D y ms mw mu mc mn mr mq md bi ne li sp q sz wa 0 en (nI 0) at0 lk cB dr 0 M K (li - 1 - rw) (by omega) (by omega) (by omega) (by omega) (by omega) (by omega)) (cwV 3 hg (gV gw_594 gw_596 gs_13 gw_7 gw_597) rfl rfl rfl (by decide +kernel) ⟨Nat.le_of_ble_eq_true rfl, Nat.le_of_ble_eq_true rfl⟩) ⟨fun a U g mk q => by obtain ⟨q0, qP, qK, qD⟩ := q; exact ⟨q0, qP, va_K.moved (u := U) (U := U.calling g mk a) (Vm.Alike.refl U.vm) qK, qD⟩, va_recv hKc hPc (ci := 5) (q0 := 0) rfl rfl, fun U hU hW => ⟨rfl, by rw [hU]; exact hPc, va_K.moved hW.alike hKc, hDc.weaken (fun _ _ _ _ => trivial)⟩⟩ rfl rfl hl.1 rfl (lv_room (Nat.le_of_ble_eq_true rfl)) d_M_interrupt_113 (⟨Nat.le_of_ble_eq_true rfl, Nat.le_of_ble_eq_true rfl⟩)) hS hP hD [0, 6] rfl rfl rfl (fun H locs hP hD hS => ?_)
                  have hP : va_P D CLS [(y, .inr (5, [.int 0, .int (nI bi), .int (nI ne), .int (nI li), .int (nI sp), .int (nI q), .ref ms, .ref mw, .ref mu, .ref mc, .ref mn, .int en, .int (nI sz), .ref mr, .int (nI wa), .ref mq, .int (nI (0 + nlen q K M (li - 1 - rw - q - 1))), .ref md, .int at0, .int lk])), (mw, .inl (cI, 2, .inl lw)), (mu, .inl (cI, 4, .inl su)), (mc, .inl (cI, 4, .inl cu)), (mn, .inl (cI, 4, .inl nu)), (mr, .inl (cB, 6000, .inl wr)), (md, .inl (cB, 400, .inl (wnum dr q K M (li - 1 - rw - q - 1) 0)))] H := hP
                  have hD : va_D A [(y, .inr (5, [.int 0, .int (nI bi), .int (nI ne), .int (nI li), .int (nI sp), .int (nI q), .ref ms, .ref mw, .ref mu, .ref mc, .ref mn, .int en, .int (nI sz), .ref mr, .int (nI wa), .ref mq, .int (nI (0 + nlen q K M (li - 1 - rw - q - 1))), .ref md, .int at0, .int lk])), (mw, .inl (cI, 2, .inl lw)), (mu, .inl (cI, 4, .inl su)), (mc, .inl (cI, 4, .inl cu)), (mn, .inl (cI, 4, .inl nu)), (mr, .inl (cB, 6000, .inl wr)), (md, .inl (cB, 400, .inl (wnum dr q K M (li - 1 - rw - q - 1) 0)))] := hD
                  refine lv_aload_n hx hb d_M_interrupt_116 rfl (lv_at hl 2 rfl) ?_
                  refine lv_aload_n hx hb d_M_interrupt_117 rfl (lv_at hl 2 rfl) ?_
                  have hPc := hP.sub (ws' := [(y, .inr (5, [.int 0, .int (nI bi), .int (nI ne), .int (nI li), .int (nI sp), .int (nI q), .ref ms, .ref mw, .ref mu, .ref mc, .ref mn, .int en, .int (nI sz), .ref mr, .int (nI wa), .ref mq, .int (nI (0 + nlen q K M (li - 1 - rw - q - 1))), .ref md, .int at0, .int lk]))]) [0] rfl
                  have hKc := hK.sub (tys' := []) [] rfl
                  refine pci (va_runV (As := []) (rest := [.ref y]) ⟨hx, hb, hml, hown, hg⟩ (c_M_hasRoom l D y ms mw mu mc mn mr mq md bi ne li sp q sz wa 0 en (nI (0 + nlen q K M (li - 1 - rw - q - 1))) at0 lk (0 + nlen q K M (li - 1 - rw - q - 1)) hsz (by omega)) (cwV 0 hg (gV gw_606 gw_608 gs_16 gw_7 gw_609) rfl rfl rfl (by decide +kernel) ⟨Nat.le_of_ble_eq_true rfl, Nat.le_of_ble_eq_true rfl⟩) ⟨fun a U g mk q => by obtain ⟨q0, qP, qK⟩ := q; exact ⟨q0, qP, va_K.moved (u := U) (U := U.calling g mk a) (Vm.Alike.refl U.vm) qK⟩, va_recv hKc hPc (ci := 5) (q0 := 0) rfl rfl, fun U hU hW => ⟨rfl, by rw [hU]; exact hPc, va_K.moved hW.alike hKc⟩⟩ rfl rfl hl.1 rfl (lv_room (Nat.le_of_ble_eq_true rfl)) d_M_interrupt_118 (⟨Nat.le_of_ble_eq_true rfl, Nat.le_of_ble_eq_true rfl⟩)) ?_
                  refine tpi (y := 0) (if_neg (by omega)) ?_
                  refine lv_if_eq (tgt := 128) hx hb d_M_interrupt_121 (by decide) (fun c_18 => ?_) (fun c_18 => ?_)
                  · skip
                    refine lv_iconst (v := 3) hx hb d_M_interrupt_128 (by decide) ?_
                    refine va_put (D := D) (ci := 5) (v := .int 3) (ty := .int) (C := R_M) (T := T_M) (N := 20) hx hb hg in_M ty_M tok_M nm_M hown hK hP hD hS 0 rfl rfl 0 (by decide) (hg _ gw_524) (fun _ h9 => h9) rfl (by decide +kernel) (rfl) (rfl) (Nat.le_of_ble_eq_true rfl) d_M_interrupt_129 (fun H locs hP hD hS => ?_)
                    have hP : va_P D CLS [(y, .inr (5, [.int 3, .int (nI bi), .int (nI ne), .int (nI li), .int (nI sp), .int (nI q), .ref ms, .ref mw, .ref mu, .ref mc, .ref mn, .int en, .int (nI sz), .ref mr, .int (nI wa), .ref mq, .int (nI (0 + nlen q K M (li - 1 - rw - q - 1))), .ref md, .int at0, .int lk])), (mw, .inl (cI, 2, .inl lw)), (mu, .inl (cI, 4, .inl su)), (mc, .inl (cI, 4, .inl cu)), (mn, .inl (cI, 4, .inl nu)), (mr, .inl (cB, 6000, .inl wr)), (md, .inl (cB, 400, .inl (wnum dr q K M (li - 1 - rw - q - 1) 0)))] H := hP
                    have hD : va_D A [(y, .inr (5, [.int 3, .int (nI bi), .int (nI ne), .int (nI li), .int (nI sp), .int (nI q), .ref ms, .ref mw, .ref mu, .ref mc, .ref mn, .int en, .int (nI sz), .ref mr, .int (nI wa), .ref mq, .int (nI (0 + nlen q K M (li - 1 - rw - q - 1))), .ref md, .int at0, .int lk])), (mw, .inl (cI, 2, .inl lw)), (mu, .inl (cI, 4, .inl su)), (mc, .inl (cI, 4, .inl cu)), (mn, .inl (cI, 4, .inl nu)), (mr, .inl (cB, 6000, .inl wr)), (md, .inl (cB, 400, .inl (wnum dr q K M (li - 1 - rw - q - 1) 0)))] := hD
                    refine lv_aload_n hx hb d_M_interrupt_132 rfl (lv_at hl 2 rfl) ?_
                    refine va_get (D := D) (ci := 5) (v := .int 3) (C := R_M) (T := T_M) (N := 20) hx hb hg in_M hown hK hP 0 rfl rfl 0 (by decide) (hg _ gw_524) (fun _ h9 => h9) rfl d_M_interrupt_133 ?_
                    refine lv_if_le (tgt := 141) hx hb d_M_interrupt_136 (by decide) (fun c_19 => ?_) (fun c_19 => ?_)
                    · skip
                      exact absurd c_19 (by decide)
                    · skip
                      refine lv_iconst (v := 0) hx hb d_M_interrupt_139 (by decide) ?_
                      exact W.iret (v := 0) hx hb hr (fun t ht hW => ⟨rfl, by rw [ht]; exact hP, (hAe ▸ hS).F ht⟩) (hAe ▸ hS).2.2 d_M_interrupt_140
                  · skip
                    exact absurd rfl c_18
                · skip
                  exact absurd rfl c_17
              · skip
                exact absurd (Int32.not_lt.mp (nI_pos (by omega))) c_16
            · skip
              exact absurd (Int32.not_lt.mp (nI_pos (by omega))) c_15
          · skip
            exact absurd rfl c_14
      · skip
        exact absurd (by decide) c_3
    · skip
      exact absurd c_2 (by decide)
  · skip
    exact absurd c_1 (by decide)
set_option maxHeartbeats 4000000 in
set_option maxRecDepth 100000 in
theorem c_M_interrupt0NG (l : Launch) (D : va_G) (y ms mw mu mc mn mr mq md bi ne li sp q sz wa : Nat) (th en la at0 lk : Int32) (cB cI : ClassId) (lw su cu nu wr dr : Nat → Int32) (rw sm ct ng n K M : Nat) (hlw : lw 0 = nI rw) (hsu : su 0 = nI sm) (hcu : cu 0 = nI ct) (hnu : nu 0 = nI ng) (hc0 : ct ≤ 64) (hn0 : ng ≤ 64) (hs0 : sm < 2 ^ 29) (hKb : K ≤ 29) (hK1 : sm ≤ ct * 2 ^ K) (hK2 : ∀ j, j < K → ct * 2 ^ j < sm) (hsp : sp ≤ 65536) (hn : n ≤ sp / 2) (hn1 : 0 < n) (hM : M = 2 * n - 0 - (if (K = 0 ∧ 2 * ng < ct) then 0 else 1)) (hq : q ≤ 29) (hli : q + 18 ≤ li) (hlb : li ≤ 200) (hrw : rw ≤ 15) (hsz : sz ≤ 6000) (hu : sz + nlen q K M (li - 1 - rw - q - 1) ≤ 6000) : Met l y_M_interrupt (WSY y_M_interrupt b_M_interrupt 5 (some .int)) ({ frames := 3, cells := 0, slots := 0, locals := 72 }) (va_Pc [.ref y, .int 0, .int (-nI n)] (fun U => va_P D CLS [(y, .inr (5, [.int th, .int (nI bi), .int (nI ne), .int (nI li), .int (nI sp), .int (nI q), .ref ms, .ref mw, .ref mu, .ref mc, .ref mn, .int en, .int (nI sz), .ref mr, .int (nI wa), .ref mq, .int la, .ref md, .int at0, .int lk])), (mw, .inl (cI, 2, .inl lw)), (mu, .inl (cI, 4, .inl su)), (mc, .inl (cI, 4, .inl cu)), (mn, .inl (cI, 4, .inl nu)), (mr, .inl (cB, 6000, .inl wr)), (md, .inl (cB, 400, .inl dr))] U.heap ∧ va_K D CLS [(cB, .byte), (cI, .int)] U ∧ va_D (fun _ => True) [(y, .inr (5, [.int th, .int (nI bi), .int (nI ne), .int (nI li), .int (nI sp), .int (nI q), .ref ms, .ref mw, .ref mu, .ref mc, .ref mn, .int en, .int (nI sz), .ref mr, .int (nI wa), .ref mq, .int la, .ref md, .int at0, .int lk])), (mw, .inl (cI, 2, .inl lw)), (mu, .inl (cI, 4, .inl su)), (mc, .inl (cI, 4, .inl cu)), (mn, .inl (cI, 4, .inl nu)), (mr, .inl (cB, 6000, .inl wr)), (md, .inl (cB, 400, .inl dr))])) (QM (some (.int (nI (0 + nlen q K M (li - 1 - rw - q - 1))))) [(y, .inr (5, [.int th, .int (nI bi), .int (nI ne), .int (nI li), .int (nI sp), .int (nI q), .ref ms, .ref mw, .ref mu, .ref mc, .ref mn, .int en, .int (nI sz), .ref mr, .int (nI wa), .ref mq, .int la, .ref md, .int at0, .int lk])), (mw, .inl (cI, 2, .inl lw)), (mu, .inl (cI, 4, .inl su)), (mc, .inl (cI, 4, .inl cu)), (mn, .inl (cI, 4, .inl nu)), (mr, .inl (cB, 6000, .inl wr)), (md, .inl (cB, 400, .inl dr))] [(y, .inr (5, [.int 0, .int (nI bi), .int (nI ne), .int (nI li), .int (nI sp), .int (nI q), .ref ms, .ref mw, .ref mu, .ref mc, .ref mn, .int en, .int (nI (sz + (0 + nlen q K M (li - 1 - rw - q - 1)))), .ref mr, .int (nI wa), .ref mq, .int (nI (0 + nlen q K M (li - 1 - rw - q - 1))), .ref md, .int at0, .int lk])), (mw, .inl (cI, 2, .inl lw)), (mu, .inl (cI, 4, .inl (upd su 0 (nI (hvd ct (sm + (M + 1 - 0) / 2)))))), (mc, .inl (cI, 4, .inl (upd cu 0 (nI (hvd ct ct + 1))))), (mn, .inl (cI, 4, .inl (upd nu 0 (nI (hvd ct (ng + 1)))))), (mr, .inl (cB, 6000, .inl (cpw wr sz (wnum dr q K M (li - 1 - rw - q - 1) 0) (0 + nlen q K M (li - 1 - rw - q - 1))))), (md, .inl (cB, 400, .inl (wnum dr q K M (li - 1 - rw - q - 1) 0)))] D) 0 0 (ad [(y, .inr (5, [.int th, .int (nI bi), .int (nI ne), .int (nI li), .int (nI sp), .int (nI q), .ref ms, .ref mw, .ref mu, .ref mc, .ref mn, .int en, .int (nI sz), .ref mr, .int (nI wa), .ref mq, .int la, .ref md, .int at0, .int lk])), (mw, .inl (cI, 2, .inl lw)), (mu, .inl (cI, 4, .inl su)), (mc, .inl (cI, 4, .inl cu)), (mn, .inl (cI, 4, .inl nu)), (mr, .inl (cB, 6000, .inl wr)), (md, .inl (cB, 400, .inl dr))]) := by
  refine Met.ofW (cc := b_M_interrupt) (maxL := 5) (ret := (some .int)) (by decide) rfl ?_
  intro p e s m args below meth c s₁ B hml hv
  obtain ⟨rfl, hP, hK, hD0⟩ := hv
  have hx := B.exec
  have hb := B.bytes
  have hr := B.returns
  have hts := atoms_spec (ws := WSY y_M_interrupt b_M_interrupt 5 (some .int)) B.pre
  have hg : ∀ w ∈ GW, w.before _ s = true := fun w h => hts w (List.mem_cons_of_mem _ h)
  have hown : s.vm.findClass "LineGolombModel" = some m.cls := findClass_of_methodNamed B.named
  have hlocks := B.notSynchronized
  obtain ⟨A, hAe⟩ : ∃ A, A = ad [(y, .inr (5, [.int th, .int (nI bi), .int (nI ne), .int (nI li), .int (nI sp), .int (nI q), .ref ms, .ref mw, .ref mu, .ref mc, .ref mn, .int en, .int (nI sz), .ref mr, .int (nI wa), .ref mq, .int la, .ref md, .int at0, .int lk])), (mw, .inl (cI, 2, .inl lw)), (mu, .inl (cI, 4, .inl su)), (mc, .inl (cI, 4, .inl cu)), (mn, .inl (cI, 4, .inl nu)), (mr, .inl (cB, 6000, .inl wr)), (md, .inl (cB, 400, .inl dr))] := ⟨_, rfl⟩
  have hD : va_D A [(y, .inr (5, [.int th, .int (nI bi), .int (nI ne), .int (nI li), .int (nI sp), .int (nI q), .ref ms, .ref mw, .ref mu, .ref mc, .ref mn, .int en, .int (nI sz), .ref mr, .int (nI wa), .ref mq, .int la, .ref md, .int at0, .int lk])), (mw, .inl (cI, 2, .inl lw)), (mu, .inl (cI, 4, .inl su)), (mc, .inl (cI, 4, .inl cu)), (mn, .inl (cI, 4, .inl nu)), (mr, .inl (cB, 6000, .inl wr)), (md, .inl (cB, 400, .inl dr))] := by rw [hAe]; exact va_D_ad hD0
  have hS : va_S A s.heap s.heap [] := va_S.rf
  have hl := lv_entry ([.ref y, .int 0, .int (-nI n)]) (n := 5) (Nat.le_of_ble_eq_true rfl)
  rw [lg_entry_eq]
  generalize (lg_sl ([.ref y, .int 0, .int (-nI n)]) ++ List.replicate (5 - (lg_sl ([.ref y, .int 0, .int (-nI n)])).length) Slot.unset).toArray = ls at hl ⊢
  have hl : lv_has ls 5 [(0, .ref y), (1, .int 0), (2, .int (-nI n))] := hl
  have hMb : M ≤ 2 * n := by rw [hM]; omega
  have hlen : nlen q K M (li - 1 - rw - q - 1) ≤ 400 := by unfold nlen; split <;> omega
  refine lv_aload_n hx hb d_M_interrupt_0 rfl (lv_at hl 0 rfl) ?_
  refine lv_aload_n hx hb d_M_interrupt_1 rfl (lv_at hl 0 rfl) ?_
  refine lv_iload_n hx hb d_M_interrupt_2 rfl (lv_at hl 1 rfl) ?_
  have hPc := hP.sub (ws' := [(y, .inr (5, [.int th, .int (nI bi), .int (nI ne), .int (nI li), .int (nI sp), .int (nI q), .ref ms, .ref mw, .ref mu, .ref mc, .ref mn, .int en, .int (nI sz), .ref mr, .int (nI wa), .ref mq, .int la, .ref md, .int at0, .int lk]))]) [0] rfl
  have hKc := hK.sub (tys' := []) [] rfl
  refine pci (va_runV (As := [.int 0]) (rest := [.ref y]) ⟨hx, hb, hml, hown, hg⟩ (c_M_isKind l D y ms mw mu mc mn mr mq md bi ne li sp q sz wa th en la at0 lk 0) (cwV 1 hg (gV gw_626 gw_628 gs_18 gw_7 gw_629) rfl rfl rfl (by decide +kernel) ⟨Nat.le_of_ble_eq_true rfl, Nat.le_of_ble_eq_true rfl⟩) ⟨fun a U g mk q => by obtain ⟨q0, qP, qK⟩ := q; exact ⟨q0, qP, va_K.moved (u := U) (U := U.calling g mk a) (Vm.Alike.refl U.vm) qK⟩, va_recv hKc hPc (ci := 5) (q0 := 0) rfl rfl, fun U hU hW => ⟨rfl, by rw [hU]; exact hPc, va_K.moved hW.alike hKc⟩⟩ rfl rfl hl.1 rfl (lv_room (Nat.le_of_ble_eq_true rfl)) d_M_interrupt_3 (⟨Nat.le_of_ble_eq_true rfl, Nat.le_of_ble_eq_true rfl⟩)) ?_
  refine tpi (y := 1) (by decide) ?_
  refine lv_if_ne (tgt := 13) hx hb d_M_interrupt_6 (by decide) (fun c_1 => ?_) (fun c_1 => ?_)
  · skip
    refine lv_aload_n hx hb d_M_interrupt_13 rfl (lv_at hl 0 rfl) ?_
    refine lv_iload_n hx hb d_M_interrupt_14 rfl (lv_at hl 1 rfl) ?_
    refine lv_iload_n hx hb d_M_interrupt_15 rfl (lv_at hl 2 rfl) ?_
    have hPc := hP.sub (ws' := [(y, .inr (5, [.int th, .int (nI bi), .int (nI ne), .int (nI li), .int (nI sp), .int (nI q), .ref ms, .ref mw, .ref mu, .ref mc, .ref mn, .int en, .int (nI sz), .ref mr, .int (nI wa), .ref mq, .int la, .ref md, .int at0, .int lk]))]) [0] rfl
    have hKc := hK.sub (tys' := []) [] rfl
    refine pci (va_runV (As := [.int 0, .int (-nI n)]) (rest := [.ref y]) ⟨hx, hb, hml, hown, hg⟩ (c_M_isError l D y ms mw mu mc mn mr mq md bi ne li sp q sz wa th en la at0 lk 0 (-nI n) (by omega)) (cwV 2 hg (gV gw_630 gw_632 gs_19 gw_7 gw_633) rfl rfl rfl (by decide +kernel) ⟨Nat.le_of_ble_eq_true rfl, Nat.le_of_ble_eq_true rfl⟩) ⟨fun a U g mk q => by obtain ⟨q0, qP, qK⟩ := q; exact ⟨q0, qP, va_K.moved (u := U) (U := U.calling g mk a) (Vm.Alike.refl U.vm) qK⟩, va_recv hKc hPc (ci := 5) (q0 := 0) rfl rfl, fun U hU hW => ⟨rfl, by rw [hU]; exact hPc, va_K.moved hW.alike hKc⟩⟩ rfl rfl hl.1 rfl (lv_room (Nat.le_of_ble_eq_true rfl)) d_M_interrupt_16 (⟨Nat.le_of_ble_eq_true rfl, Nat.le_of_ble_eq_true rfl⟩)) ?_
    refine tpi (y := 1) (if_pos ⟨by rw [ngT (by omega)]; omega, by rw [ngT (by omega)]; omega, Or.inr rfl⟩) ?_
    refine lv_if_ne (tgt := 26) hx hb d_M_interrupt_19 (by decide) (fun c_2 => ?_) (fun c_2 => ?_)
    · skip
      refine lv_iconst (v := 0) hx hb d_M_interrupt_26 (by decide) ?_
      refine va_put (D := D) (ci := 5) (v := .int 0) (ty := .int) (C := R_M) (T := T_M) (N := 20) hx hb hg in_M ty_M tok_M nm_M hown hK hP hD hS 0 rfl rfl 0 (by decide) (hg _ gw_524) (fun _ h9 => h9) rfl (by decide +kernel) (rfl) (rfl) (Nat.le_of_ble_eq_true rfl) d_M_interrupt_27 (fun H locs hP hD hS => ?_)
      have hP : va_P D CLS [(y, .inr (5, [.int 0, .int (nI bi), .int (nI ne), .int (nI li), .int (nI sp), .int (nI q), .ref ms, .ref mw, .ref mu, .ref mc, .ref mn, .int en, .int (nI sz), .ref mr, .int (nI wa), .ref mq, .int la, .ref md, .int at0, .int lk])), (mw, .inl (cI, 2, .inl lw)), (mu, .inl (cI, 4, .inl su)), (mc, .inl (cI, 4, .inl cu)), (mn, .inl (cI, 4, .inl nu)), (mr, .inl (cB, 6000, .inl wr)), (md, .inl (cB, 400, .inl dr))] H := hP
      have hD : va_D A [(y, .inr (5, [.int 0, .int (nI bi), .int (nI ne), .int (nI li), .int (nI sp), .int (nI q), .ref ms, .ref mw, .ref mu, .ref mc, .ref mn, .int en, .int (nI sz), .ref mr, .int (nI wa), .ref mq, .int la, .ref md, .int at0, .int lk])), (mw, .inl (cI, 2, .inl lw)), (mu, .inl (cI, 4, .inl su)), (mc, .inl (cI, 4, .inl cu)), (mn, .inl (cI, 4, .inl nu)), (mr, .inl (cB, 6000, .inl wr)), (md, .inl (cB, 400, .inl dr))] := hD
      refine lv_aload_n hx hb d_M_interrupt_30 rfl (lv_at hl 0 rfl) ?_
      refine va_get (D := D) (ci := 5) (v := .int 0) (C := R_M) (T := T_M) (N := 20) hx hb hg in_M hown hK hP 0 rfl rfl 0 (by decide) (hg _ gw_524) (fun _ h9 => h9) rfl d_M_interrupt_31 ?_
      refine lv_if_le (tgt := 39) hx hb d_M_interrupt_34 (by decide) (fun c_3 => ?_) (fun c_3 => ?_)
      · skip
        refine lv_aload_n hx hb d_M_interrupt_39 rfl (lv_at hl 0 rfl) ?_
        refine lv_iload_n hx hb d_M_interrupt_40 rfl (lv_at hl 1 rfl) ?_
        have hPc := hP.sub (ws' := [(y, .inr (5, [.int 0, .int (nI bi), .int (nI ne), .int (nI li), .int (nI sp), .int (nI q), .ref ms, .ref mw, .ref mu, .ref mc, .ref mn, .int en, .int (nI sz), .ref mr, .int (nI wa), .ref mq, .int la, .ref md, .int at0, .int lk])), (mu, .inl (cI, 4, .inl su)), (mc, .inl (cI, 4, .inl cu)), (mn, .inl (cI, 4, .inl nu))]) [0, 2, 3, 4] rfl
        have hKc := hK.sub (tys' := [(cI, .int)]) [1] rfl
        refine pci (va_runV (As := [.int 0]) (rest := []) ⟨hx, hb, hml, hown, hg⟩ (c_M_isUp0 l D y ms mw mu mc mn mr mq md bi ne li sp q sz wa 0 en la at0 lk cI su cu nu sm ct ng K hsu hcu hnu hc0 hn0 (by omega) hKb hK1 hK2) (cwV 1 hg (gV gw_634 gw_636 gs_20 gw_7 gw_637) rfl rfl rfl (by decide +kernel) ⟨Nat.le_of_ble_eq_true rfl, Nat.le_of_ble_eq_true rfl⟩) ⟨fun a U g mk q => by obtain ⟨q0, qP, qK⟩ := q; exact ⟨q0, qP, va_K.moved (u := U) (U := U.calling g mk a) (Vm.Alike.refl U.vm) qK⟩, va_recv hKc hPc (ci := 5) (q0 := 0) rfl rfl, fun U hU hW => ⟨rfl, by rw [hU]; exact hPc, va_K.moved hW.alike hKc⟩⟩ rfl rfl hl.1 rfl (lv_room (Nat.le_of_ble_eq_true rfl)) d_M_interrupt_41 (⟨Nat.le_of_ble_eq_true rfl, Nat.le_of_ble_eq_true rfl⟩)) ?_
        by_cases hup : (K = 0 ∧ 2 * ng < ct)
        · skip
          refine tpi (y := 1) (if_pos hup) ?_
          refine lv_if_eq (tgt := 59) hx hb d_M_interrupt_44 (by decide) (fun c_4 => ?_) (fun c_4 => ?_)
          · skip
            exact absurd c_4 (by decide)
          · skip
            refine lv_iload_n hx hb d_M_interrupt_47 rfl (lv_at hl 2 rfl) ?_
            refine lv_if_le (tgt := 55) hx hb d_M_interrupt_48 (by decide) (fun c_5 => ?_) (fun c_5 => ?_)
            · skip
              have hfl : (if (K = 0 ∧ 2 * ng < ct) then 0 else 1 : Nat) = 0 := if_pos hup
              refine lv_iconst (v := 0) hx hb d_M_interrupt_55 (by decide) ?_
              refine lv_goto (tgt := 68) hx hb d_M_interrupt_56 (by decide) ?_
              refine lv_istore_n (lv' := [(3, .int 0), (0, .ref y), (1, .int 0), (2, .int (-nI n))]) hx hb d_M_interrupt_68 rfl hl (by decide) rfl (fun ls hl => ?_)
              refine lv_iconst (v := 2) hx hb d_M_interrupt_69 (by decide) ?_
              refine lv_iload_n hx hb d_M_interrupt_70 rfl (lv_at hl 3 rfl) ?_
              refine lv_if_ge (tgt := 79) hx hb d_M_interrupt_71 (by decide) (fun c_6 => ?_) (fun c_6 => ?_)
              · skip
                exact absurd c_6 (by rw [leT, ngT (by omega), zT]; omega)
              · skip
                refine lv_iload_n hx hb d_M_interrupt_74 rfl (lv_at hl 3 rfl) ?_
                refine lv_ineg hx hb d_M_interrupt_75 ?_
                refine lv_goto (tgt := 80) hx hb d_M_interrupt_76 (by decide) ?_
                refine tpi (y := nI n) (Int32.neg_neg) ?_
                refine lv_imul hx hb d_M_interrupt_80 ?_
                refine tpi (y := nI (2 * n)) (mul2 n) ?_
                refine lv_iload_n hx hb d_M_interrupt_81 rfl (lv_at hl 2 rfl) ?_
                refine lv_isub hx hb d_M_interrupt_82 ?_
                refine tpi (y := nI (2 * n - 0)) (pk_sub (b := 0) (by omega)) ?_
                refine lv_iload_n hx hb d_M_interrupt_83 rfl (lv_at hl 0 rfl) ?_
                refine lv_if_eq (tgt := 91) hx hb d_M_interrupt_84 (by decide) (fun c_7 => ?_) (fun c_7 => ?_)
                · skip
                  refine lv_iconst (v := 0) hx hb d_M_interrupt_91 (by decide) ?_
                  refine lv_isub hx hb d_M_interrupt_92 ?_
                  refine tpi (y := nI M) ((pk_sub (b := 0) (by omega)).trans (congrArg nI (by rw [hM, hfl]))) ?_
                  refine lv_istore (lv' := [(4, .int (nI M)), (3, .int 0), (0, .ref y), (1, .int 0), (2, .int (-nI n))]) hx hb d_M_interrupt_93 hl (by decide) rfl (fun ls hl => ?_)
                  refine lv_aload_n hx hb d_M_interrupt_95 rfl (lv_at hl 2 rfl) ?_
                  refine lv_iconst (v := 0) hx hb d_M_interrupt_96 (by decide) ?_
                  refine tpi (y := nI 0) (rfl) ?_
                  refine va_put (D := D) (ci := 5) (v := .int (nI 0)) (ty := .int) (C := R_M) (T := T_M) (N := 20) hx hb hg in_M ty_M tok_M nm_M hown hK hP hD hS 0 rfl rfl 16 (by decide) (hg _ gw_540) (fun _ h9 => h9) rfl (by decide +kernel) (rfl) (rfl) (Nat.le_of_ble_eq_true rfl) d_M_interrupt_97 (fun H locs hP hD hS => ?_)
                  have hP : va_P D CLS [(y, .inr (5, [.int 0, .int (nI bi), .int (nI ne), .int (nI li), .int (nI sp), .int (nI q), .ref ms, .ref mw, .ref mu, .ref mc, .ref mn, .int en, .int (nI sz), .ref mr, .int (nI wa), .ref mq, .int (nI 0), .ref md, .int at0, .int lk])), (mw, .inl (cI, 2, .inl lw)), (mu, .inl (cI, 4, .inl su)), (mc, .inl (cI, 4, .inl cu)), (mn, .inl (cI, 4, .inl nu)), (mr, .inl (cB, 6000, .inl wr)), (md, .inl (cB, 400, .inl dr))] H := hP
                  have hD : va_D A [(y, .inr (5, [.int 0, .int (nI bi), .int (nI ne), .int (nI li), .int (nI sp), .int (nI q), .ref ms, .ref mw, .ref mu, .ref mc, .ref mn, .int en, .int (nI sz), .ref mr, .int (nI wa), .ref mq, .int (nI 0), .ref md, .int at0, .int lk])), (mw, .inl (cI, 2, .inl lw)), (mu, .inl (cI, 4, .inl su)), (mc, .inl (cI, 4, .inl cu)), (mn, .inl (cI, 4, .inl nu)), (mr, .inl (cB, 6000, .inl wr)), (md, .inl (cB, 400, .inl dr))] := hD
                  refine lv_aload_n hx hb d_M_interrupt_100 rfl (lv_at hl 2 rfl) ?_
                  refine lv_iload hx hb d_M_interrupt_101 (lv_at hl 0 rfl) ?_
                  refine lv_aload_n hx hb d_M_interrupt_103 rfl (lv_at hl 2 rfl) ?_
                  refine lv_iload_n hx hb d_M_interrupt_104 rfl (lv_at hl 3 rfl) ?_
                  have hPc := hP.sub (ws' := [(y, .inr (5, [.int 0, .int (nI bi), .int (nI ne), .int (nI li), .int (nI sp), .int (nI q), .ref ms, .ref mw, .ref mu, .ref mc, .ref mn, .int en, .int (nI sz), .ref mr, .int (nI wa), .ref mq, .int (nI 0), .ref md, .int at0, .int lk])), (mu, .inl (cI, 4, .inl su)), (mc, .inl (cI, 4, .inl cu)), (mn, .inl (cI, 4, .inl nu))]) [0, 2, 3, 4] rfl
                  have hKc := hK.sub (tys' := [(cI, .int)]) [1] rfl
                  refine pci (va_runV (As := [.int 0]) (rest := [.int (nI M), .ref y]) ⟨hx, hb, hml, hown, hg⟩ (c_M_kOf0 l D y ms mw mu mc mn mr mq md bi ne li sp q sz wa 0 en (nI 0) at0 lk cI su cu nu sm ct ng K hsu hcu hnu hc0 hn0 (by omega) hKb hK1 hK2) (cwV 1 hg (gV gw_638 gw_640 gs_21 gw_7 gw_641) rfl rfl rfl (by decide +kernel) ⟨Nat.le_of_ble_eq_true rfl, Nat.le_of_ble_eq_true rfl⟩) ⟨fun a U g mk q => by obtain ⟨q0, qP, qK⟩ := q; exact ⟨q0, qP, va_K.moved (u := U) (U := U.calling g mk a) (Vm.Alike.refl U.vm) qK⟩, va_recv hKc hPc (ci := 5) (q0 := 0) rfl rfl, fun U hU hW => ⟨rfl, by rw [hU]; exact hPc, va_K.moved hW.alike hKc⟩⟩ rfl rfl hl.1 rfl (lv_room (Nat.le_of_ble_eq_true rfl)) d_M_interrupt_105 (⟨Nat.le_of_ble_eq_true rfl, Nat.le_of_ble_eq_true rfl⟩)) ?_
                  refine lv_aload_n hx hb d_M_interrupt_108 rfl (lv_at hl 2 rfl) ?_
                  refine lv_iconst (v := 0) hx hb d_M_interrupt_109 (by decide) ?_
                  have hPc := hP.sub (ws' := [(y, .inr (5, [.int 0, .int (nI bi), .int (nI ne), .int (nI li), .int (nI sp), .int (nI q), .ref ms, .ref mw, .ref mu, .ref mc, .ref mn, .int en, .int (nI sz), .ref mr, .int (nI wa), .ref mq, .int (nI 0), .ref md, .int at0, .int lk])), (mw, .inl (cI, 2, .inl lw))]) [0, 1] rfl
                  have hKc := hK.sub (tys' := [(cI, .int)]) [1] rfl
                  refine pci (va_runV (As := [.int 0]) (rest := [.int (nI K), .int (nI M), .ref y]) ⟨hx, hb, hml, hown, hg⟩ (c_M_limitFor0 l D y ms mw mu mc mn mr mq md bi ne li sp q sz wa 0 en (nI 0) at0 lk cI lw rw hlw (by omega)) (cwV 1 hg (gV gw_642 gw_644 gs_22 gw_7 gw_645) rfl rfl rfl (by decide +kernel) ⟨Nat.le_of_ble_eq_true rfl, Nat.le_of_ble_eq_true rfl⟩) ⟨fun a U g mk q => by obtain ⟨q0, qP, qK⟩ := q; exact ⟨q0, qP, va_K.moved (u := U) (U := U.calling g mk a) (Vm.Alike.refl U.vm) qK⟩, va_recv hKc hPc (ci := 5) (q0 := 0) rfl rfl, fun U hU hW => ⟨rfl, by rw [hU]; exact hPc, va_K.moved hW.alike hKc⟩⟩ rfl rfl hl.1 rfl (lv_room (Nat.le_of_ble_eq_true rfl)) d_M_interrupt_110 (⟨Nat.le_of_ble_eq_true rfl, Nat.le_of_ble_eq_true rfl⟩)) ?_
                  have hPc := hP.sub (ws' := [(y, .inr (5, [.int 0, .int (nI bi), .int (nI ne), .int (nI li), .int (nI sp), .int (nI q), .ref ms, .ref mw, .ref mu, .ref mc, .ref mn, .int en, .int (nI sz), .ref mr, .int (nI wa), .ref mq, .int (nI 0), .ref md, .int at0, .int lk])), (md, .inl (cB, 400, .inl dr))]) [0, 6] rfl
                  have hDc := hD.sub (ws' := [(y, .inr (5, [.int 0, .int (nI bi), .int (nI ne), .int (nI li), .int (nI sp), .int (nI q), .ref ms, .ref mw, .ref mu, .ref mc, .ref mn, .int en, .int (nI sz), .ref mr, .int (nI wa), .ref mq, .int (nI 0), .ref md, .int at0, .int lk])), (md, .inl (cB, 400, .inl dr))]) [0, 6] (by decide) rfl
                  have hKc := hK.sub (tys' := [(cB, .byte)]) [0] rfl
                  refine mcv (va_runV (As := [.int (nI M), .int (nI K), .int (nI (li - 1 - rw))]) (rest := []) ⟨hx, hb, hml, hown, hg⟩ (c_M_layNumber l D y ms mw mu mc mn mr mq md bi ne li sp q sz wa 0 en (nI 0) at0 lk cB dr 0 M K (li - 1 - rw) (by omega) (by omega) (by omega) (by omega) (by omega) (by omega)) (cwV 3 hg (gV gw_594 gw_596 gs_13 gw_7 gw_597) rfl rfl rfl (by decide +kernel) ⟨Nat.le_of_ble_eq_true rfl, Nat.le_of_ble_eq_true rfl⟩) ⟨fun a U g mk q => by obtain ⟨q0, qP, qK, qD⟩ := q; exact ⟨q0, qP, va_K.moved (u := U) (U := U.calling g mk a) (Vm.Alike.refl U.vm) qK, qD⟩, va_recv hKc hPc (ci := 5) (q0 := 0) rfl rfl, fun U hU hW => ⟨rfl, by rw [hU]; exact hPc, va_K.moved hW.alike hKc, hDc.weaken (fun _ _ _ _ => trivial)⟩⟩ rfl rfl hl.1 rfl (lv_room (Nat.le_of_ble_eq_true rfl)) d_M_interrupt_113 (⟨Nat.le_of_ble_eq_true rfl, Nat.le_of_ble_eq_true rfl⟩)) hS hP hD [0, 6] rfl rfl rfl (fun H locs hP hD hS => ?_)
                  have hP : va_P D CLS [(y, .inr (5, [.int 0, .int (nI bi), .int (nI ne), .int (nI li), .int (nI sp), .int (nI q), .ref ms, .ref mw, .ref mu, .ref mc, .ref mn, .int en, .int (nI sz), .ref mr, .int (nI wa), .ref mq, .int (nI (0 + nlen q K M (li - 1 - rw - q - 1))), .ref md, .int at0, .int lk])), (mw, .inl (cI, 2, .inl lw)), (mu, .inl (cI, 4, .inl su)), (mc, .inl (cI, 4, .inl cu)), (mn, .inl (cI, 4, .inl nu)), (mr, .inl (cB, 6000, .inl wr)), (md, .inl (cB, 400, .inl (wnum dr q K M (li - 1 - rw - q - 1) 0)))] H := hP
                  have hD : va_D A [(y, .inr (5, [.int 0, .int (nI bi), .int (nI ne), .int (nI li), .int (nI sp), .int (nI q), .ref ms, .ref mw, .ref mu, .ref mc, .ref mn, .int en, .int (nI sz), .ref mr, .int (nI wa), .ref mq, .int (nI (0 + nlen q K M (li - 1 - rw - q - 1))), .ref md, .int at0, .int lk])), (mw, .inl (cI, 2, .inl lw)), (mu, .inl (cI, 4, .inl su)), (mc, .inl (cI, 4, .inl cu)), (mn, .inl (cI, 4, .inl nu)), (mr, .inl (cB, 6000, .inl wr)), (md, .inl (cB, 400, .inl (wnum dr q K M (li - 1 - rw - q - 1) 0)))] := hD
                  refine lv_aload_n hx hb d_M_interrupt_116 rfl (lv_at hl 2 rfl) ?_
                  refine lv_aload_n hx hb d_M_interrupt_117 rfl (lv_at hl 2 rfl) ?_
                  have hPc := hP.sub (ws' := [(y, .inr (5, [.int 0, .int (nI bi), .int (nI ne), .int (nI li), .int (nI sp), .int (nI q), .ref ms, .ref mw, .ref mu, .ref mc, .ref mn, .int en, .int (nI sz), .ref mr, .int (nI wa), .ref mq, .int (nI (0 + nlen q K M (li - 1 - rw - q - 1))), .ref md, .int at0, .int lk]))]) [0] rfl
                  have hKc := hK.sub (tys' := []) [] rfl
                  refine pci (va_runV (As := []) (rest := [.ref y]) ⟨hx, hb, hml, hown, hg⟩ (c_M_hasRoom l D y ms mw mu mc mn mr mq md bi ne li sp q sz wa 0 en (nI (0 + nlen q K M (li - 1 - rw - q - 1))) at0 lk (0 + nlen q K M (li - 1 - rw - q - 1)) hsz (by omega)) (cwV 0 hg (gV gw_606 gw_608 gs_16 gw_7 gw_609) rfl rfl rfl (by decide +kernel) ⟨Nat.le_of_ble_eq_true rfl, Nat.le_of_ble_eq_true rfl⟩) ⟨fun a U g mk q => by obtain ⟨q0, qP, qK⟩ := q; exact ⟨q0, qP, va_K.moved (u := U) (U := U.calling g mk a) (Vm.Alike.refl U.vm) qK⟩, va_recv hKc hPc (ci := 5) (q0 := 0) rfl rfl, fun U hU hW => ⟨rfl, by rw [hU]; exact hPc, va_K.moved hW.alike hKc⟩⟩ rfl rfl hl.1 rfl (lv_room (Nat.le_of_ble_eq_true rfl)) d_M_interrupt_118 (⟨Nat.le_of_ble_eq_true rfl, Nat.le_of_ble_eq_true rfl⟩)) ?_
                  refine tpi (y := 1) (if_pos (by omega)) ?_
                  refine lv_if_eq (tgt := 128) hx hb d_M_interrupt_121 (by decide) (fun c_8 => ?_) (fun c_8 => ?_)
                  · skip
                    exact absurd c_8 (by decide)
                  · skip
                    refine lv_iconst (v := 0) hx hb d_M_interrupt_124 (by decide) ?_
                    refine lv_goto (tgt := 129) hx hb d_M_interrupt_125 (by decide) ?_
                    refine va_put (D := D) (ci := 5) (v := .int 0) (ty := .int) (C := R_M) (T := T_M) (N := 20) hx hb hg in_M ty_M tok_M nm_M hown hK hP hD hS 0 rfl rfl 0 (by decide) (hg _ gw_524) (fun _ h9 => h9) rfl (by decide +kernel) (rfl) (rfl) (Nat.le_of_ble_eq_true rfl) d_M_interrupt_129 (fun H locs hP hD hS => ?_)
                    have hP : va_P D CLS [(y, .inr (5, [.int 0, .int (nI bi), .int (nI ne), .int (nI li), .int (nI sp), .int (nI q), .ref ms, .ref mw, .ref mu, .ref mc, .ref mn, .int en, .int (nI sz), .ref mr, .int (nI wa), .ref mq, .int (nI (0 + nlen q K M (li - 1 - rw - q - 1))), .ref md, .int at0, .int lk])), (mw, .inl (cI, 2, .inl lw)), (mu, .inl (cI, 4, .inl su)), (mc, .inl (cI, 4, .inl cu)), (mn, .inl (cI, 4, .inl nu)), (mr, .inl (cB, 6000, .inl wr)), (md, .inl (cB, 400, .inl (wnum dr q K M (li - 1 - rw - q - 1) 0)))] H := hP
                    have hD : va_D A [(y, .inr (5, [.int 0, .int (nI bi), .int (nI ne), .int (nI li), .int (nI sp), .int (nI q), .ref ms, .ref mw, .ref mu, .ref mc, .ref mn, .int en, .int (nI sz), .ref mr, .int (nI wa), .ref mq, .int (nI (0 + nlen q K M (li - 1 - rw - q - 1))), .ref md, .int at0, .int lk])), (mw, .inl (cI, 2, .inl lw)), (mu, .inl (cI, 4, .inl su)), (mc, .inl (cI, 4, .inl cu)), (mn, .inl (cI, 4, .inl nu)), (mr, .inl (cB, 6000, .inl wr)), (md, .inl (cB, 400, .inl (wnum dr q K M (li - 1 - rw - q - 1) 0)))] := hD
                    refine lv_aload_n hx hb d_M_interrupt_132 rfl (lv_at hl 2 rfl) ?_
                    refine va_get (D := D) (ci := 5) (v := .int 0) (C := R_M) (T := T_M) (N := 20) hx hb hg in_M hown hK hP 0 rfl rfl 0 (by decide) (hg _ gw_524) (fun _ h9 => h9) rfl d_M_interrupt_133 ?_
                    refine lv_if_le (tgt := 141) hx hb d_M_interrupt_136 (by decide) (fun c_9 => ?_) (fun c_9 => ?_)
                    · skip
                      refine lv_aload_n hx hb d_M_interrupt_141 rfl (lv_at hl 2 rfl) ?_
                      refine lv_iload_n hx hb d_M_interrupt_142 rfl (lv_at hl 3 rfl) ?_
                      refine lv_iload_n hx hb d_M_interrupt_143 rfl (lv_at hl 3 rfl) ?_
                      refine lv_iload hx hb d_M_interrupt_144 (lv_at hl 0 rfl) ?_
                      refine lv_iload_n hx hb d_M_interrupt_146 rfl (lv_at hl 4 rfl) ?_
                      have hPc := hP.sub (ws' := [(y, .inr (5, [.int 0, .int (nI bi), .int (nI ne), .int (nI li), .int (nI sp), .int (nI q), .ref ms, .ref mw, .ref mu, .ref mc, .ref mn, .int en, .int (nI sz), .ref mr, .int (nI wa), .ref mq, .int (nI (0 + nlen q K M (li - 1 - rw - q - 1))), .ref md, .int at0, .int lk])), (mu, .inl (cI, 4, .inl su)), (mc, .inl (cI, 4, .inl cu)), (mn, .inl (cI, 4, .inl nu))]) [0, 2, 3, 4] rfl
                      have hDc := hD.sub (ws' := [(y, .inr (5, [.int 0, .int (nI bi), .int (nI ne), .int (nI li), .int (nI sp), .int (nI q), .ref ms, .ref mw, .ref mu, .ref mc, .ref mn, .int en, .int (nI sz), .ref mr, .int (nI wa), .ref mq, .int (nI (0 + nlen q K M (li - 1 - rw - q - 1))), .ref md, .int at0, .int lk])), (mu, .inl (cI, 4, .inl su)), (mc, .inl (cI, 4, .inl cu)), (mn, .inl (cI, 4, .inl nu))]) [0, 2, 3, 4] (by decide) rfl
                      have hKc := hK.sub (tys' := [(cI, .int)]) [1] rfl
                      refine mcv (va_runV (As := [.int 0, .int 0, .int (nI M), .int (-nI n)]) (rest := []) ⟨hx, hb, hml, hown, hg⟩ (c_M_learn0N l D y ms mw mu mc mn mr mq md bi ne li sp q sz wa 0 en (nI (0 + nlen q K M (li - 1 - rw - q - 1))) at0 lk cI su cu nu sm ct ng n M hsu hcu hnu hc0 hn0 hs0 (by omega) (by omega) hn1) (cwV 4 hg (gV gw_646 gw_648 gs_23 gw_7 gw_649) rfl rfl rfl (by decide +kernel) ⟨Nat.le_of_ble_eq_true rfl, Nat.le_of_ble_eq_true rfl⟩) ⟨fun a U g mk q => by obtain ⟨q0, qP, qK, qD⟩ := q; exact ⟨q0, qP, va_K.moved (u := U) (U := U.calling g mk a) (Vm.Alike.refl U.vm) qK, qD⟩, va_recv hKc hPc (ci := 5) (q0 := 0) rfl rfl, fun U hU hW => ⟨rfl, by rw [hU]; exact hPc, va_K.moved hW.alike hKc, hDc.weaken (fun _ _ _ _ => trivial)⟩⟩ rfl rfl hl.1 rfl (lv_room (Nat.le_of_ble_eq_true rfl)) d_M_interrupt_147 (⟨Nat.le_of_ble_eq_true rfl, Nat.le_of_ble_eq_true rfl⟩)) hS hP hD [0, 2, 3, 4] rfl rfl rfl (fun H locs hP hD hS => ?_)
                      have hP : va_P D CLS [(y, .inr (5, [.int 0, .int (nI bi), .int (nI ne), .int (nI li), .int (nI sp), .int (nI q), .ref ms, .ref mw, .ref mu, .ref mc, .ref mn, .int en, .int (nI sz), .ref mr, .int (nI wa), .ref mq, .int (nI (0 + nlen q K M (li - 1 - rw - q - 1))), .ref md, .int at0, .int lk])), (mw, .inl (cI, 2, .inl lw)), (mu, .inl (cI, 4, .inl (upd su 0 (nI (hvd ct (sm + (M + 1 - 0) / 2)))))), (mc, .inl (cI, 4, .inl (upd cu 0 (nI (hvd ct ct + 1))))), (mn, .inl (cI, 4, .inl (upd nu 0 (nI (hvd ct (ng + 1)))))), (mr, .inl (cB, 6000, .inl wr)), (md, .inl (cB, 400, .inl (wnum dr q K M (li - 1 - rw - q - 1) 0)))] H := hP
                      have hD : va_D A [(y, .inr (5, [.int 0, .int (nI bi), .int (nI ne), .int (nI li), .int (nI sp), .int (nI q), .ref ms, .ref mw, .ref mu, .ref mc, .ref mn, .int en, .int (nI sz), .ref mr, .int (nI wa), .ref mq, .int (nI (0 + nlen q K M (li - 1 - rw - q - 1))), .ref md, .int at0, .int lk])), (mw, .inl (cI, 2, .inl lw)), (mu, .inl (cI, 4, .inl (upd su 0 (nI (hvd ct (sm + (M + 1 - 0) / 2)))))), (mc, .inl (cI, 4, .inl (upd cu 0 (nI (hvd ct ct + 1))))), (mn, .inl (cI, 4, .inl (upd nu 0 (nI (hvd ct (ng + 1)))))), (mr, .inl (cB, 6000, .inl wr)), (md, .inl (cB, 400, .inl (wnum dr q K M (li - 1 - rw - q - 1) 0)))] := hD
                      refine lv_aload_n hx hb d_M_interrupt_150 rfl (lv_at hl 2 rfl) ?_
                      have hPc := hP.sub (ws' := [(y, .inr (5, [.int 0, .int (nI bi), .int (nI ne), .int (nI li), .int (nI sp), .int (nI q), .ref ms, .ref mw, .ref mu, .ref mc, .ref mn, .int en, .int (nI sz), .ref mr, .int (nI wa), .ref mq, .int (nI (0 + nlen q K M (li - 1 - rw - q - 1))), .ref md, .int at0, .int lk])), (mr, .inl (cB, 6000, .inl wr)), (md, .inl (cB, 400, .inl (wnum dr q K M (li - 1 - rw - q - 1) 0)))]) [0, 5, 6] rfl
                      have hDc := hD.sub (ws' := [(y, .inr (5, [.int 0, .int (nI bi), .int (nI ne), .int (nI li), .int (nI sp), .int (nI q), .ref ms, .ref mw, .ref mu, .ref mc, .ref mn, .int en, .int (nI sz), .ref mr, .int (nI wa), .ref mq, .int (nI (0 + nlen q K M (li - 1 - rw - q - 1))), .ref md, .int at0, .int lk])), (mr, .inl (cB, 6000, .inl wr)), (md, .inl (cB, 400, .inl (wnum dr q K M (li - 1 - rw - q - 1) 0)))]) [0, 5, 6] (by decide) rfl
                      have hKc := hK.sub (tys' := [(cB, .byte)]) [0] rfl
                      refine mci (va_runV (As := []) (rest := []) ⟨hx, hb, hml, hown, hg⟩ (c_M_write l D y ms mw mu mc mn mr mq md bi ne li sp q sz wa 0 en (nI (0 + nlen q K M (li - 1 - rw - q - 1))) at0 lk cB wr (wnum dr q K M (li - 1 - rw - q - 1) 0) (0 + nlen q K M (li - 1 - rw - q - 1)) (by omega) (by omega) (fun j hj => wnum01 j (Nat.zero_le _) hj)) (cwV 0 hg (gV gw_610 gw_612 gs_17 gw_7 gw_613) rfl rfl rfl (by decide +kernel) ⟨Nat.le_of_ble_eq_true rfl, Nat.le_of_ble_eq_true rfl⟩) ⟨fun a U g mk q => by obtain ⟨q0, qP, qK, qD⟩ := q; exact ⟨q0, qP, va_K.moved (u := U) (U := U.calling g mk a) (Vm.Alike.refl U.vm) qK, qD⟩, va_recv hKc hPc (ci := 5) (q0 := 0) rfl rfl, fun U hU hW => ⟨rfl, by rw [hU]; exact hPc, va_K.moved hW.alike hKc, hDc.weaken (fun _ _ _ _ => trivial)⟩⟩ rfl rfl hl.1 rfl (lv_room (Nat.le_of_ble_eq_true rfl)) d_M_interrupt_151 (⟨Nat.le_of_ble_eq_true rfl, Nat.le_of_ble_eq_true rfl⟩)) hS hP hD [0, 5, 6] rfl rfl rfl (fun H locs hP hD hS => ?_)
                      have hP : va_P D CLS [(y, .inr (5, [.int 0, .int (nI bi), .int (nI ne), .int (nI li), .int (nI sp), .int (nI q), .ref ms, .ref mw, .ref mu, .ref mc, .ref mn, .int en, .int (nI (sz + (0 + nlen q K M (li - 1 - rw - q - 1)))), .ref mr, .int (nI wa), .ref mq, .int (nI (0 + nlen q K M (li - 1 - rw - q - 1))), .ref md, .int at0, .int lk])), (mw, .inl (cI, 2, .inl lw)), (mu, .inl (cI, 4, .inl (upd su 0 (nI (hvd ct (sm + (M + 1 - 0) / 2)))))), (mc, .inl (cI, 4, .inl (upd cu 0 (nI (hvd ct ct + 1))))), (mn, .inl (cI, 4, .inl (upd nu 0 (nI (hvd ct (ng + 1)))))), (mr, .inl (cB, 6000, .inl (cpw wr sz (wnum dr q K M (li - 1 - rw - q - 1) 0) (0 + nlen q K M (li - 1 - rw - q - 1))))), (md, .inl (cB, 400, .inl (wnum dr q K M (li - 1 - rw - q - 1) 0)))] H := hP
                      have hD : va_D A [(y, .inr (5, [.int 0, .int (nI bi), .int (nI ne), .int (nI li), .int (nI sp), .int (nI q), .ref ms, .ref mw, .ref mu, .ref mc, .ref mn, .int en, .int (nI (sz + (0 + nlen q K M (li - 1 - rw - q - 1)))), .ref mr, .int (nI wa), .ref mq, .int (nI (0 + nlen q K M (li - 1 - rw - q - 1))), .ref md, .int at0, .int lk])), (mw, .inl (cI, 2, .inl lw)), (mu, .inl (cI, 4, .inl (upd su 0 (nI (hvd ct (sm + (M + 1 - 0) / 2)))))), (mc, .inl (cI, 4, .inl (upd cu 0 (nI (hvd ct ct + 1))))), (mn, .inl (cI, 4, .inl (upd nu 0 (nI (hvd ct (ng + 1)))))), (mr, .inl (cB, 6000, .inl (cpw wr sz (wnum dr q K M (li - 1 - rw - q - 1) 0) (0 + nlen q K M (li - 1 - rw - q - 1))))), (md, .inl (cB, 400, .inl (wnum dr q K M (li - 1 - rw - q - 1) 0)))] := hD
                      exact W.iret (v := nI (0 + nlen q K M (li - 1 - rw - q - 1))) hx hb hr (fun t ht hW => ⟨rfl, by rw [ht]; exact hP, (hAe ▸ hS).F ht⟩) (hAe ▸ hS).2.2 d_M_interrupt_154
                    · skip
                      exact absurd (by decide) c_9
                · skip
                  exact absurd rfl c_7
            · skip
              exact absurd (by rw [leT, ngT (by omega), zT]; omega) c_5
        · skip
          refine tpi (y := 0) (if_neg hup) ?_
          refine lv_if_eq (tgt := 59) hx hb d_M_interrupt_44 (by decide) (fun c_10 => ?_) (fun c_10 => ?_)
          · skip
            refine lv_iload_n hx hb d_M_interrupt_59 rfl (lv_at hl 2 rfl) ?_
            refine lv_if_ge (tgt := 67) hx hb d_M_interrupt_60 (by decide) (fun c_11 => ?_) (fun c_11 => ?_)
            · skip
              exact absurd c_11 (by rw [leT, ngT (by omega), zT]; omega)
            · skip
              have hfl : (if (K = 0 ∧ 2 * ng < ct) then 0 else 1 : Nat) = 1 := if_neg hup
              refine lv_iconst (v := 1) hx hb d_M_interrupt_63 (by decide) ?_
              refine lv_goto (tgt := 68) hx hb d_M_interrupt_64 (by decide) ?_
              refine lv_istore_n (lv' := [(3, .int 1), (0, .ref y), (1, .int 0), (2, .int (-nI n))]) hx hb d_M_interrupt_68 rfl hl (by decide) rfl (fun ls hl => ?_)
              refine lv_iconst (v := 2) hx hb d_M_interrupt_69 (by decide) ?_
              refine lv_iload_n hx hb d_M_interrupt_70 rfl (lv_at hl 3 rfl) ?_
              refine lv_if_ge (tgt := 79) hx hb d_M_interrupt_71 (by decide) (fun c_12 => ?_) (fun c_12 => ?_)
              · skip
                exact absurd c_12 (by rw [leT, ngT (by omega), zT]; omega)
              · skip
                refine lv_iload_n hx hb d_M_interrupt_74 rfl (lv_at hl 3 rfl) ?_
                refine lv_ineg hx hb d_M_interrupt_75 ?_
                refine lv_goto (tgt := 80) hx hb d_M_interrupt_76 (by decide) ?_
                refine tpi (y := nI n) (Int32.neg_neg) ?_
                refine lv_imul hx hb d_M_interrupt_80 ?_
                refine tpi (y := nI (2 * n)) (mul2 n) ?_
                refine lv_iload_n hx hb d_M_interrupt_81 rfl (lv_at hl 2 rfl) ?_
                refine lv_isub hx hb d_M_interrupt_82 ?_
                refine tpi (y := nI (2 * n - 0)) (pk_sub (b := 0) (by omega)) ?_
                refine lv_iload_n hx hb d_M_interrupt_83 rfl (lv_at hl 0 rfl) ?_
                refine lv_if_eq (tgt := 91) hx hb d_M_interrupt_84 (by decide) (fun c_13 => ?_) (fun c_13 => ?_)
                · skip
                  exact absurd c_13 (by decide)
                · skip
                  refine lv_iconst (v := 1) hx hb d_M_interrupt_87 (by decide) ?_
                  refine lv_goto (tgt := 92) hx hb d_M_interrupt_88 (by decide) ?_
                  refine lv_isub hx hb d_M_interrupt_92 ?_
                  refine tpi (y := nI M) ((pk_sub (b := 1) (by omega)).trans (congrArg nI (by rw [hM, hfl]))) ?_
                  refine lv_istore (lv' := [(4, .int (nI M)), (3, .int 1), (0, .ref y), (1, .int 0), (2, .int (-nI n))]) hx hb d_M_interrupt_93 hl (by decide) rfl (fun ls hl => ?_)
                  refine lv_aload_n hx hb d_M_interrupt_95 rfl (lv_at hl 2 rfl) ?_
                  refine lv_iconst (v := 0) hx hb d_M_interrupt_96 (by decide) ?_
                  refine tpi (y := nI 0) (rfl) ?_
                  refine va_put (D := D) (ci := 5) (v := .int (nI 0)) (ty := .int) (C := R_M) (T := T_M) (N := 20) hx hb hg in_M ty_M tok_M nm_M hown hK hP hD hS 0 rfl rfl 16 (by decide) (hg _ gw_540) (fun _ h9 => h9) rfl (by decide +kernel) (rfl) (rfl) (Nat.le_of_ble_eq_true rfl) d_M_interrupt_97 (fun H locs hP hD hS => ?_)
                  have hP : va_P D CLS [(y, .inr (5, [.int 0, .int (nI bi), .int (nI ne), .int (nI li), .int (nI sp), .int (nI q), .ref ms, .ref mw, .ref mu, .ref mc, .ref mn, .int en, .int (nI sz), .ref mr, .int (nI wa), .ref mq, .int (nI 0), .ref md, .int at0, .int lk])), (mw, .inl (cI, 2, .inl lw)), (mu, .inl (cI, 4, .inl su)), (mc, .inl (cI, 4, .inl cu)), (mn, .inl (cI, 4, .inl nu)), (mr, .inl (cB, 6000, .inl wr)), (md, .inl (cB, 400, .inl dr))] H := hP
                  have hD : va_D A [(y, .inr (5, [.int 0, .int (nI bi), .int (nI ne), .int (nI li), .int (nI sp), .int (nI q), .ref ms, .ref mw, .ref mu, .ref mc, .ref mn, .int en, .int (nI sz), .ref mr, .int (nI wa), .ref mq, .int (nI 0), .ref md, .int at0, .int lk])), (mw, .inl (cI, 2, .inl lw)), (mu, .inl (cI, 4, .inl su)), (mc, .inl (cI, 4, .inl cu)), (mn, .inl (cI, 4, .inl nu)), (mr, .inl (cB, 6000, .inl wr)), (md, .inl (cB, 400, .inl dr))] := hD
                  refine lv_aload_n hx hb d_M_interrupt_100 rfl (lv_at hl 2 rfl) ?_
                  refine lv_iload hx hb d_M_interrupt_101 (lv_at hl 0 rfl) ?_
                  refine lv_aload_n hx hb d_M_interrupt_103 rfl (lv_at hl 2 rfl) ?_
                  refine lv_iload_n hx hb d_M_interrupt_104 rfl (lv_at hl 3 rfl) ?_
                  have hPc := hP.sub (ws' := [(y, .inr (5, [.int 0, .int (nI bi), .int (nI ne), .int (nI li), .int (nI sp), .int (nI q), .ref ms, .ref mw, .ref mu, .ref mc, .ref mn, .int en, .int (nI sz), .ref mr, .int (nI wa), .ref mq, .int (nI 0), .ref md, .int at0, .int lk])), (mu, .inl (cI, 4, .inl su)), (mc, .inl (cI, 4, .inl cu)), (mn, .inl (cI, 4, .inl nu))]) [0, 2, 3, 4] rfl
                  have hKc := hK.sub (tys' := [(cI, .int)]) [1] rfl
                  refine pci (va_runV (As := [.int 0]) (rest := [.int (nI M), .ref y]) ⟨hx, hb, hml, hown, hg⟩ (c_M_kOf0 l D y ms mw mu mc mn mr mq md bi ne li sp q sz wa 0 en (nI 0) at0 lk cI su cu nu sm ct ng K hsu hcu hnu hc0 hn0 (by omega) hKb hK1 hK2) (cwV 1 hg (gV gw_638 gw_640 gs_21 gw_7 gw_641) rfl rfl rfl (by decide +kernel) ⟨Nat.le_of_ble_eq_true rfl, Nat.le_of_ble_eq_true rfl⟩) ⟨fun a U g mk q => by obtain ⟨q0, qP, qK⟩ := q; exact ⟨q0, qP, va_K.moved (u := U) (U := U.calling g mk a) (Vm.Alike.refl U.vm) qK⟩, va_recv hKc hPc (ci := 5) (q0 := 0) rfl rfl, fun U hU hW => ⟨rfl, by rw [hU]; exact hPc, va_K.moved hW.alike hKc⟩⟩ rfl rfl hl.1 rfl (lv_room (Nat.le_of_ble_eq_true rfl)) d_M_interrupt_105 (⟨Nat.le_of_ble_eq_true rfl, Nat.le_of_ble_eq_true rfl⟩)) ?_
                  refine lv_aload_n hx hb d_M_interrupt_108 rfl (lv_at hl 2 rfl) ?_
                  refine lv_iconst (v := 0) hx hb d_M_interrupt_109 (by decide) ?_
                  have hPc := hP.sub (ws' := [(y, .inr (5, [.int 0, .int (nI bi), .int (nI ne), .int (nI li), .int (nI sp), .int (nI q), .ref ms, .ref mw, .ref mu, .ref mc, .ref mn, .int en, .int (nI sz), .ref mr, .int (nI wa), .ref mq, .int (nI 0), .ref md, .int at0, .int lk])), (mw, .inl (cI, 2, .inl lw))]) [0, 1] rfl
                  have hKc := hK.sub (tys' := [(cI, .int)]) [1] rfl
                  refine pci (va_runV (As := [.int 0]) (rest := [.int (nI K), .int (nI M), .ref y]) ⟨hx, hb, hml, hown, hg⟩ (c_M_limitFor0 l D y ms mw mu mc mn mr mq md bi ne li sp q sz wa 0 en (nI 0) at0 lk cI lw rw hlw (by omega)) (cwV 1 hg (gV gw_642 gw_644 gs_22 gw_7 gw_645) rfl rfl rfl (by decide +kernel) ⟨Nat.le_of_ble_eq_true rfl, Nat.le_of_ble_eq_true rfl⟩) ⟨fun a U g mk q => by obtain ⟨q0, qP, qK⟩ := q; exact ⟨q0, qP, va_K.moved (u := U) (U := U.calling g mk a) (Vm.Alike.refl U.vm) qK⟩, va_recv hKc hPc (ci := 5) (q0 := 0) rfl rfl, fun U hU hW => ⟨rfl, by rw [hU]; exact hPc, va_K.moved hW.alike hKc⟩⟩ rfl rfl hl.1 rfl (lv_room (Nat.le_of_ble_eq_true rfl)) d_M_interrupt_110 (⟨Nat.le_of_ble_eq_true rfl, Nat.le_of_ble_eq_true rfl⟩)) ?_
                  have hPc := hP.sub (ws' := [(y, .inr (5, [.int 0, .int (nI bi), .int (nI ne), .int (nI li), .int (nI sp), .int (nI q), .ref ms, .ref mw, .ref mu, .ref mc, .ref mn, .int en, .int (nI sz), .ref mr, .int (nI wa), .ref mq, .int (nI 0), .ref md, .int at0, .int lk])), (md, .inl (cB, 400, .inl dr))]) [0, 6] rfl
                  have hDc := hD.sub (ws' := [(y, .inr (5, [.int 0, .int (nI bi), .int (nI ne), .int (nI li), .int (nI sp), .int (nI q), .ref ms, .ref mw, .ref mu, .ref mc, .ref mn, .int en, .int (nI sz), .ref mr, .int (nI wa), .ref mq, .int (nI 0), .ref md, .int at0, .int lk])), (md, .inl (cB, 400, .inl dr))]) [0, 6] (by decide) rfl
                  have hKc := hK.sub (tys' := [(cB, .byte)]) [0] rfl
                  refine mcv (va_runV (As := [.int (nI M), .int (nI K), .int (nI (li - 1 - rw))]) (rest := []) ⟨hx, hb, hml, hown, hg⟩ (c_M_layNumber l D y ms mw mu mc mn mr mq md bi ne li sp q sz wa 0 en (nI 0) at0 lk cB dr 0 M K (li - 1 - rw) (by omega) (by omega) (by omega) (by omega) (by omega) (by omega)) (cwV 3 hg (gV gw_594 gw_596 gs_13 gw_7 gw_597) rfl rfl rfl (by decide +kernel) ⟨Nat.le_of_ble_eq_true rfl, Nat.le_of_ble_eq_true rfl⟩) ⟨fun a U g mk q => by obtain ⟨q0, qP, qK, qD⟩ := q; exact ⟨q0, qP, va_K.moved (u := U) (U := U.calling g mk a) (Vm.Alike.refl U.vm) qK, qD⟩, va_recv hKc hPc (ci := 5) (q0 := 0) rfl rfl, fun U hU hW => ⟨rfl, by rw [hU]; exact hPc, va_K.moved hW.alike hKc, hDc.weaken (fun _ _ _ _ => trivial)⟩⟩ rfl rfl hl.1 rfl (lv_room (Nat.le_of_ble_eq_true rfl)) d_M_interrupt_113 (⟨Nat.le_of_ble_eq_true rfl, Nat.le_of_ble_eq_true rfl⟩)) hS hP hD [0, 6] rfl rfl rfl (fun H locs hP hD hS => ?_)
                  have hP : va_P D CLS [(y, .inr (5, [.int 0, .int (nI bi), .int (nI ne), .int (nI li), .int (nI sp), .int (nI q), .ref ms, .ref mw, .ref mu, .ref mc, .ref mn, .int en, .int (nI sz), .ref mr, .int (nI wa), .ref mq, .int (nI (0 + nlen q K M (li - 1 - rw - q - 1))), .ref md, .int at0, .int lk])), (mw, .inl (cI, 2, .inl lw)), (mu, .inl (cI, 4, .inl su)), (mc, .inl (cI, 4, .inl cu)), (mn, .inl (cI, 4, .inl nu)), (mr, .inl (cB, 6000, .inl wr)), (md, .inl (cB, 400, .inl (wnum dr q K M (li - 1 - rw - q - 1) 0)))] H := hP
                  have hD : va_D A [(y, .inr (5, [.int 0, .int (nI bi), .int (nI ne), .int (nI li), .int (nI sp), .int (nI q), .ref ms, .ref mw, .ref mu, .ref mc, .ref mn, .int en, .int (nI sz), .ref mr, .int (nI wa), .ref mq, .int (nI (0 + nlen q K M (li - 1 - rw - q - 1))), .ref md, .int at0, .int lk])), (mw, .inl (cI, 2, .inl lw)), (mu, .inl (cI, 4, .inl su)), (mc, .inl (cI, 4, .inl cu)), (mn, .inl (cI, 4, .inl nu)), (mr, .inl (cB, 6000, .inl wr)), (md, .inl (cB, 400, .inl (wnum dr q K M (li - 1 - rw - q - 1) 0)))] := hD
                  refine lv_aload_n hx hb d_M_interrupt_116 rfl (lv_at hl 2 rfl) ?_
                  refine lv_aload_n hx hb d_M_interrupt_117 rfl (lv_at hl 2 rfl) ?_
                  have hPc := hP.sub (ws' := [(y, .inr (5, [.int 0, .int (nI bi), .int (nI ne), .int (nI li), .int (nI sp), .int (nI q), .ref ms, .ref mw, .ref mu, .ref mc, .ref mn, .int en, .int (nI sz), .ref mr, .int (nI wa), .ref mq, .int (nI (0 + nlen q K M (li - 1 - rw - q - 1))), .ref md, .int at0, .int lk]))]) [0] rfl
                  have hKc := hK.sub (tys' := []) [] rfl
                  refine pci (va_runV (As := []) (rest := [.ref y]) ⟨hx, hb, hml, hown, hg⟩ (c_M_hasRoom l D y ms mw mu mc mn mr mq md bi ne li sp q sz wa 0 en (nI (0 + nlen q K M (li - 1 - rw - q - 1))) at0 lk (0 + nlen q K M (li - 1 - rw - q - 1)) hsz (by omega)) (cwV 0 hg (gV gw_606 gw_608 gs_16 gw_7 gw_609) rfl rfl rfl (by decide +kernel) ⟨Nat.le_of_ble_eq_true rfl, Nat.le_of_ble_eq_true rfl⟩) ⟨fun a U g mk q => by obtain ⟨q0, qP, qK⟩ := q; exact ⟨q0, qP, va_K.moved (u := U) (U := U.calling g mk a) (Vm.Alike.refl U.vm) qK⟩, va_recv hKc hPc (ci := 5) (q0 := 0) rfl rfl, fun U hU hW => ⟨rfl, by rw [hU]; exact hPc, va_K.moved hW.alike hKc⟩⟩ rfl rfl hl.1 rfl (lv_room (Nat.le_of_ble_eq_true rfl)) d_M_interrupt_118 (⟨Nat.le_of_ble_eq_true rfl, Nat.le_of_ble_eq_true rfl⟩)) ?_
                  refine tpi (y := 1) (if_pos (by omega)) ?_
                  refine lv_if_eq (tgt := 128) hx hb d_M_interrupt_121 (by decide) (fun c_14 => ?_) (fun c_14 => ?_)
                  · skip
                    exact absurd c_14 (by decide)
                  · skip
                    refine lv_iconst (v := 0) hx hb d_M_interrupt_124 (by decide) ?_
                    refine lv_goto (tgt := 129) hx hb d_M_interrupt_125 (by decide) ?_
                    refine va_put (D := D) (ci := 5) (v := .int 0) (ty := .int) (C := R_M) (T := T_M) (N := 20) hx hb hg in_M ty_M tok_M nm_M hown hK hP hD hS 0 rfl rfl 0 (by decide) (hg _ gw_524) (fun _ h9 => h9) rfl (by decide +kernel) (rfl) (rfl) (Nat.le_of_ble_eq_true rfl) d_M_interrupt_129 (fun H locs hP hD hS => ?_)
                    have hP : va_P D CLS [(y, .inr (5, [.int 0, .int (nI bi), .int (nI ne), .int (nI li), .int (nI sp), .int (nI q), .ref ms, .ref mw, .ref mu, .ref mc, .ref mn, .int en, .int (nI sz), .ref mr, .int (nI wa), .ref mq, .int (nI (0 + nlen q K M (li - 1 - rw - q - 1))), .ref md, .int at0, .int lk])), (mw, .inl (cI, 2, .inl lw)), (mu, .inl (cI, 4, .inl su)), (mc, .inl (cI, 4, .inl cu)), (mn, .inl (cI, 4, .inl nu)), (mr, .inl (cB, 6000, .inl wr)), (md, .inl (cB, 400, .inl (wnum dr q K M (li - 1 - rw - q - 1) 0)))] H := hP
                    have hD : va_D A [(y, .inr (5, [.int 0, .int (nI bi), .int (nI ne), .int (nI li), .int (nI sp), .int (nI q), .ref ms, .ref mw, .ref mu, .ref mc, .ref mn, .int en, .int (nI sz), .ref mr, .int (nI wa), .ref mq, .int (nI (0 + nlen q K M (li - 1 - rw - q - 1))), .ref md, .int at0, .int lk])), (mw, .inl (cI, 2, .inl lw)), (mu, .inl (cI, 4, .inl su)), (mc, .inl (cI, 4, .inl cu)), (mn, .inl (cI, 4, .inl nu)), (mr, .inl (cB, 6000, .inl wr)), (md, .inl (cB, 400, .inl (wnum dr q K M (li - 1 - rw - q - 1) 0)))] := hD
                    refine lv_aload_n hx hb d_M_interrupt_132 rfl (lv_at hl 2 rfl) ?_
                    refine va_get (D := D) (ci := 5) (v := .int 0) (C := R_M) (T := T_M) (N := 20) hx hb hg in_M hown hK hP 0 rfl rfl 0 (by decide) (hg _ gw_524) (fun _ h9 => h9) rfl d_M_interrupt_133 ?_
                    refine lv_if_le (tgt := 141) hx hb d_M_interrupt_136 (by decide) (fun c_15 => ?_) (fun c_15 => ?_)
                    · skip
                      refine lv_aload_n hx hb d_M_interrupt_141 rfl (lv_at hl 2 rfl) ?_
                      refine lv_iload_n hx hb d_M_interrupt_142 rfl (lv_at hl 3 rfl) ?_
                      refine lv_iload_n hx hb d_M_interrupt_143 rfl (lv_at hl 3 rfl) ?_
                      refine lv_iload hx hb d_M_interrupt_144 (lv_at hl 0 rfl) ?_
                      refine lv_iload_n hx hb d_M_interrupt_146 rfl (lv_at hl 4 rfl) ?_
                      have hPc := hP.sub (ws' := [(y, .inr (5, [.int 0, .int (nI bi), .int (nI ne), .int (nI li), .int (nI sp), .int (nI q), .ref ms, .ref mw, .ref mu, .ref mc, .ref mn, .int en, .int (nI sz), .ref mr, .int (nI wa), .ref mq, .int (nI (0 + nlen q K M (li - 1 - rw - q - 1))), .ref md, .int at0, .int lk])), (mu, .inl (cI, 4, .inl su)), (mc, .inl (cI, 4, .inl cu)), (mn, .inl (cI, 4, .inl nu))]) [0, 2, 3, 4] rfl
                      have hDc := hD.sub (ws' := [(y, .inr (5, [.int 0, .int (nI bi), .int (nI ne), .int (nI li), .int (nI sp), .int (nI q), .ref ms, .ref mw, .ref mu, .ref mc, .ref mn, .int en, .int (nI sz), .ref mr, .int (nI wa), .ref mq, .int (nI (0 + nlen q K M (li - 1 - rw - q - 1))), .ref md, .int at0, .int lk])), (mu, .inl (cI, 4, .inl su)), (mc, .inl (cI, 4, .inl cu)), (mn, .inl (cI, 4, .inl nu))]) [0, 2, 3, 4] (by decide) rfl
                      have hKc := hK.sub (tys' := [(cI, .int)]) [1] rfl
                      refine mcv (va_runV (As := [.int 0, .int 0, .int (nI M), .int (-nI n)]) (rest := []) ⟨hx, hb, hml, hown, hg⟩ (c_M_learn0N l D y ms mw mu mc mn mr mq md bi ne li sp q sz wa 0 en (nI (0 + nlen q K M (li - 1 - rw - q - 1))) at0 lk cI su cu nu sm ct ng n M hsu hcu hnu hc0 hn0 hs0 (by omega) (by omega) hn1) (cwV 4 hg (gV gw_646 gw_648 gs_23 gw_7 gw_649) rfl rfl rfl (by decide +kernel) ⟨Nat.le_of_ble_eq_true rfl, Nat.le_of_ble_eq_true rfl⟩) ⟨fun a U g mk q => by obtain ⟨q0, qP, qK, qD⟩ := q; exact ⟨q0, qP, va_K.moved (u := U) (U := U.calling g mk a) (Vm.Alike.refl U.vm) qK, qD⟩, va_recv hKc hPc (ci := 5) (q0 := 0) rfl rfl, fun U hU hW => ⟨rfl, by rw [hU]; exact hPc, va_K.moved hW.alike hKc, hDc.weaken (fun _ _ _ _ => trivial)⟩⟩ rfl rfl hl.1 rfl (lv_room (Nat.le_of_ble_eq_true rfl)) d_M_interrupt_147 (⟨Nat.le_of_ble_eq_true rfl, Nat.le_of_ble_eq_true rfl⟩)) hS hP hD [0, 2, 3, 4] rfl rfl rfl (fun H locs hP hD hS => ?_)
                      have hP : va_P D CLS [(y, .inr (5, [.int 0, .int (nI bi), .int (nI ne), .int (nI li), .int (nI sp), .int (nI q), .ref ms, .ref mw, .ref mu, .ref mc, .ref mn, .int en, .int (nI sz), .ref mr, .int (nI wa), .ref mq, .int (nI (0 + nlen q K M (li - 1 - rw - q - 1))), .ref md, .int at0, .int lk])), (mw, .inl (cI, 2, .inl lw)), (mu, .inl (cI, 4, .inl (upd su 0 (nI (hvd ct (sm + (M + 1 - 0) / 2)))))), (mc, .inl (cI, 4, .inl (upd cu 0 (nI (hvd ct ct + 1))))), (mn, .inl (cI, 4, .inl (upd nu 0 (nI (hvd ct (ng + 1)))))), (mr, .inl (cB, 6000, .inl wr)), (md, .inl (cB, 400, .inl (wnum dr q K M (li - 1 - rw - q - 1) 0)))] H := hP
                      have hD : va_D A [(y, .inr (5, [.int 0, .int (nI bi), .int (nI ne), .int (nI li), .int (nI sp), .int (nI q), .ref ms, .ref mw, .ref mu, .ref mc, .ref mn, .int en, .int (nI sz), .ref mr, .int (nI wa), .ref mq, .int (nI (0 + nlen q K M (li - 1 - rw - q - 1))), .ref md, .int at0, .int lk])), (mw, .inl (cI, 2, .inl lw)), (mu, .inl (cI, 4, .inl (upd su 0 (nI (hvd ct (sm + (M + 1 - 0) / 2)))))), (mc, .inl (cI, 4, .inl (upd cu 0 (nI (hvd ct ct + 1))))), (mn, .inl (cI, 4, .inl (upd nu 0 (nI (hvd ct (ng + 1)))))), (mr, .inl (cB, 6000, .inl wr)), (md, .inl (cB, 400, .inl (wnum dr q K M (li - 1 - rw - q - 1) 0)))] := hD
                      refine lv_aload_n hx hb d_M_interrupt_150 rfl (lv_at hl 2 rfl) ?_
                      have hPc := hP.sub (ws' := [(y, .inr (5, [.int 0, .int (nI bi), .int (nI ne), .int (nI li), .int (nI sp), .int (nI q), .ref ms, .ref mw, .ref mu, .ref mc, .ref mn, .int en, .int (nI sz), .ref mr, .int (nI wa), .ref mq, .int (nI (0 + nlen q K M (li - 1 - rw - q - 1))), .ref md, .int at0, .int lk])), (mr, .inl (cB, 6000, .inl wr)), (md, .inl (cB, 400, .inl (wnum dr q K M (li - 1 - rw - q - 1) 0)))]) [0, 5, 6] rfl
                      have hDc := hD.sub (ws' := [(y, .inr (5, [.int 0, .int (nI bi), .int (nI ne), .int (nI li), .int (nI sp), .int (nI q), .ref ms, .ref mw, .ref mu, .ref mc, .ref mn, .int en, .int (nI sz), .ref mr, .int (nI wa), .ref mq, .int (nI (0 + nlen q K M (li - 1 - rw - q - 1))), .ref md, .int at0, .int lk])), (mr, .inl (cB, 6000, .inl wr)), (md, .inl (cB, 400, .inl (wnum dr q K M (li - 1 - rw - q - 1) 0)))]) [0, 5, 6] (by decide) rfl
                      have hKc := hK.sub (tys' := [(cB, .byte)]) [0] rfl
                      refine mci (va_runV (As := []) (rest := []) ⟨hx, hb, hml, hown, hg⟩ (c_M_write l D y ms mw mu mc mn mr mq md bi ne li sp q sz wa 0 en (nI (0 + nlen q K M (li - 1 - rw - q - 1))) at0 lk cB wr (wnum dr q K M (li - 1 - rw - q - 1) 0) (0 + nlen q K M (li - 1 - rw - q - 1)) (by omega) (by omega) (fun j hj => wnum01 j (Nat.zero_le _) hj)) (cwV 0 hg (gV gw_610 gw_612 gs_17 gw_7 gw_613) rfl rfl rfl (by decide +kernel) ⟨Nat.le_of_ble_eq_true rfl, Nat.le_of_ble_eq_true rfl⟩) ⟨fun a U g mk q => by obtain ⟨q0, qP, qK, qD⟩ := q; exact ⟨q0, qP, va_K.moved (u := U) (U := U.calling g mk a) (Vm.Alike.refl U.vm) qK, qD⟩, va_recv hKc hPc (ci := 5) (q0 := 0) rfl rfl, fun U hU hW => ⟨rfl, by rw [hU]; exact hPc, va_K.moved hW.alike hKc, hDc.weaken (fun _ _ _ _ => trivial)⟩⟩ rfl rfl hl.1 rfl (lv_room (Nat.le_of_ble_eq_true rfl)) d_M_interrupt_151 (⟨Nat.le_of_ble_eq_true rfl, Nat.le_of_ble_eq_true rfl⟩)) hS hP hD [0, 5, 6] rfl rfl rfl (fun H locs hP hD hS => ?_)
                      have hP : va_P D CLS [(y, .inr (5, [.int 0, .int (nI bi), .int (nI ne), .int (nI li), .int (nI sp), .int (nI q), .ref ms, .ref mw, .ref mu, .ref mc, .ref mn, .int en, .int (nI (sz + (0 + nlen q K M (li - 1 - rw - q - 1)))), .ref mr, .int (nI wa), .ref mq, .int (nI (0 + nlen q K M (li - 1 - rw - q - 1))), .ref md, .int at0, .int lk])), (mw, .inl (cI, 2, .inl lw)), (mu, .inl (cI, 4, .inl (upd su 0 (nI (hvd ct (sm + (M + 1 - 0) / 2)))))), (mc, .inl (cI, 4, .inl (upd cu 0 (nI (hvd ct ct + 1))))), (mn, .inl (cI, 4, .inl (upd nu 0 (nI (hvd ct (ng + 1)))))), (mr, .inl (cB, 6000, .inl (cpw wr sz (wnum dr q K M (li - 1 - rw - q - 1) 0) (0 + nlen q K M (li - 1 - rw - q - 1))))), (md, .inl (cB, 400, .inl (wnum dr q K M (li - 1 - rw - q - 1) 0)))] H := hP
                      have hD : va_D A [(y, .inr (5, [.int 0, .int (nI bi), .int (nI ne), .int (nI li), .int (nI sp), .int (nI q), .ref ms, .ref mw, .ref mu, .ref mc, .ref mn, .int en, .int (nI (sz + (0 + nlen q K M (li - 1 - rw - q - 1)))), .ref mr, .int (nI wa), .ref mq, .int (nI (0 + nlen q K M (li - 1 - rw - q - 1))), .ref md, .int at0, .int lk])), (mw, .inl (cI, 2, .inl lw)), (mu, .inl (cI, 4, .inl (upd su 0 (nI (hvd ct (sm + (M + 1 - 0) / 2)))))), (mc, .inl (cI, 4, .inl (upd cu 0 (nI (hvd ct ct + 1))))), (mn, .inl (cI, 4, .inl (upd nu 0 (nI (hvd ct (ng + 1)))))), (mr, .inl (cB, 6000, .inl (cpw wr sz (wnum dr q K M (li - 1 - rw - q - 1) 0) (0 + nlen q K M (li - 1 - rw - q - 1))))), (md, .inl (cB, 400, .inl (wnum dr q K M (li - 1 - rw - q - 1) 0)))] := hD
                      exact W.iret (v := nI (0 + nlen q K M (li - 1 - rw - q - 1))) hx hb hr (fun t ht hW => ⟨rfl, by rw [ht]; exact hP, (hAe ▸ hS).F ht⟩) (hAe ▸ hS).2.2 d_M_interrupt_154
                    · skip
                      exact absurd (by decide) c_15
          · skip
            exact absurd rfl c_10
      · skip
        exact absurd (by decide) c_3
    · skip
      exact absurd c_2 (by decide)
  · skip
    exact absurd c_1 (by decide)
set_option maxHeartbeats 4000000 in
set_option maxRecDepth 100000 in
theorem c_M_interrupt0NU (l : Launch) (D : va_G) (y ms mw mu mc mn mr mq md bi ne li sp q sz wa : Nat) (th en la at0 lk : Int32) (cB cI : ClassId) (lw su cu nu wr dr : Nat → Int32) (rw sm ct ng n K M : Nat) (hlw : lw 0 = nI rw) (hsu : su 0 = nI sm) (hcu : cu 0 = nI ct) (hnu : nu 0 = nI ng) (hc0 : ct ≤ 64) (hn0 : ng ≤ 64) (hs0 : sm < 2 ^ 29) (hKb : K ≤ 29) (hK1 : sm ≤ ct * 2 ^ K) (hK2 : ∀ j, j < K → ct * 2 ^ j < sm) (hsp : sp ≤ 65536) (hn : n ≤ sp / 2) (hn1 : 0 < n) (hM : M = 2 * n - 0 - (if (K = 0 ∧ 2 * ng < ct) then 0 else 1)) (hq : q ≤ 29) (hli : q + 18 ≤ li) (hlb : li ≤ 200) (hrw : rw ≤ 15) (hsz : sz ≤ 6000) (hu : ¬ sz + nlen q K M (li - 1 - rw - q - 1) ≤ 6000) : Met l y_M_interrupt (WSY y_M_interrupt b_M_interrupt 5 (some .int)) ({ frames := 3, cells := 0, slots := 0, locals := 72 }) (va_Pc [.ref y, .int 0, .int (-nI n)] (fun U => va_P D CLS [(y, .inr (5, [.int th, .int (nI bi), .int (nI ne), .int (nI li), .int (nI sp), .int (nI q), .ref ms, .ref mw, .ref mu, .ref mc, .ref mn, .int en, .int (nI sz), .ref mr, .int (nI wa), .ref mq, .int la, .ref md, .int at0, .int lk])), (mw, .inl (cI, 2, .inl lw)), (mu, .inl (cI, 4, .inl su)), (mc, .inl (cI, 4, .inl cu)), (mn, .inl (cI, 4, .inl nu)), (mr, .inl (cB, 6000, .inl wr)), (md, .inl (cB, 400, .inl dr))] U.heap ∧ va_K D CLS [(cB, .byte), (cI, .int)] U ∧ va_D (fun _ => True) [(y, .inr (5, [.int th, .int (nI bi), .int (nI ne), .int (nI li), .int (nI sp), .int (nI q), .ref ms, .ref mw, .ref mu, .ref mc, .ref mn, .int en, .int (nI sz), .ref mr, .int (nI wa), .ref mq, .int la, .ref md, .int at0, .int lk])), (mw, .inl (cI, 2, .inl lw)), (mu, .inl (cI, 4, .inl su)), (mc, .inl (cI, 4, .inl cu)), (mn, .inl (cI, 4, .inl nu)), (mr, .inl (cB, 6000, .inl wr)), (md, .inl (cB, 400, .inl dr))])) (QM (some (.int (0))) [(y, .inr (5, [.int th, .int (nI bi), .int (nI ne), .int (nI li), .int (nI sp), .int (nI q), .ref ms, .ref mw, .ref mu, .ref mc, .ref mn, .int en, .int (nI sz), .ref mr, .int (nI wa), .ref mq, .int la, .ref md, .int at0, .int lk])), (mw, .inl (cI, 2, .inl lw)), (mu, .inl (cI, 4, .inl su)), (mc, .inl (cI, 4, .inl cu)), (mn, .inl (cI, 4, .inl nu)), (mr, .inl (cB, 6000, .inl wr)), (md, .inl (cB, 400, .inl dr))] [(y, .inr (5, [.int 3, .int (nI bi), .int (nI ne), .int (nI li), .int (nI sp), .int (nI q), .ref ms, .ref mw, .ref mu, .ref mc, .ref mn, .int en, .int (nI sz), .ref mr, .int (nI wa), .ref mq, .int (nI (0 + nlen q K M (li - 1 - rw - q - 1))), .ref md, .int at0, .int lk])), (mw, .inl (cI, 2, .inl lw)), (mu, .inl (cI, 4, .inl su)), (mc, .inl (cI, 4, .inl cu)), (mn, .inl (cI, 4, .inl nu)), (mr, .inl (cB, 6000, .inl wr)), (md, .inl (cB, 400, .inl (wnum dr q K M (li - 1 - rw - q - 1) 0)))] D) 0 0 (ad [(y, .inr (5, [.int th, .int (nI bi), .int (nI ne), .int (nI li), .int (nI sp), .int (nI q), .ref ms, .ref mw, .ref mu, .ref mc, .ref mn, .int en, .int (nI sz), .ref mr, .int (nI wa), .ref mq, .int la, .ref md, .int at0, .int lk])), (mw, .inl (cI, 2, .inl lw)), (mu, .inl (cI, 4, .inl su)), (mc, .inl (cI, 4, .inl cu)), (mn, .inl (cI, 4, .inl nu)), (mr, .inl (cB, 6000, .inl wr)), (md, .inl (cB, 400, .inl dr))]) := by
  refine Met.ofW (cc := b_M_interrupt) (maxL := 5) (ret := (some .int)) (by decide) rfl ?_
  intro p e s m args below meth c s₁ B hml hv
  obtain ⟨rfl, hP, hK, hD0⟩ := hv
  have hx := B.exec
  have hb := B.bytes
  have hr := B.returns
  have hts := atoms_spec (ws := WSY y_M_interrupt b_M_interrupt 5 (some .int)) B.pre
  have hg : ∀ w ∈ GW, w.before _ s = true := fun w h => hts w (List.mem_cons_of_mem _ h)
  have hown : s.vm.findClass "LineGolombModel" = some m.cls := findClass_of_methodNamed B.named
  have hlocks := B.notSynchronized
  obtain ⟨A, hAe⟩ : ∃ A, A = ad [(y, .inr (5, [.int th, .int (nI bi), .int (nI ne), .int (nI li), .int (nI sp), .int (nI q), .ref ms, .ref mw, .ref mu, .ref mc, .ref mn, .int en, .int (nI sz), .ref mr, .int (nI wa), .ref mq, .int la, .ref md, .int at0, .int lk])), (mw, .inl (cI, 2, .inl lw)), (mu, .inl (cI, 4, .inl su)), (mc, .inl (cI, 4, .inl cu)), (mn, .inl (cI, 4, .inl nu)), (mr, .inl (cB, 6000, .inl wr)), (md, .inl (cB, 400, .inl dr))] := ⟨_, rfl⟩
  have hD : va_D A [(y, .inr (5, [.int th, .int (nI bi), .int (nI ne), .int (nI li), .int (nI sp), .int (nI q), .ref ms, .ref mw, .ref mu, .ref mc, .ref mn, .int en, .int (nI sz), .ref mr, .int (nI wa), .ref mq, .int la, .ref md, .int at0, .int lk])), (mw, .inl (cI, 2, .inl lw)), (mu, .inl (cI, 4, .inl su)), (mc, .inl (cI, 4, .inl cu)), (mn, .inl (cI, 4, .inl nu)), (mr, .inl (cB, 6000, .inl wr)), (md, .inl (cB, 400, .inl dr))] := by rw [hAe]; exact va_D_ad hD0
  have hS : va_S A s.heap s.heap [] := va_S.rf
  have hl := lv_entry ([.ref y, .int 0, .int (-nI n)]) (n := 5) (Nat.le_of_ble_eq_true rfl)
  rw [lg_entry_eq]
  generalize (lg_sl ([.ref y, .int 0, .int (-nI n)]) ++ List.replicate (5 - (lg_sl ([.ref y, .int 0, .int (-nI n)])).length) Slot.unset).toArray = ls at hl ⊢
  have hl : lv_has ls 5 [(0, .ref y), (1, .int 0), (2, .int (-nI n))] := hl
  have hMb : M ≤ 2 * n := by rw [hM]; omega
  have hlen : nlen q K M (li - 1 - rw - q - 1) ≤ 400 := by unfold nlen; split <;> omega
  refine lv_aload_n hx hb d_M_interrupt_0 rfl (lv_at hl 0 rfl) ?_
  refine lv_aload_n hx hb d_M_interrupt_1 rfl (lv_at hl 0 rfl) ?_
  refine lv_iload_n hx hb d_M_interrupt_2 rfl (lv_at hl 1 rfl) ?_
  have hPc := hP.sub (ws' := [(y, .inr (5, [.int th, .int (nI bi), .int (nI ne), .int (nI li), .int (nI sp), .int (nI q), .ref ms, .ref mw, .ref mu, .ref mc, .ref mn, .int en, .int (nI sz), .ref mr, .int (nI wa), .ref mq, .int la, .ref md, .int at0, .int lk]))]) [0] rfl
  have hKc := hK.sub (tys' := []) [] rfl
  refine pci (va_runV (As := [.int 0]) (rest := [.ref y]) ⟨hx, hb, hml, hown, hg⟩ (c_M_isKind l D y ms mw mu mc mn mr mq md bi ne li sp q sz wa th en la at0 lk 0) (cwV 1 hg (gV gw_626 gw_628 gs_18 gw_7 gw_629) rfl rfl rfl (by decide +kernel) ⟨Nat.le_of_ble_eq_true rfl, Nat.le_of_ble_eq_true rfl⟩) ⟨fun a U g mk q => by obtain ⟨q0, qP, qK⟩ := q; exact ⟨q0, qP, va_K.moved (u := U) (U := U.calling g mk a) (Vm.Alike.refl U.vm) qK⟩, va_recv hKc hPc (ci := 5) (q0 := 0) rfl rfl, fun U hU hW => ⟨rfl, by rw [hU]; exact hPc, va_K.moved hW.alike hKc⟩⟩ rfl rfl hl.1 rfl (lv_room (Nat.le_of_ble_eq_true rfl)) d_M_interrupt_3 (⟨Nat.le_of_ble_eq_true rfl, Nat.le_of_ble_eq_true rfl⟩)) ?_
  refine tpi (y := 1) (by decide) ?_
  refine lv_if_ne (tgt := 13) hx hb d_M_interrupt_6 (by decide) (fun c_1 => ?_) (fun c_1 => ?_)
  · skip
    refine lv_aload_n hx hb d_M_interrupt_13 rfl (lv_at hl 0 rfl) ?_
    refine lv_iload_n hx hb d_M_interrupt_14 rfl (lv_at hl 1 rfl) ?_
    refine lv_iload_n hx hb d_M_interrupt_15 rfl (lv_at hl 2 rfl) ?_
    have hPc := hP.sub (ws' := [(y, .inr (5, [.int th, .int (nI bi), .int (nI ne), .int (nI li), .int (nI sp), .int (nI q), .ref ms, .ref mw, .ref mu, .ref mc, .ref mn, .int en, .int (nI sz), .ref mr, .int (nI wa), .ref mq, .int la, .ref md, .int at0, .int lk]))]) [0] rfl
    have hKc := hK.sub (tys' := []) [] rfl
    refine pci (va_runV (As := [.int 0, .int (-nI n)]) (rest := [.ref y]) ⟨hx, hb, hml, hown, hg⟩ (c_M_isError l D y ms mw mu mc mn mr mq md bi ne li sp q sz wa th en la at0 lk 0 (-nI n) (by omega)) (cwV 2 hg (gV gw_630 gw_632 gs_19 gw_7 gw_633) rfl rfl rfl (by decide +kernel) ⟨Nat.le_of_ble_eq_true rfl, Nat.le_of_ble_eq_true rfl⟩) ⟨fun a U g mk q => by obtain ⟨q0, qP, qK⟩ := q; exact ⟨q0, qP, va_K.moved (u := U) (U := U.calling g mk a) (Vm.Alike.refl U.vm) qK⟩, va_recv hKc hPc (ci := 5) (q0 := 0) rfl rfl, fun U hU hW => ⟨rfl, by rw [hU]; exact hPc, va_K.moved hW.alike hKc⟩⟩ rfl rfl hl.1 rfl (lv_room (Nat.le_of_ble_eq_true rfl)) d_M_interrupt_16 (⟨Nat.le_of_ble_eq_true rfl, Nat.le_of_ble_eq_true rfl⟩)) ?_
    refine tpi (y := 1) (if_pos ⟨by rw [ngT (by omega)]; omega, by rw [ngT (by omega)]; omega, Or.inr rfl⟩) ?_
    refine lv_if_ne (tgt := 26) hx hb d_M_interrupt_19 (by decide) (fun c_2 => ?_) (fun c_2 => ?_)
    · skip
      refine lv_iconst (v := 0) hx hb d_M_interrupt_26 (by decide) ?_
      refine va_put (D := D) (ci := 5) (v := .int 0) (ty := .int) (C := R_M) (T := T_M) (N := 20) hx hb hg in_M ty_M tok_M nm_M hown hK hP hD hS 0 rfl rfl 0 (by decide) (hg _ gw_524) (fun _ h9 => h9) rfl (by decide +kernel) (rfl) (rfl) (Nat.le_of_ble_eq_true rfl) d_M_interrupt_27 (fun H locs hP hD hS => ?_)
      have hP : va_P D CLS [(y, .inr (5, [.int 0, .int (nI bi), .int (nI ne), .int (nI li), .int (nI sp), .int (nI q), .ref ms, .ref mw, .ref mu, .ref mc, .ref mn, .int en, .int (nI sz), .ref mr, .int (nI wa), .ref mq, .int la, .ref md, .int at0, .int lk])), (mw, .inl (cI, 2, .inl lw)), (mu, .inl (cI, 4, .inl su)), (mc, .inl (cI, 4, .inl cu)), (mn, .inl (cI, 4, .inl nu)), (mr, .inl (cB, 6000, .inl wr)), (md, .inl (cB, 400, .inl dr))] H := hP
      have hD : va_D A [(y, .inr (5, [.int 0, .int (nI bi), .int (nI ne), .int (nI li), .int (nI sp), .int (nI q), .ref ms, .ref mw, .ref mu, .ref mc, .ref mn, .int en, .int (nI sz), .ref mr, .int (nI wa), .ref mq, .int la, .ref md, .int at0, .int lk])), (mw, .inl (cI, 2, .inl lw)), (mu, .inl (cI, 4, .inl su)), (mc, .inl (cI, 4, .inl cu)), (mn, .inl (cI, 4, .inl nu)), (mr, .inl (cB, 6000, .inl wr)), (md, .inl (cB, 400, .inl dr))] := hD
      refine lv_aload_n hx hb d_M_interrupt_30 rfl (lv_at hl 0 rfl) ?_
      refine va_get (D := D) (ci := 5) (v := .int 0) (C := R_M) (T := T_M) (N := 20) hx hb hg in_M hown hK hP 0 rfl rfl 0 (by decide) (hg _ gw_524) (fun _ h9 => h9) rfl d_M_interrupt_31 ?_
      refine lv_if_le (tgt := 39) hx hb d_M_interrupt_34 (by decide) (fun c_3 => ?_) (fun c_3 => ?_)
      · skip
        refine lv_aload_n hx hb d_M_interrupt_39 rfl (lv_at hl 0 rfl) ?_
        refine lv_iload_n hx hb d_M_interrupt_40 rfl (lv_at hl 1 rfl) ?_
        have hPc := hP.sub (ws' := [(y, .inr (5, [.int 0, .int (nI bi), .int (nI ne), .int (nI li), .int (nI sp), .int (nI q), .ref ms, .ref mw, .ref mu, .ref mc, .ref mn, .int en, .int (nI sz), .ref mr, .int (nI wa), .ref mq, .int la, .ref md, .int at0, .int lk])), (mu, .inl (cI, 4, .inl su)), (mc, .inl (cI, 4, .inl cu)), (mn, .inl (cI, 4, .inl nu))]) [0, 2, 3, 4] rfl
        have hKc := hK.sub (tys' := [(cI, .int)]) [1] rfl
        refine pci (va_runV (As := [.int 0]) (rest := []) ⟨hx, hb, hml, hown, hg⟩ (c_M_isUp0 l D y ms mw mu mc mn mr mq md bi ne li sp q sz wa 0 en la at0 lk cI su cu nu sm ct ng K hsu hcu hnu hc0 hn0 (by omega) hKb hK1 hK2) (cwV 1 hg (gV gw_634 gw_636 gs_20 gw_7 gw_637) rfl rfl rfl (by decide +kernel) ⟨Nat.le_of_ble_eq_true rfl, Nat.le_of_ble_eq_true rfl⟩) ⟨fun a U g mk q => by obtain ⟨q0, qP, qK⟩ := q; exact ⟨q0, qP, va_K.moved (u := U) (U := U.calling g mk a) (Vm.Alike.refl U.vm) qK⟩, va_recv hKc hPc (ci := 5) (q0 := 0) rfl rfl, fun U hU hW => ⟨rfl, by rw [hU]; exact hPc, va_K.moved hW.alike hKc⟩⟩ rfl rfl hl.1 rfl (lv_room (Nat.le_of_ble_eq_true rfl)) d_M_interrupt_41 (⟨Nat.le_of_ble_eq_true rfl, Nat.le_of_ble_eq_true rfl⟩)) ?_
        by_cases hup : (K = 0 ∧ 2 * ng < ct)
        · skip
          refine tpi (y := 1) (if_pos hup) ?_
          refine lv_if_eq (tgt := 59) hx hb d_M_interrupt_44 (by decide) (fun c_4 => ?_) (fun c_4 => ?_)
          · skip
            exact absurd c_4 (by decide)
          · skip
            refine lv_iload_n hx hb d_M_interrupt_47 rfl (lv_at hl 2 rfl) ?_
            refine lv_if_le (tgt := 55) hx hb d_M_interrupt_48 (by decide) (fun c_5 => ?_) (fun c_5 => ?_)
            · skip
              have hfl : (if (K = 0 ∧ 2 * ng < ct) then 0 else 1 : Nat) = 0 := if_pos hup
              refine lv_iconst (v := 0) hx hb d_M_interrupt_55 (by decide) ?_
              refine lv_goto (tgt := 68) hx hb d_M_interrupt_56 (by decide) ?_
              refine lv_istore_n (lv' := [(3, .int 0), (0, .ref y), (1, .int 0), (2, .int (-nI n))]) hx hb d_M_interrupt_68 rfl hl (by decide) rfl (fun ls hl => ?_)
              refine lv_iconst (v := 2) hx hb d_M_interrupt_69 (by decide) ?_
              refine lv_iload_n hx hb d_M_interrupt_70 rfl (lv_at hl 3 rfl) ?_
              refine lv_if_ge (tgt := 79) hx hb d_M_interrupt_71 (by decide) (fun c_6 => ?_) (fun c_6 => ?_)
              · skip
                exact absurd c_6 (by rw [leT, ngT (by omega), zT]; omega)
              · skip
                refine lv_iload_n hx hb d_M_interrupt_74 rfl (lv_at hl 3 rfl) ?_
                refine lv_ineg hx hb d_M_interrupt_75 ?_
                refine lv_goto (tgt := 80) hx hb d_M_interrupt_76 (by decide) ?_
                refine tpi (y := nI n) (Int32.neg_neg) ?_
                refine lv_imul hx hb d_M_interrupt_80 ?_
                refine tpi (y := nI (2 * n)) (mul2 n) ?_
                refine lv_iload_n hx hb d_M_interrupt_81 rfl (lv_at hl 2 rfl) ?_
                refine lv_isub hx hb d_M_interrupt_82 ?_
                refine tpi (y := nI (2 * n - 0)) (pk_sub (b := 0) (by omega)) ?_
                refine lv_iload_n hx hb d_M_interrupt_83 rfl (lv_at hl 0 rfl) ?_
                refine lv_if_eq (tgt := 91) hx hb d_M_interrupt_84 (by decide) (fun c_7 => ?_) (fun c_7 => ?_)
                · skip
                  refine lv_iconst (v := 0) hx hb d_M_interrupt_91 (by decide) ?_
                  refine lv_isub hx hb d_M_interrupt_92 ?_
                  refine tpi (y := nI M) ((pk_sub (b := 0) (by omega)).trans (congrArg nI (by rw [hM, hfl]))) ?_
                  refine lv_istore (lv' := [(4, .int (nI M)), (3, .int 0), (0, .ref y), (1, .int 0), (2, .int (-nI n))]) hx hb d_M_interrupt_93 hl (by decide) rfl (fun ls hl => ?_)
                  refine lv_aload_n hx hb d_M_interrupt_95 rfl (lv_at hl 2 rfl) ?_
                  refine lv_iconst (v := 0) hx hb d_M_interrupt_96 (by decide) ?_
                  refine tpi (y := nI 0) (rfl) ?_
                  refine va_put (D := D) (ci := 5) (v := .int (nI 0)) (ty := .int) (C := R_M) (T := T_M) (N := 20) hx hb hg in_M ty_M tok_M nm_M hown hK hP hD hS 0 rfl rfl 16 (by decide) (hg _ gw_540) (fun _ h9 => h9) rfl (by decide +kernel) (rfl) (rfl) (Nat.le_of_ble_eq_true rfl) d_M_interrupt_97 (fun H locs hP hD hS => ?_)
                  have hP : va_P D CLS [(y, .inr (5, [.int 0, .int (nI bi), .int (nI ne), .int (nI li), .int (nI sp), .int (nI q), .ref ms, .ref mw, .ref mu, .ref mc, .ref mn, .int en, .int (nI sz), .ref mr, .int (nI wa), .ref mq, .int (nI 0), .ref md, .int at0, .int lk])), (mw, .inl (cI, 2, .inl lw)), (mu, .inl (cI, 4, .inl su)), (mc, .inl (cI, 4, .inl cu)), (mn, .inl (cI, 4, .inl nu)), (mr, .inl (cB, 6000, .inl wr)), (md, .inl (cB, 400, .inl dr))] H := hP
                  have hD : va_D A [(y, .inr (5, [.int 0, .int (nI bi), .int (nI ne), .int (nI li), .int (nI sp), .int (nI q), .ref ms, .ref mw, .ref mu, .ref mc, .ref mn, .int en, .int (nI sz), .ref mr, .int (nI wa), .ref mq, .int (nI 0), .ref md, .int at0, .int lk])), (mw, .inl (cI, 2, .inl lw)), (mu, .inl (cI, 4, .inl su)), (mc, .inl (cI, 4, .inl cu)), (mn, .inl (cI, 4, .inl nu)), (mr, .inl (cB, 6000, .inl wr)), (md, .inl (cB, 400, .inl dr))] := hD
                  refine lv_aload_n hx hb d_M_interrupt_100 rfl (lv_at hl 2 rfl) ?_
                  refine lv_iload hx hb d_M_interrupt_101 (lv_at hl 0 rfl) ?_
                  refine lv_aload_n hx hb d_M_interrupt_103 rfl (lv_at hl 2 rfl) ?_
                  refine lv_iload_n hx hb d_M_interrupt_104 rfl (lv_at hl 3 rfl) ?_
                  have hPc := hP.sub (ws' := [(y, .inr (5, [.int 0, .int (nI bi), .int (nI ne), .int (nI li), .int (nI sp), .int (nI q), .ref ms, .ref mw, .ref mu, .ref mc, .ref mn, .int en, .int (nI sz), .ref mr, .int (nI wa), .ref mq, .int (nI 0), .ref md, .int at0, .int lk])), (mu, .inl (cI, 4, .inl su)), (mc, .inl (cI, 4, .inl cu)), (mn, .inl (cI, 4, .inl nu))]) [0, 2, 3, 4] rfl
                  have hKc := hK.sub (tys' := [(cI, .int)]) [1] rfl
                  refine pci (va_runV (As := [.int 0]) (rest := [.int (nI M), .ref y]) ⟨hx, hb, hml, hown, hg⟩ (c_M_kOf0 l D y ms mw mu mc mn mr mq md bi ne li sp q sz wa 0 en (nI 0) at0 lk cI su cu nu sm ct ng K hsu hcu hnu hc0 hn0 (by omega) hKb hK1 hK2) (cwV 1 hg (gV gw_638 gw_640 gs_21 gw_7 gw_641) rfl rfl rfl (by decide +kernel) ⟨Nat.le_of_ble_eq_true rfl, Nat.le_of_ble_eq_true rfl⟩) ⟨fun a U g mk q => by obtain ⟨q0, qP, qK⟩ := q; exact ⟨q0, qP, va_K.moved (u := U) (U := U.calling g mk a) (Vm.Alike.refl U.vm) qK⟩, va_recv hKc hPc (ci := 5) (q0 := 0) rfl rfl, fun U hU hW => ⟨rfl, by rw [hU]; exact hPc, va_K.moved hW.alike hKc⟩⟩ rfl rfl hl.1 rfl (lv_room (Nat.le_of_ble_eq_true rfl)) d_M_interrupt_105 (⟨Nat.le_of_ble_eq_true rfl, Nat.le_of_ble_eq_true rfl⟩)) ?_
                  refine lv_aload_n hx hb d_M_interrupt_108 rfl (lv_at hl 2 rfl) ?_
                  refine lv_iconst (v := 0) hx hb d_M_interrupt_109 (by decide) ?_
                  have hPc := hP.sub (ws' := [(y, .inr (5, [.int 0, .int (nI bi), .int (nI ne), .int (nI li), .int (nI sp), .int (nI q), .ref ms, .ref mw, .ref mu, .ref mc, .ref mn, .int en, .int (nI sz), .ref mr, .int (nI wa), .ref mq, .int (nI 0), .ref md, .int at0, .int lk])), (mw, .inl (cI, 2, .inl lw))]) [0, 1] rfl
                  have hKc := hK.sub (tys' := [(cI, .int)]) [1] rfl
                  refine pci (va_runV (As := [.int 0]) (rest := [.int (nI K), .int (nI M), .ref y]) ⟨hx, hb, hml, hown, hg⟩ (c_M_limitFor0 l D y ms mw mu mc mn mr mq md bi ne li sp q sz wa 0 en (nI 0) at0 lk cI lw rw hlw (by omega)) (cwV 1 hg (gV gw_642 gw_644 gs_22 gw_7 gw_645) rfl rfl rfl (by decide +kernel) ⟨Nat.le_of_ble_eq_true rfl, Nat.le_of_ble_eq_true rfl⟩) ⟨fun a U g mk q => by obtain ⟨q0, qP, qK⟩ := q; exact ⟨q0, qP, va_K.moved (u := U) (U := U.calling g mk a) (Vm.Alike.refl U.vm) qK⟩, va_recv hKc hPc (ci := 5) (q0 := 0) rfl rfl, fun U hU hW => ⟨rfl, by rw [hU]; exact hPc, va_K.moved hW.alike hKc⟩⟩ rfl rfl hl.1 rfl (lv_room (Nat.le_of_ble_eq_true rfl)) d_M_interrupt_110 (⟨Nat.le_of_ble_eq_true rfl, Nat.le_of_ble_eq_true rfl⟩)) ?_
                  have hPc := hP.sub (ws' := [(y, .inr (5, [.int 0, .int (nI bi), .int (nI ne), .int (nI li), .int (nI sp), .int (nI q), .ref ms, .ref mw, .ref mu, .ref mc, .ref mn, .int en, .int (nI sz), .ref mr, .int (nI wa), .ref mq, .int (nI 0), .ref md, .int at0, .int lk])), (md, .inl (cB, 400, .inl dr))]) [0, 6] rfl
                  have hDc := hD.sub (ws' := [(y, .inr (5, [.int 0, .int (nI bi), .int (nI ne), .int (nI li), .int (nI sp), .int (nI q), .ref ms, .ref mw, .ref mu, .ref mc, .ref mn, .int en, .int (nI sz), .ref mr, .int (nI wa), .ref mq, .int (nI 0), .ref md, .int at0, .int lk])), (md, .inl (cB, 400, .inl dr))]) [0, 6] (by decide) rfl
                  have hKc := hK.sub (tys' := [(cB, .byte)]) [0] rfl
                  refine mcv (va_runV (As := [.int (nI M), .int (nI K), .int (nI (li - 1 - rw))]) (rest := []) ⟨hx, hb, hml, hown, hg⟩ (c_M_layNumber l D y ms mw mu mc mn mr mq md bi ne li sp q sz wa 0 en (nI 0) at0 lk cB dr 0 M K (li - 1 - rw) (by omega) (by omega) (by omega) (by omega) (by omega) (by omega)) (cwV 3 hg (gV gw_594 gw_596 gs_13 gw_7 gw_597) rfl rfl rfl (by decide +kernel) ⟨Nat.le_of_ble_eq_true rfl, Nat.le_of_ble_eq_true rfl⟩) ⟨fun a U g mk q => by obtain ⟨q0, qP, qK, qD⟩ := q; exact ⟨q0, qP, va_K.moved (u := U) (U := U.calling g mk a) (Vm.Alike.refl U.vm) qK, qD⟩, va_recv hKc hPc (ci := 5) (q0 := 0) rfl rfl, fun U hU hW => ⟨rfl, by rw [hU]; exact hPc, va_K.moved hW.alike hKc, hDc.weaken (fun _ _ _ _ => trivial)⟩⟩ rfl rfl hl.1 rfl (lv_room (Nat.le_of_ble_eq_true rfl)) d_M_interrupt_113 (⟨Nat.le_of_ble_eq_true rfl, Nat.le_of_ble_eq_true rfl⟩)) hS hP hD [0, 6] rfl rfl rfl (fun H locs hP hD hS => ?_)
                  have hP : va_P D CLS [(y, .inr (5, [.int 0, .int (nI bi), .int (nI ne), .int (nI li), .int (nI sp), .int (nI q), .ref ms, .ref mw, .ref mu, .ref mc, .ref mn, .int en, .int (nI sz), .ref mr, .int (nI wa), .ref mq, .int (nI (0 + nlen q K M (li - 1 - rw - q - 1))), .ref md, .int at0, .int lk])), (mw, .inl (cI, 2, .inl lw)), (mu, .inl (cI, 4, .inl su)), (mc, .inl (cI, 4, .inl cu)), (mn, .inl (cI, 4, .inl nu)), (mr, .inl (cB, 6000, .inl wr)), (md, .inl (cB, 400, .inl (wnum dr q K M (li - 1 - rw - q - 1) 0)))] H := hP
                  have hD : va_D A [(y, .inr (5, [.int 0, .int (nI bi), .int (nI ne), .int (nI li), .int (nI sp), .int (nI q), .ref ms, .ref mw, .ref mu, .ref mc, .ref mn, .int en, .int (nI sz), .ref mr, .int (nI wa), .ref mq, .int (nI (0 + nlen q K M (li - 1 - rw - q - 1))), .ref md, .int at0, .int lk])), (mw, .inl (cI, 2, .inl lw)), (mu, .inl (cI, 4, .inl su)), (mc, .inl (cI, 4, .inl cu)), (mn, .inl (cI, 4, .inl nu)), (mr, .inl (cB, 6000, .inl wr)), (md, .inl (cB, 400, .inl (wnum dr q K M (li - 1 - rw - q - 1) 0)))] := hD
                  refine lv_aload_n hx hb d_M_interrupt_116 rfl (lv_at hl 2 rfl) ?_
                  refine lv_aload_n hx hb d_M_interrupt_117 rfl (lv_at hl 2 rfl) ?_
                  have hPc := hP.sub (ws' := [(y, .inr (5, [.int 0, .int (nI bi), .int (nI ne), .int (nI li), .int (nI sp), .int (nI q), .ref ms, .ref mw, .ref mu, .ref mc, .ref mn, .int en, .int (nI sz), .ref mr, .int (nI wa), .ref mq, .int (nI (0 + nlen q K M (li - 1 - rw - q - 1))), .ref md, .int at0, .int lk]))]) [0] rfl
                  have hKc := hK.sub (tys' := []) [] rfl
                  refine pci (va_runV (As := []) (rest := [.ref y]) ⟨hx, hb, hml, hown, hg⟩ (c_M_hasRoom l D y ms mw mu mc mn mr mq md bi ne li sp q sz wa 0 en (nI (0 + nlen q K M (li - 1 - rw - q - 1))) at0 lk (0 + nlen q K M (li - 1 - rw - q - 1)) hsz (by omega)) (cwV 0 hg (gV gw_606 gw_608 gs_16 gw_7 gw_609) rfl rfl rfl (by decide +kernel) ⟨Nat.le_of_ble_eq_true rfl, Nat.le_of_ble_eq_true rfl⟩) ⟨fun a U g mk q => by obtain ⟨q0, qP, qK⟩ := q; exact ⟨q0, qP, va_K.moved (u := U) (U := U.calling g mk a) (Vm.Alike.refl U.vm) qK⟩, va_recv hKc hPc (ci := 5) (q0 := 0) rfl rfl, fun U hU hW => ⟨rfl, by rw [hU]; exact hPc, va_K.moved hW.alike hKc⟩⟩ rfl rfl hl.1 rfl (lv_room (Nat.le_of_ble_eq_true rfl)) d_M_interrupt_118 (⟨Nat.le_of_ble_eq_true rfl, Nat.le_of_ble_eq_true rfl⟩)) ?_
                  refine tpi (y := 0) (if_neg (by omega)) ?_
                  refine lv_if_eq (tgt := 128) hx hb d_M_interrupt_121 (by decide) (fun c_8 => ?_) (fun c_8 => ?_)
                  · skip
                    refine lv_iconst (v := 3) hx hb d_M_interrupt_128 (by decide) ?_
                    refine va_put (D := D) (ci := 5) (v := .int 3) (ty := .int) (C := R_M) (T := T_M) (N := 20) hx hb hg in_M ty_M tok_M nm_M hown hK hP hD hS 0 rfl rfl 0 (by decide) (hg _ gw_524) (fun _ h9 => h9) rfl (by decide +kernel) (rfl) (rfl) (Nat.le_of_ble_eq_true rfl) d_M_interrupt_129 (fun H locs hP hD hS => ?_)
                    have hP : va_P D CLS [(y, .inr (5, [.int 3, .int (nI bi), .int (nI ne), .int (nI li), .int (nI sp), .int (nI q), .ref ms, .ref mw, .ref mu, .ref mc, .ref mn, .int en, .int (nI sz), .ref mr, .int (nI wa), .ref mq, .int (nI (0 + nlen q K M (li - 1 - rw - q - 1))), .ref md, .int at0, .int lk])), (mw, .inl (cI, 2, .inl lw)), (mu, .inl (cI, 4, .inl su)), (mc, .inl (cI, 4, .inl cu)), (mn, .inl (cI, 4, .inl nu)), (mr, .inl (cB, 6000, .inl wr)), (md, .inl (cB, 400, .inl (wnum dr q K M (li - 1 - rw - q - 1) 0)))] H := hP
                    have hD : va_D A [(y, .inr (5, [.int 3, .int (nI bi), .int (nI ne), .int (nI li), .int (nI sp), .int (nI q), .ref ms, .ref mw, .ref mu, .ref mc, .ref mn, .int en, .int (nI sz), .ref mr, .int (nI wa), .ref mq, .int (nI (0 + nlen q K M (li - 1 - rw - q - 1))), .ref md, .int at0, .int lk])), (mw, .inl (cI, 2, .inl lw)), (mu, .inl (cI, 4, .inl su)), (mc, .inl (cI, 4, .inl cu)), (mn, .inl (cI, 4, .inl nu)), (mr, .inl (cB, 6000, .inl wr)), (md, .inl (cB, 400, .inl (wnum dr q K M (li - 1 - rw - q - 1) 0)))] := hD
                    refine lv_aload_n hx hb d_M_interrupt_132 rfl (lv_at hl 2 rfl) ?_
                    refine va_get (D := D) (ci := 5) (v := .int 3) (C := R_M) (T := T_M) (N := 20) hx hb hg in_M hown hK hP 0 rfl rfl 0 (by decide) (hg _ gw_524) (fun _ h9 => h9) rfl d_M_interrupt_133 ?_
                    refine lv_if_le (tgt := 141) hx hb d_M_interrupt_136 (by decide) (fun c_9 => ?_) (fun c_9 => ?_)
                    · skip
                      exact absurd c_9 (by decide)
                    · skip
                      refine lv_iconst (v := 0) hx hb d_M_interrupt_139 (by decide) ?_
                      exact W.iret (v := 0) hx hb hr (fun t ht hW => ⟨rfl, by rw [ht]; exact hP, (hAe ▸ hS).F ht⟩) (hAe ▸ hS).2.2 d_M_interrupt_140
                  · skip
                    exact absurd rfl c_8
                · skip
                  exact absurd rfl c_7
            · skip
              exact absurd (by rw [leT, ngT (by omega), zT]; omega) c_5
        · skip
          refine tpi (y := 0) (if_neg hup) ?_
          refine lv_if_eq (tgt := 59) hx hb d_M_interrupt_44 (by decide) (fun c_10 => ?_) (fun c_10 => ?_)
          · skip
            refine lv_iload_n hx hb d_M_interrupt_59 rfl (lv_at hl 2 rfl) ?_
            refine lv_if_ge (tgt := 67) hx hb d_M_interrupt_60 (by decide) (fun c_11 => ?_) (fun c_11 => ?_)
            · skip
              exact absurd c_11 (by rw [leT, ngT (by omega), zT]; omega)
            · skip
              have hfl : (if (K = 0 ∧ 2 * ng < ct) then 0 else 1 : Nat) = 1 := if_neg hup
              refine lv_iconst (v := 1) hx hb d_M_interrupt_63 (by decide) ?_
              refine lv_goto (tgt := 68) hx hb d_M_interrupt_64 (by decide) ?_
              refine lv_istore_n (lv' := [(3, .int 1), (0, .ref y), (1, .int 0), (2, .int (-nI n))]) hx hb d_M_interrupt_68 rfl hl (by decide) rfl (fun ls hl => ?_)
              refine lv_iconst (v := 2) hx hb d_M_interrupt_69 (by decide) ?_
              refine lv_iload_n hx hb d_M_interrupt_70 rfl (lv_at hl 3 rfl) ?_
              refine lv_if_ge (tgt := 79) hx hb d_M_interrupt_71 (by decide) (fun c_12 => ?_) (fun c_12 => ?_)
              · skip
                exact absurd c_12 (by rw [leT, ngT (by omega), zT]; omega)
              · skip
                refine lv_iload_n hx hb d_M_interrupt_74 rfl (lv_at hl 3 rfl) ?_
                refine lv_ineg hx hb d_M_interrupt_75 ?_
                refine lv_goto (tgt := 80) hx hb d_M_interrupt_76 (by decide) ?_
                refine tpi (y := nI n) (Int32.neg_neg) ?_
                refine lv_imul hx hb d_M_interrupt_80 ?_
                refine tpi (y := nI (2 * n)) (mul2 n) ?_
                refine lv_iload_n hx hb d_M_interrupt_81 rfl (lv_at hl 2 rfl) ?_
                refine lv_isub hx hb d_M_interrupt_82 ?_
                refine tpi (y := nI (2 * n - 0)) (pk_sub (b := 0) (by omega)) ?_
                refine lv_iload_n hx hb d_M_interrupt_83 rfl (lv_at hl 0 rfl) ?_
                refine lv_if_eq (tgt := 91) hx hb d_M_interrupt_84 (by decide) (fun c_13 => ?_) (fun c_13 => ?_)
                · skip
                  exact absurd c_13 (by decide)
                · skip
                  refine lv_iconst (v := 1) hx hb d_M_interrupt_87 (by decide) ?_
                  refine lv_goto (tgt := 92) hx hb d_M_interrupt_88 (by decide) ?_
                  refine lv_isub hx hb d_M_interrupt_92 ?_
                  refine tpi (y := nI M) ((pk_sub (b := 1) (by omega)).trans (congrArg nI (by rw [hM, hfl]))) ?_
                  refine lv_istore (lv' := [(4, .int (nI M)), (3, .int 1), (0, .ref y), (1, .int 0), (2, .int (-nI n))]) hx hb d_M_interrupt_93 hl (by decide) rfl (fun ls hl => ?_)
                  refine lv_aload_n hx hb d_M_interrupt_95 rfl (lv_at hl 2 rfl) ?_
                  refine lv_iconst (v := 0) hx hb d_M_interrupt_96 (by decide) ?_
                  refine tpi (y := nI 0) (rfl) ?_
                  refine va_put (D := D) (ci := 5) (v := .int (nI 0)) (ty := .int) (C := R_M) (T := T_M) (N := 20) hx hb hg in_M ty_M tok_M nm_M hown hK hP hD hS 0 rfl rfl 16 (by decide) (hg _ gw_540) (fun _ h9 => h9) rfl (by decide +kernel) (rfl) (rfl) (Nat.le_of_ble_eq_true rfl) d_M_interrupt_97 (fun H locs hP hD hS => ?_)
                  have hP : va_P D CLS [(y, .inr (5, [.int 0, .int (nI bi), .int (nI ne), .int (nI li), .int (nI sp), .int (nI q), .ref ms, .ref mw, .ref mu, .ref mc, .ref mn, .int en, .int (nI sz), .ref mr, .int (nI wa), .ref mq, .int (nI 0), .ref md, .int at0, .int lk])), (mw, .inl (cI, 2, .inl lw)), (mu, .inl (cI, 4, .inl su)), (mc, .inl (cI, 4, .inl cu)), (mn, .inl (cI, 4, .inl nu)), (mr, .inl (cB, 6000, .inl wr)), (md, .inl (cB, 400, .inl dr))] H := hP
                  have hD : va_D A [(y, .inr (5, [.int 0, .int (nI bi), .int (nI ne), .int (nI li), .int (nI sp), .int (nI q), .ref ms, .ref mw, .ref mu, .ref mc, .ref mn, .int en, .int (nI sz), .ref mr, .int (nI wa), .ref mq, .int (nI 0), .ref md, .int at0, .int lk])), (mw, .inl (cI, 2, .inl lw)), (mu, .inl (cI, 4, .inl su)), (mc, .inl (cI, 4, .inl cu)), (mn, .inl (cI, 4, .inl nu)), (mr, .inl (cB, 6000, .inl wr)), (md, .inl (cB, 400, .inl dr))] := hD
                  refine lv_aload_n hx hb d_M_interrupt_100 rfl (lv_at hl 2 rfl) ?_
                  refine lv_iload hx hb d_M_interrupt_101 (lv_at hl 0 rfl) ?_
                  refine lv_aload_n hx hb d_M_interrupt_103 rfl (lv_at hl 2 rfl) ?_
                  refine lv_iload_n hx hb d_M_interrupt_104 rfl (lv_at hl 3 rfl) ?_
                  have hPc := hP.sub (ws' := [(y, .inr (5, [.int 0, .int (nI bi), .int (nI ne), .int (nI li), .int (nI sp), .int (nI q), .ref ms, .ref mw, .ref mu, .ref mc, .ref mn, .int en, .int (nI sz), .ref mr, .int (nI wa), .ref mq, .int (nI 0), .ref md, .int at0, .int lk])), (mu, .inl (cI, 4, .inl su)), (mc, .inl (cI, 4, .inl cu)), (mn, .inl (cI, 4, .inl nu))]) [0, 2, 3, 4] rfl
                  have hKc := hK.sub (tys' := [(cI, .int)]) [1] rfl
                  refine pci (va_runV (As := [.int 0]) (rest := [.int (nI M), .ref y]) ⟨hx, hb, hml, hown, hg⟩ (c_M_kOf0 l D y ms mw mu mc mn mr mq md bi ne li sp q sz wa 0 en (nI 0) at0 lk cI su cu nu sm ct ng K hsu hcu hnu hc0 hn0 (by omega) hKb hK1 hK2) (cwV 1 hg (gV gw_638 gw_640 gs_21 gw_7 gw_641) rfl rfl rfl (by decide +kernel) ⟨Nat.le_of_ble_eq_true rfl, Nat.le_of_ble_eq_true rfl⟩) ⟨fun a U g mk q => by obtain ⟨q0, qP, qK⟩ := q; exact ⟨q0, qP, va_K.moved (u := U) (U := U.calling g mk a) (Vm.Alike.refl U.vm) qK⟩, va_recv hKc hPc (ci := 5) (q0 := 0) rfl rfl, fun U hU hW => ⟨rfl, by rw [hU]; exact hPc, va_K.moved hW.alike hKc⟩⟩ rfl rfl hl.1 rfl (lv_room (Nat.le_of_ble_eq_true rfl)) d_M_interrupt_105 (⟨Nat.le_of_ble_eq_true rfl, Nat.le_of_ble_eq_true rfl⟩)) ?_
                  refine lv_aload_n hx hb d_M_interrupt_108 rfl (lv_at hl 2 rfl) ?_
                  refine lv_iconst (v := 0) hx hb d_M_interrupt_109 (by decide) ?_
                  have hPc := hP.sub (ws' := [(y, .inr (5, [.int 0, .int (nI bi), .int (nI ne), .int (nI li), .int (nI sp), .int (nI q), .ref ms, .ref mw, .ref mu, .ref mc, .ref mn, .int en, .int (nI sz), .ref mr, .int (nI wa), .ref mq, .int (nI 0), .ref md, .int at0, .int lk])), (mw, .inl (cI, 2, .inl lw))]) [0, 1] rfl
                  have hKc := hK.sub (tys' := [(cI, .int)]) [1] rfl
                  refine pci (va_runV (As := [.int 0]) (rest := [.int (nI K), .int (nI M), .ref y]) ⟨hx, hb, hml, hown, hg⟩ (c_M_limitFor0 l D y ms mw mu mc mn mr mq md bi ne li sp q sz wa 0 en (nI 0) at0 lk cI lw rw hlw (by omega)) (cwV 1 hg (gV gw_642 gw_644 gs_22 gw_7 gw_645) rfl rfl rfl (by decide +kernel) ⟨Nat.le_of_ble_eq_true rfl, Nat.le_of_ble_eq_true rfl⟩) ⟨fun a U g mk q => by obtain ⟨q0, qP, qK⟩ := q; exact ⟨q0, qP, va_K.moved (u := U) (U := U.calling g mk a) (Vm.Alike.refl U.vm) qK⟩, va_recv hKc hPc (ci := 5) (q0 := 0) rfl rfl, fun U hU hW => ⟨rfl, by rw [hU]; exact hPc, va_K.moved hW.alike hKc⟩⟩ rfl rfl hl.1 rfl (lv_room (Nat.le_of_ble_eq_true rfl)) d_M_interrupt_110 (⟨Nat.le_of_ble_eq_true rfl, Nat.le_of_ble_eq_true rfl⟩)) ?_
                  have hPc := hP.sub (ws' := [(y, .inr (5, [.int 0, .int (nI bi), .int (nI ne), .int (nI li), .int (nI sp), .int (nI q), .ref ms, .ref mw, .ref mu, .ref mc, .ref mn, .int en, .int (nI sz), .ref mr, .int (nI wa), .ref mq, .int (nI 0), .ref md, .int at0, .int lk])), (md, .inl (cB, 400, .inl dr))]) [0, 6] rfl
                  have hDc := hD.sub (ws' := [(y, .inr (5, [.int 0, .int (nI bi), .int (nI ne), .int (nI li), .int (nI sp), .int (nI q), .ref ms, .ref mw, .ref mu, .ref mc, .ref mn, .int en, .int (nI sz), .ref mr, .int (nI wa), .ref mq, .int (nI 0), .ref md, .int at0, .int lk])), (md, .inl (cB, 400, .inl dr))]) [0, 6] (by decide) rfl
                  have hKc := hK.sub (tys' := [(cB, .byte)]) [0] rfl
                  refine mcv (va_runV (As := [.int (nI M), .int (nI K), .int (nI (li - 1 - rw))]) (rest := []) ⟨hx, hb, hml, hown, hg⟩ (c_M_layNumber l D y ms mw mu mc mn mr mq md bi ne li sp q sz wa 0 en (nI 0) at0 lk cB dr 0 M K (li - 1 - rw) (by omega) (by omega) (by omega) (by omega) (by omega) (by omega)) (cwV 3 hg (gV gw_594 gw_596 gs_13 gw_7 gw_597) rfl rfl rfl (by decide +kernel) ⟨Nat.le_of_ble_eq_true rfl, Nat.le_of_ble_eq_true rfl⟩) ⟨fun a U g mk q => by obtain ⟨q0, qP, qK, qD⟩ := q; exact ⟨q0, qP, va_K.moved (u := U) (U := U.calling g mk a) (Vm.Alike.refl U.vm) qK, qD⟩, va_recv hKc hPc (ci := 5) (q0 := 0) rfl rfl, fun U hU hW => ⟨rfl, by rw [hU]; exact hPc, va_K.moved hW.alike hKc, hDc.weaken (fun _ _ _ _ => trivial)⟩⟩ rfl rfl hl.1 rfl (lv_room (Nat.le_of_ble_eq_true rfl)) d_M_interrupt_113 (⟨Nat.le_of_ble_eq_true rfl, Nat.le_of_ble_eq_true rfl⟩)) hS hP hD [0, 6] rfl rfl rfl (fun H locs hP hD hS => ?_)
                  have hP : va_P D CLS [(y, .inr (5, [.int 0, .int (nI bi), .int (nI ne), .int (nI li), .int (nI sp), .int (nI q), .ref ms, .ref mw, .ref mu, .ref mc, .ref mn, .int en, .int (nI sz), .ref mr, .int (nI wa), .ref mq, .int (nI (0 + nlen q K M (li - 1 - rw - q - 1))), .ref md, .int at0, .int lk])), (mw, .inl (cI, 2, .inl lw)), (mu, .inl (cI, 4, .inl su)), (mc, .inl (cI, 4, .inl cu)), (mn, .inl (cI, 4, .inl nu)), (mr, .inl (cB, 6000, .inl wr)), (md, .inl (cB, 400, .inl (wnum dr q K M (li - 1 - rw - q - 1) 0)))] H := hP
                  have hD : va_D A [(y, .inr (5, [.int 0, .int (nI bi), .int (nI ne), .int (nI li), .int (nI sp), .int (nI q), .ref ms, .ref mw, .ref mu, .ref mc, .ref mn, .int en, .int (nI sz), .ref mr, .int (nI wa), .ref mq, .int (nI (0 + nlen q K M (li - 1 - rw - q - 1))), .ref md, .int at0, .int lk])), (mw, .inl (cI, 2, .inl lw)), (mu, .inl (cI, 4, .inl su)), (mc, .inl (cI, 4, .inl cu)), (mn, .inl (cI, 4, .inl nu)), (mr, .inl (cB, 6000, .inl wr)), (md, .inl (cB, 400, .inl (wnum dr q K M (li - 1 - rw - q - 1) 0)))] := hD
                  refine lv_aload_n hx hb d_M_interrupt_116 rfl (lv_at hl 2 rfl) ?_
                  refine lv_aload_n hx hb d_M_interrupt_117 rfl (lv_at hl 2 rfl) ?_
                  have hPc := hP.sub (ws' := [(y, .inr (5, [.int 0, .int (nI bi), .int (nI ne), .int (nI li), .int (nI sp), .int (nI q), .ref ms, .ref mw, .ref mu, .ref mc, .ref mn, .int en, .int (nI sz), .ref mr, .int (nI wa), .ref mq, .int (nI (0 + nlen q K M (li - 1 - rw - q - 1))), .ref md, .int at0, .int lk]))]) [0] rfl
                  have hKc := hK.sub (tys' := []) [] rfl
                  refine pci (va_runV (As := []) (rest := [.ref y]) ⟨hx, hb, hml, hown, hg⟩ (c_M_hasRoom l D y ms mw mu mc mn mr mq md bi ne li sp q sz wa 0 en (nI (0 + nlen q K M (li - 1 - rw - q - 1))) at0 lk (0 + nlen q K M (li - 1 - rw - q - 1)) hsz (by omega)) (cwV 0 hg (gV gw_606 gw_608 gs_16 gw_7 gw_609) rfl rfl rfl (by decide +kernel) ⟨Nat.le_of_ble_eq_true rfl, Nat.le_of_ble_eq_true rfl⟩) ⟨fun a U g mk q => by obtain ⟨q0, qP, qK⟩ := q; exact ⟨q0, qP, va_K.moved (u := U) (U := U.calling g mk a) (Vm.Alike.refl U.vm) qK⟩, va_recv hKc hPc (ci := 5) (q0 := 0) rfl rfl, fun U hU hW => ⟨rfl, by rw [hU]; exact hPc, va_K.moved hW.alike hKc⟩⟩ rfl rfl hl.1 rfl (lv_room (Nat.le_of_ble_eq_true rfl)) d_M_interrupt_118 (⟨Nat.le_of_ble_eq_true rfl, Nat.le_of_ble_eq_true rfl⟩)) ?_
                  refine tpi (y := 0) (if_neg (by omega)) ?_
                  refine lv_if_eq (tgt := 128) hx hb d_M_interrupt_121 (by decide) (fun c_14 => ?_) (fun c_14 => ?_)
                  · skip
                    refine lv_iconst (v := 3) hx hb d_M_interrupt_128 (by decide) ?_
                    refine va_put (D := D) (ci := 5) (v := .int 3) (ty := .int) (C := R_M) (T := T_M) (N := 20) hx hb hg in_M ty_M tok_M nm_M hown hK hP hD hS 0 rfl rfl 0 (by decide) (hg _ gw_524) (fun _ h9 => h9) rfl (by decide +kernel) (rfl) (rfl) (Nat.le_of_ble_eq_true rfl) d_M_interrupt_129 (fun H locs hP hD hS => ?_)
                    have hP : va_P D CLS [(y, .inr (5, [.int 3, .int (nI bi), .int (nI ne), .int (nI li), .int (nI sp), .int (nI q), .ref ms, .ref mw, .ref mu, .ref mc, .ref mn, .int en, .int (nI sz), .ref mr, .int (nI wa), .ref mq, .int (nI (0 + nlen q K M (li - 1 - rw - q - 1))), .ref md, .int at0, .int lk])), (mw, .inl (cI, 2, .inl lw)), (mu, .inl (cI, 4, .inl su)), (mc, .inl (cI, 4, .inl cu)), (mn, .inl (cI, 4, .inl nu)), (mr, .inl (cB, 6000, .inl wr)), (md, .inl (cB, 400, .inl (wnum dr q K M (li - 1 - rw - q - 1) 0)))] H := hP
                    have hD : va_D A [(y, .inr (5, [.int 3, .int (nI bi), .int (nI ne), .int (nI li), .int (nI sp), .int (nI q), .ref ms, .ref mw, .ref mu, .ref mc, .ref mn, .int en, .int (nI sz), .ref mr, .int (nI wa), .ref mq, .int (nI (0 + nlen q K M (li - 1 - rw - q - 1))), .ref md, .int at0, .int lk])), (mw, .inl (cI, 2, .inl lw)), (mu, .inl (cI, 4, .inl su)), (mc, .inl (cI, 4, .inl cu)), (mn, .inl (cI, 4, .inl nu)), (mr, .inl (cB, 6000, .inl wr)), (md, .inl (cB, 400, .inl (wnum dr q K M (li - 1 - rw - q - 1) 0)))] := hD
                    refine lv_aload_n hx hb d_M_interrupt_132 rfl (lv_at hl 2 rfl) ?_
                    refine va_get (D := D) (ci := 5) (v := .int 3) (C := R_M) (T := T_M) (N := 20) hx hb hg in_M hown hK hP 0 rfl rfl 0 (by decide) (hg _ gw_524) (fun _ h9 => h9) rfl d_M_interrupt_133 ?_
                    refine lv_if_le (tgt := 141) hx hb d_M_interrupt_136 (by decide) (fun c_15 => ?_) (fun c_15 => ?_)
                    · skip
                      exact absurd c_15 (by decide)
                    · skip
                      refine lv_iconst (v := 0) hx hb d_M_interrupt_139 (by decide) ?_
                      exact W.iret (v := 0) hx hb hr (fun t ht hW => ⟨rfl, by rw [ht]; exact hP, (hAe ▸ hS).F ht⟩) (hAe ▸ hS).2.2 d_M_interrupt_140
                  · skip
                    exact absurd rfl c_14
          · skip
            exact absurd rfl c_10
      · skip
        exact absurd (by decide) c_3
    · skip
      exact absurd c_2 (by decide)
  · skip
    exact absurd c_1 (by decide)
set_option maxHeartbeats 4000000 in
set_option maxRecDepth 100000 in
theorem c_M_interrupt1PG (l : Launch) (D : va_G) (y ms mw mu mc mn mr mq md bi ne li sp q sz wa : Nat) (th en la at0 lk : Int32) (cB cI : ClassId) (lw su cu nu wr dr : Nat → Int32) (rw sm ct ng n K M : Nat) (hlw : lw 0 = nI rw) (hsu : su 1 = nI sm) (hcu : cu 1 = nI ct) (hnu : nu 1 = nI ng) (hc0 : ct ≤ 64) (hn0 : ng ≤ 64) (hs0 : sm < 2 ^ 29) (hKb : K ≤ 29) (hK1 : sm + ct / 2 ≤ ct * 2 ^ K) (hK2 : ∀ j, j < K → ct * 2 ^ j < sm + ct / 2) (hsp : sp ≤ 65536) (hn : n ≤ sp / 2) (hn1 : 0 < n) (hM : M = 2 * n - 1 - (if ¬ n = 0 ∧ (K = 0 ∧ 2 * ng < ct) then 1 else 0)) (hq : q ≤ 29) (hli : q + 18 ≤ li) (hlb : li ≤ 200) (hrw : rw ≤ 15) (hsz : sz ≤ 6000) (hu : sz + nlen q K M (li - 1 - rw - q - 1) ≤ 6000) : Met l y_M_interrupt (WSY y_M_interrupt b_M_interrupt 5 (some .int)) ({ frames := 3, cells := 0, slots := 0, locals := 72 }) (va_Pc [.ref y, .int 1, .int (nI n)] (fun U => va_P D CLS [(y, .inr (5, [.int th, .int (nI bi), .int (nI ne), .int (nI li), .int (nI sp), .int (nI q), .ref ms, .ref mw, .ref mu, .ref mc, .ref mn, .int en, .int (nI sz), .ref mr, .int (nI wa), .ref mq, .int la, .ref md, .int at0, .int lk])), (mw, .inl (cI, 2, .inl lw)), (mu, .inl (cI, 4, .inl su)), (mc, .inl (cI, 4, .inl cu)), (mn, .inl (cI, 4, .inl nu)), (mr, .inl (cB, 6000, .inl wr)), (md, .inl (cB, 400, .inl dr))] U.heap ∧ va_K D CLS [(cB, .byte), (cI, .int)] U ∧ va_D (fun _ => True) [(y, .inr (5, [.int th, .int (nI bi), .int (nI ne), .int (nI li), .int (nI sp), .int (nI q), .ref ms, .ref mw, .ref mu, .ref mc, .ref mn, .int en, .int (nI sz), .ref mr, .int (nI wa), .ref mq, .int la, .ref md, .int at0, .int lk])), (mw, .inl (cI, 2, .inl lw)), (mu, .inl (cI, 4, .inl su)), (mc, .inl (cI, 4, .inl cu)), (mn, .inl (cI, 4, .inl nu)), (mr, .inl (cB, 6000, .inl wr)), (md, .inl (cB, 400, .inl dr))])) (QM (some (.int (nI (0 + nlen q K M (li - 1 - rw - q - 1))))) [(y, .inr (5, [.int th, .int (nI bi), .int (nI ne), .int (nI li), .int (nI sp), .int (nI q), .ref ms, .ref mw, .ref mu, .ref mc, .ref mn, .int en, .int (nI sz), .ref mr, .int (nI wa), .ref mq, .int la, .ref md, .int at0, .int lk])), (mw, .inl (cI, 2, .inl lw)), (mu, .inl (cI, 4, .inl su)), (mc, .inl (cI, 4, .inl cu)), (mn, .inl (cI, 4, .inl nu)), (mr, .inl (cB, 6000, .inl wr)), (md, .inl (cB, 400, .inl dr))] [(y, .inr (5, [.int 0, .int (nI bi), .int (nI ne), .int (nI li), .int (nI sp), .int (nI q), .ref ms, .ref mw, .ref mu, .ref mc, .ref mn, .int en, .int (nI (sz + (0 + nlen q K M (li - 1 - rw - q - 1)))), .ref mr, .int (nI wa), .ref mq, .int (nI (0 + nlen q K M (li - 1 - rw - q - 1))), .ref md, .int at0, .int lk])), (mw, .inl (cI, 2, .inl lw)), (mu, .inl (cI, 4, .inl (upd su 1 (nI (hvd ct (sm + (M + 1 - 1) / 2)))))), (mc, .inl (cI, 4, .inl (upd cu 1 (nI (hvd ct ct + 1))))), (mn, .inl (cI, 4, .inl (upd nu 1 (nI (hvd ct ng))))), (mr, .inl (cB, 6000, .inl (cpw wr sz (wnum dr q K M (li - 1 - rw - q - 1) 0) (0 + nlen q K M (li - 1 - rw - q - 1))))), (md, .inl (cB, 400, .inl (wnum dr q K M (li - 1 - rw - q - 1) 0)))] D) 0 0 (ad [(y, .inr (5, [.int th, .int (nI bi), .int (nI ne), .int (nI li), .int (nI sp), .int (nI q), .ref ms, .ref mw, .ref mu, .ref mc, .ref mn, .int en, .int (nI sz), .ref mr, .int (nI wa), .ref mq, .int la, .ref md, .int at0, .int lk])), (mw, .inl (cI, 2, .inl lw)), (mu, .inl (cI, 4, .inl su)), (mc, .inl (cI, 4, .inl cu)), (mn, .inl (cI, 4, .inl nu)), (mr, .inl (cB, 6000, .inl wr)), (md, .inl (cB, 400, .inl dr))]) := by
  refine Met.ofW (cc := b_M_interrupt) (maxL := 5) (ret := (some .int)) (by decide) rfl ?_
  intro p e s m args below meth c s₁ B hml hv
  obtain ⟨rfl, hP, hK, hD0⟩ := hv
  have hx := B.exec
  have hb := B.bytes
  have hr := B.returns
  have hts := atoms_spec (ws := WSY y_M_interrupt b_M_interrupt 5 (some .int)) B.pre
  have hg : ∀ w ∈ GW, w.before _ s = true := fun w h => hts w (List.mem_cons_of_mem _ h)
  have hown : s.vm.findClass "LineGolombModel" = some m.cls := findClass_of_methodNamed B.named
  have hlocks := B.notSynchronized
  obtain ⟨A, hAe⟩ : ∃ A, A = ad [(y, .inr (5, [.int th, .int (nI bi), .int (nI ne), .int (nI li), .int (nI sp), .int (nI q), .ref ms, .ref mw, .ref mu, .ref mc, .ref mn, .int en, .int (nI sz), .ref mr, .int (nI wa), .ref mq, .int la, .ref md, .int at0, .int lk])), (mw, .inl (cI, 2, .inl lw)), (mu, .inl (cI, 4, .inl su)), (mc, .inl (cI, 4, .inl cu)), (mn, .inl (cI, 4, .inl nu)), (mr, .inl (cB, 6000, .inl wr)), (md, .inl (cB, 400, .inl dr))] := ⟨_, rfl⟩
  have hD : va_D A [(y, .inr (5, [.int th, .int (nI bi), .int (nI ne), .int (nI li), .int (nI sp), .int (nI q), .ref ms, .ref mw, .ref mu, .ref mc, .ref mn, .int en, .int (nI sz), .ref mr, .int (nI wa), .ref mq, .int la, .ref md, .int at0, .int lk])), (mw, .inl (cI, 2, .inl lw)), (mu, .inl (cI, 4, .inl su)), (mc, .inl (cI, 4, .inl cu)), (mn, .inl (cI, 4, .inl nu)), (mr, .inl (cB, 6000, .inl wr)), (md, .inl (cB, 400, .inl dr))] := by rw [hAe]; exact va_D_ad hD0
  have hS : va_S A s.heap s.heap [] := va_S.rf
  have hl := lv_entry ([.ref y, .int 1, .int (nI n)]) (n := 5) (Nat.le_of_ble_eq_true rfl)
  rw [lg_entry_eq]
  generalize (lg_sl ([.ref y, .int 1, .int (nI n)]) ++ List.replicate (5 - (lg_sl ([.ref y, .int 1, .int (nI n)])).length) Slot.unset).toArray = ls at hl ⊢
  have hl : lv_has ls 5 [(0, .ref y), (1, .int 1), (2, .int (nI n))] := hl
  have hMb : M ≤ 2 * n := by rw [hM]; omega
  have hlen : nlen q K M (li - 1 - rw - q - 1) ≤ 400 := by unfold nlen; split <;> omega
  refine lv_aload_n hx hb d_M_interrupt_0 rfl (lv_at hl 0 rfl) ?_
  refine lv_aload_n hx hb d_M_interrupt_1 rfl (lv_at hl 0 rfl) ?_
  refine lv_iload_n hx hb d_M_interrupt_2 rfl (lv_at hl 1 rfl) ?_
  have hPc := hP.sub (ws' := [(y, .inr (5, [.int th, .int (nI bi), .int (nI ne), .int (nI li), .int (nI sp), .int (nI q), .ref ms, .ref mw, .ref mu, .ref mc, .ref mn, .int en, .int (nI sz), .ref mr, .int (nI wa), .ref mq, .int la, .ref md, .int at0, .int lk]))]) [0] rfl
  have hKc := hK.sub (tys' := []) [] rfl
  refine pci (va_runV (As := [.int 1]) (rest := [.ref y]) ⟨hx, hb, hml, hown, hg⟩ (c_M_isKind l D y ms mw mu mc mn mr mq md bi ne li sp q sz wa th en la at0 lk 1) (cwV 1 hg (gV gw_626 gw_628 gs_18 gw_7 gw_629) rfl rfl rfl (by decide +kernel) ⟨Nat.le_of_ble_eq_true rfl, Nat.le_of_ble_eq_true rfl⟩) ⟨fun a U g mk q => by obtain ⟨q0, qP, qK⟩ := q; exact ⟨q0, qP, va_K.moved (u := U) (U := U.calling g mk a) (Vm.Alike.refl U.vm) qK⟩, va_recv hKc hPc (ci := 5) (q0 := 0) rfl rfl, fun U hU hW => ⟨rfl, by rw [hU]; exact hPc, va_K.moved hW.alike hKc⟩⟩ rfl rfl hl.1 rfl (lv_room (Nat.le_of_ble_eq_true rfl)) d_M_interrupt_3 (⟨Nat.le_of_ble_eq_true rfl, Nat.le_of_ble_eq_true rfl⟩)) ?_
  refine tpi (y := 1) (by decide) ?_
  refine lv_if_ne (tgt := 13) hx hb d_M_interrupt_6 (by decide) (fun c_1 => ?_) (fun c_1 => ?_)
  · skip
    refine lv_aload_n hx hb d_M_interrupt_13 rfl (lv_at hl 0 rfl) ?_
    refine lv_iload_n hx hb d_M_interrupt_14 rfl (lv_at hl 1 rfl) ?_
    refine lv_iload_n hx hb d_M_interrupt_15 rfl (lv_at hl 2 rfl) ?_
    have hPc := hP.sub (ws' := [(y, .inr (5, [.int th, .int (nI bi), .int (nI ne), .int (nI li), .int (nI sp), .int (nI q), .ref ms, .ref mw, .ref mu, .ref mc, .ref mn, .int en, .int (nI sz), .ref mr, .int (nI wa), .ref mq, .int la, .ref md, .int at0, .int lk]))]) [0] rfl
    have hKc := hK.sub (tys' := []) [] rfl
    refine pci (va_runV (As := [.int 1, .int (nI n)]) (rest := [.ref y]) ⟨hx, hb, hml, hown, hg⟩ (c_M_isError l D y ms mw mu mc mn mr mq md bi ne li sp q sz wa th en la at0 lk 1 (nI n) (by omega)) (cwV 2 hg (gV gw_630 gw_632 gs_19 gw_7 gw_633) rfl rfl rfl (by decide +kernel) ⟨Nat.le_of_ble_eq_true rfl, Nat.le_of_ble_eq_true rfl⟩) ⟨fun a U g mk q => by obtain ⟨q0, qP, qK⟩ := q; exact ⟨q0, qP, va_K.moved (u := U) (U := U.calling g mk a) (Vm.Alike.refl U.vm) qK⟩, va_recv hKc hPc (ci := 5) (q0 := 0) rfl rfl, fun U hU hW => ⟨rfl, by rw [hU]; exact hPc, va_K.moved hW.alike hKc⟩⟩ rfl rfl hl.1 rfl (lv_room (Nat.le_of_ble_eq_true rfl)) d_M_interrupt_16 (⟨Nat.le_of_ble_eq_true rfl, Nat.le_of_ble_eq_true rfl⟩)) ?_
    refine tpi (y := 1) (if_pos ⟨by rw [nI_toInt (by omega)]; omega, by rw [nI_toInt (by omega)]; omega, Or.inl (nI_ne0 hn1 (by omega))⟩) ?_
    refine lv_if_ne (tgt := 26) hx hb d_M_interrupt_19 (by decide) (fun c_2 => ?_) (fun c_2 => ?_)
    · skip
      refine lv_iconst (v := 0) hx hb d_M_interrupt_26 (by decide) ?_
      refine va_put (D := D) (ci := 5) (v := .int 0) (ty := .int) (C := R_M) (T := T_M) (N := 20) hx hb hg in_M ty_M tok_M nm_M hown hK hP hD hS 0 rfl rfl 0 (by decide) (hg _ gw_524) (fun _ h9 => h9) rfl (by decide +kernel) (rfl) (rfl) (Nat.le_of_ble_eq_true rfl) d_M_interrupt_27 (fun H locs hP hD hS => ?_)
      have hP : va_P D CLS [(y, .inr (5, [.int 0, .int (nI bi), .int (nI ne), .int (nI li), .int (nI sp), .int (nI q), .ref ms, .ref mw, .ref mu, .ref mc, .ref mn, .int en, .int (nI sz), .ref mr, .int (nI wa), .ref mq, .int la, .ref md, .int at0, .int lk])), (mw, .inl (cI, 2, .inl lw)), (mu, .inl (cI, 4, .inl su)), (mc, .inl (cI, 4, .inl cu)), (mn, .inl (cI, 4, .inl nu)), (mr, .inl (cB, 6000, .inl wr)), (md, .inl (cB, 400, .inl dr))] H := hP
      have hD : va_D A [(y, .inr (5, [.int 0, .int (nI bi), .int (nI ne), .int (nI li), .int (nI sp), .int (nI q), .ref ms, .ref mw, .ref mu, .ref mc, .ref mn, .int en, .int (nI sz), .ref mr, .int (nI wa), .ref mq, .int la, .ref md, .int at0, .int lk])), (mw, .inl (cI, 2, .inl lw)), (mu, .inl (cI, 4, .inl su)), (mc, .inl (cI, 4, .inl cu)), (mn, .inl (cI, 4, .inl nu)), (mr, .inl (cB, 6000, .inl wr)), (md, .inl (cB, 400, .inl dr))] := hD
      refine lv_aload_n hx hb d_M_interrupt_30 rfl (lv_at hl 0 rfl) ?_
      refine va_get (D := D) (ci := 5) (v := .int 0) (C := R_M) (T := T_M) (N := 20) hx hb hg in_M hown hK hP 0 rfl rfl 0 (by decide) (hg _ gw_524) (fun _ h9 => h9) rfl d_M_interrupt_31 ?_
      refine lv_if_le (tgt := 39) hx hb d_M_interrupt_34 (by decide) (fun c_3 => ?_) (fun c_3 => ?_)
      · skip
        refine lv_aload_n hx hb d_M_interrupt_39 rfl (lv_at hl 0 rfl) ?_
        refine lv_iload_n hx hb d_M_interrupt_40 rfl (lv_at hl 1 rfl) ?_
        have hPc := hP.sub (ws' := [(y, .inr (5, [.int 0, .int (nI bi), .int (nI ne), .int (nI li), .int (nI sp), .int (nI q), .ref ms, .ref mw, .ref mu, .ref mc, .ref mn, .int en, .int (nI sz), .ref mr, .int (nI wa), .ref mq, .int la, .ref md, .int at0, .int lk])), (mu, .inl (cI, 4, .inl su)), (mc, .inl (cI, 4, .inl cu)), (mn, .inl (cI, 4, .inl nu))]) [0, 2, 3, 4] rfl
        have hKc := hK.sub (tys' := [(cI, .int)]) [1] rfl
        refine pci (va_runV (As := [.int 1]) (rest := []) ⟨hx, hb, hml, hown, hg⟩ (c_M_isUp1 l D y ms mw mu mc mn mr mq md bi ne li sp q sz wa 0 en la at0 lk cI su cu nu sm ct ng K hsu hcu hnu hc0 hn0 (by omega) hKb hK1 hK2) (cwV 1 hg (gV gw_634 gw_636 gs_20 gw_7 gw_637) rfl rfl rfl (by decide +kernel) ⟨Nat.le_of_ble_eq_true rfl, Nat.le_of_ble_eq_true rfl⟩) ⟨fun a U g mk q => by obtain ⟨q0, qP, qK⟩ := q; exact ⟨q0, qP, va_K.moved (u := U) (U := U.calling g mk a) (Vm.Alike.refl U.vm) qK⟩, va_recv hKc hPc (ci := 5) (q0 := 0) rfl rfl, fun U hU hW => ⟨rfl, by rw [hU]; exact hPc, va_K.moved hW.alike hKc⟩⟩ rfl rfl hl.1 rfl (lv_room (Nat.le_of_ble_eq_true rfl)) d_M_interrupt_41 (⟨Nat.le_of_ble_eq_true rfl, Nat.le_of_ble_eq_true rfl⟩)) ?_
        by_cases hup : (K = 0 ∧ 2 * ng < ct)
        · skip
          refine tpi (y := 1) (if_pos hup) ?_
          refine lv_if_eq (tgt := 59) hx hb d_M_interrupt_44 (by decide) (fun c_4 => ?_) (fun c_4 => ?_)
          · skip
            exact absurd c_4 (by decide)
          · skip
            refine lv_iload_n hx hb d_M_interrupt_47 rfl (lv_at hl 2 rfl) ?_
            refine lv_if_le (tgt := 55) hx hb d_M_interrupt_48 (by decide) (fun c_5 => ?_) (fun c_5 => ?_)
            · skip
              have hn00 : n = 0 := Nat.eq_zero_of_not_pos (fun q9 => nI_nle q9 (by omega) c_5)
              exact absurd hn00 (by omega)
            · skip
              have hn00 : ¬ n = 0 := fun q9 => c_5 (by rw [q9]; decide)
              have hfl : (if ¬ n = 0 ∧ (K = 0 ∧ 2 * ng < ct) then 1 else 0 : Nat) = 1 := if_pos ⟨hn00, hup⟩
              refine lv_iconst (v := 1) hx hb d_M_interrupt_51 (by decide) ?_
              refine lv_goto (tgt := 68) hx hb d_M_interrupt_52 (by decide) ?_
              refine lv_istore_n (lv' := [(3, .int 1), (0, .ref y), (1, .int 1), (2, .int (nI n))]) hx hb d_M_interrupt_68 rfl hl (by decide) rfl (fun ls hl => ?_)
              refine lv_iconst (v := 2) hx hb d_M_interrupt_69 (by decide) ?_
              refine lv_iload_n hx hb d_M_interrupt_70 rfl (lv_at hl 3 rfl) ?_
              refine lv_if_ge (tgt := 79) hx hb d_M_interrupt_71 (by decide) (fun c_6 => ?_) (fun c_6 => ?_)
              · skip
                refine lv_iload_n hx hb d_M_interrupt_79 rfl (lv_at hl 3 rfl) ?_
                refine lv_imul hx hb d_M_interrupt_80 ?_
                refine tpi (y := nI (2 * n)) (mul2 n) ?_
                refine lv_iload_n hx hb d_M_interrupt_81 rfl (lv_at hl 2 rfl) ?_
                refine lv_isub hx hb d_M_interrupt_82 ?_
                refine tpi (y := nI (2 * n - 1)) (pk_sub (b := 1) (by omega)) ?_
                refine lv_iload_n hx hb d_M_interrupt_83 rfl (lv_at hl 0 rfl) ?_
                refine lv_if_eq (tgt := 91) hx hb d_M_interrupt_84 (by decide) (fun c_7 => ?_) (fun c_7 => ?_)
                · skip
                  exact absurd c_7 (by decide)
                · skip
                  refine lv_iconst (v := 1) hx hb d_M_interrupt_87 (by decide) ?_
                  refine lv_goto (tgt := 92) hx hb d_M_interrupt_88 (by decide) ?_
                  refine lv_isub hx hb d_M_interrupt_92 ?_
                  refine tpi (y := nI M) ((pk_sub (b := 1) (by omega)).trans (congrArg nI (by rw [hM, hfl]))) ?_
                  refine lv_istore (lv' := [(4, .int (nI M)), (3, .int 1), (0, .ref y), (1, .int 1), (2, .int (nI n))]) hx hb d_M_interrupt_93 hl (by decide) rfl (fun ls hl => ?_)
                  refine lv_aload_n hx hb d_M_interrupt_95 rfl (lv_at hl 2 rfl) ?_
                  refine lv_iconst (v := 0) hx hb d_M_interrupt_96 (by decide) ?_
                  refine tpi (y := nI 0) (rfl) ?_
                  refine va_put (D := D) (ci := 5) (v := .int (nI 0)) (ty := .int) (C := R_M) (T := T_M) (N := 20) hx hb hg in_M ty_M tok_M nm_M hown hK hP hD hS 0 rfl rfl 16 (by decide) (hg _ gw_540) (fun _ h9 => h9) rfl (by decide +kernel) (rfl) (rfl) (Nat.le_of_ble_eq_true rfl) d_M_interrupt_97 (fun H locs hP hD hS => ?_)
                  have hP : va_P D CLS [(y, .inr (5, [.int 0, .int (nI bi), .int (nI ne), .int (nI li), .int (nI sp), .int (nI q), .ref ms, .ref mw, .ref mu, .ref mc, .ref mn, .int en, .int (nI sz), .ref mr, .int (nI wa), .ref mq, .int (nI 0), .ref md, .int at0, .int lk])), (mw, .inl (cI, 2, .inl lw)), (mu, .inl (cI, 4, .inl su)), (mc, .inl (cI, 4, .inl cu)), (mn, .inl (cI, 4, .inl nu)), (mr, .inl (cB, 6000, .inl wr)), (md, .inl (cB, 400, .inl dr))] H := hP
                  have hD : va_D A [(y, .inr (5, [.int 0, .int (nI bi), .int (nI ne), .int (nI li), .int (nI sp), .int (nI q), .ref ms, .ref mw, .ref mu, .ref mc, .ref mn, .int en, .int (nI sz), .ref mr, .int (nI wa), .ref mq, .int (nI 0), .ref md, .int at0, .int lk])), (mw, .inl (cI, 2, .inl lw)), (mu, .inl (cI, 4, .inl su)), (mc, .inl (cI, 4, .inl cu)), (mn, .inl (cI, 4, .inl nu)), (mr, .inl (cB, 6000, .inl wr)), (md, .inl (cB, 400, .inl dr))] := hD
                  refine lv_aload_n hx hb d_M_interrupt_100 rfl (lv_at hl 2 rfl) ?_
                  refine lv_iload hx hb d_M_interrupt_101 (lv_at hl 0 rfl) ?_
                  refine lv_aload_n hx hb d_M_interrupt_103 rfl (lv_at hl 2 rfl) ?_
                  refine lv_iload_n hx hb d_M_interrupt_104 rfl (lv_at hl 3 rfl) ?_
                  have hPc := hP.sub (ws' := [(y, .inr (5, [.int 0, .int (nI bi), .int (nI ne), .int (nI li), .int (nI sp), .int (nI q), .ref ms, .ref mw, .ref mu, .ref mc, .ref mn, .int en, .int (nI sz), .ref mr, .int (nI wa), .ref mq, .int (nI 0), .ref md, .int at0, .int lk])), (mu, .inl (cI, 4, .inl su)), (mc, .inl (cI, 4, .inl cu)), (mn, .inl (cI, 4, .inl nu))]) [0, 2, 3, 4] rfl
                  have hKc := hK.sub (tys' := [(cI, .int)]) [1] rfl
                  refine pci (va_runV (As := [.int 1]) (rest := [.int (nI M), .ref y]) ⟨hx, hb, hml, hown, hg⟩ (c_M_kOf1 l D y ms mw mu mc mn mr mq md bi ne li sp q sz wa 0 en (nI 0) at0 lk cI su cu nu sm ct ng K hsu hcu hnu hc0 hn0 (by omega) hKb hK1 hK2) (cwV 1 hg (gV gw_638 gw_640 gs_21 gw_7 gw_641) rfl rfl rfl (by decide +kernel) ⟨Nat.le_of_ble_eq_true rfl, Nat.le_of_ble_eq_true rfl⟩) ⟨fun a U g mk q => by obtain ⟨q0, qP, qK⟩ := q; exact ⟨q0, qP, va_K.moved (u := U) (U := U.calling g mk a) (Vm.Alike.refl U.vm) qK⟩, va_recv hKc hPc (ci := 5) (q0 := 0) rfl rfl, fun U hU hW => ⟨rfl, by rw [hU]; exact hPc, va_K.moved hW.alike hKc⟩⟩ rfl rfl hl.1 rfl (lv_room (Nat.le_of_ble_eq_true rfl)) d_M_interrupt_105 (⟨Nat.le_of_ble_eq_true rfl, Nat.le_of_ble_eq_true rfl⟩)) ?_
                  refine lv_aload_n hx hb d_M_interrupt_108 rfl (lv_at hl 2 rfl) ?_
                  refine lv_iconst (v := 0) hx hb d_M_interrupt_109 (by decide) ?_
                  have hPc := hP.sub (ws' := [(y, .inr (5, [.int 0, .int (nI bi), .int (nI ne), .int (nI li), .int (nI sp), .int (nI q), .ref ms, .ref mw, .ref mu, .ref mc, .ref mn, .int en, .int (nI sz), .ref mr, .int (nI wa), .ref mq, .int (nI 0), .ref md, .int at0, .int lk])), (mw, .inl (cI, 2, .inl lw))]) [0, 1] rfl
                  have hKc := hK.sub (tys' := [(cI, .int)]) [1] rfl
                  refine pci (va_runV (As := [.int 0]) (rest := [.int (nI K), .int (nI M), .ref y]) ⟨hx, hb, hml, hown, hg⟩ (c_M_limitFor0 l D y ms mw mu mc mn mr mq md bi ne li sp q sz wa 0 en (nI 0) at0 lk cI lw rw hlw (by omega)) (cwV 1 hg (gV gw_642 gw_644 gs_22 gw_7 gw_645) rfl rfl rfl (by decide +kernel) ⟨Nat.le_of_ble_eq_true rfl, Nat.le_of_ble_eq_true rfl⟩) ⟨fun a U g mk q => by obtain ⟨q0, qP, qK⟩ := q; exact ⟨q0, qP, va_K.moved (u := U) (U := U.calling g mk a) (Vm.Alike.refl U.vm) qK⟩, va_recv hKc hPc (ci := 5) (q0 := 0) rfl rfl, fun U hU hW => ⟨rfl, by rw [hU]; exact hPc, va_K.moved hW.alike hKc⟩⟩ rfl rfl hl.1 rfl (lv_room (Nat.le_of_ble_eq_true rfl)) d_M_interrupt_110 (⟨Nat.le_of_ble_eq_true rfl, Nat.le_of_ble_eq_true rfl⟩)) ?_
                  have hPc := hP.sub (ws' := [(y, .inr (5, [.int 0, .int (nI bi), .int (nI ne), .int (nI li), .int (nI sp), .int (nI q), .ref ms, .ref mw, .ref mu, .ref mc, .ref mn, .int en, .int (nI sz), .ref mr, .int (nI wa), .ref mq, .int (nI 0), .ref md, .int at0, .int lk])), (md, .inl (cB, 400, .inl dr))]) [0, 6] rfl
                  have hDc := hD.sub (ws' := [(y, .inr (5, [.int 0, .int (nI bi), .int (nI ne), .int (nI li), .int (nI sp), .int (nI q), .ref ms, .ref mw, .ref mu, .ref mc, .ref mn, .int en, .int (nI sz), .ref mr, .int (nI wa), .ref mq, .int (nI 0), .ref md, .int at0, .int lk])), (md, .inl (cB, 400, .inl dr))]) [0, 6] (by decide) rfl
                  have hKc := hK.sub (tys' := [(cB, .byte)]) [0] rfl
                  refine mcv (va_runV (As := [.int (nI M), .int (nI K), .int (nI (li - 1 - rw))]) (rest := []) ⟨hx, hb, hml, hown, hg⟩ (c_M_layNumber l D y ms mw mu mc mn mr mq md bi ne li sp q sz wa 0 en (nI 0) at0 lk cB dr 0 M K (li - 1 - rw) (by omega) (by omega) (by omega) (by omega) (by omega) (by omega)) (cwV 3 hg (gV gw_594 gw_596 gs_13 gw_7 gw_597) rfl rfl rfl (by decide +kernel) ⟨Nat.le_of_ble_eq_true rfl, Nat.le_of_ble_eq_true rfl⟩) ⟨fun a U g mk q => by obtain ⟨q0, qP, qK, qD⟩ := q; exact ⟨q0, qP, va_K.moved (u := U) (U := U.calling g mk a) (Vm.Alike.refl U.vm) qK, qD⟩, va_recv hKc hPc (ci := 5) (q0 := 0) rfl rfl, fun U hU hW => ⟨rfl, by rw [hU]; exact hPc, va_K.moved hW.alike hKc, hDc.weaken (fun _ _ _ _ => trivial)⟩⟩ rfl rfl hl.1 rfl (lv_room (Nat.le_of_ble_eq_true rfl)) d_M_interrupt_113 (⟨Nat.le_of_ble_eq_true rfl, Nat.le_of_ble_eq_true rfl⟩)) hS hP hD [0, 6] rfl rfl rfl (fun H locs hP hD hS => ?_)
                  have hP : va_P D CLS [(y, .inr (5, [.int 0, .int (nI bi), .int (nI ne), .int (nI li), .int (nI sp), .int (nI q), .ref ms, .ref mw, .ref mu, .ref mc, .ref mn, .int en, .int (nI sz), .ref mr, .int (nI wa), .ref mq, .int (nI (0 + nlen q K M (li - 1 - rw - q - 1))), .ref md, .int at0, .int lk])), (mw, .inl (cI, 2, .inl lw)), (mu, .inl (cI, 4, .inl su)), (mc, .inl (cI, 4, .inl cu)), (mn, .inl (cI, 4, .inl nu)), (mr, .inl (cB, 6000, .inl wr)), (md, .inl (cB, 400, .inl (wnum dr q K M (li - 1 - rw - q - 1) 0)))] H := hP
                  have hD : va_D A [(y, .inr (5, [.int 0, .int (nI bi), .int (nI ne), .int (nI li), .int (nI sp), .int (nI q), .ref ms, .ref mw, .ref mu, .ref mc, .ref mn, .int en, .int (nI sz), .ref mr, .int (nI wa), .ref mq, .int (nI (0 + nlen q K M (li - 1 - rw - q - 1))), .ref md, .int at0, .int lk])), (mw, .inl (cI, 2, .inl lw)), (mu, .inl (cI, 4, .inl su)), (mc, .inl (cI, 4, .inl cu)), (mn, .inl (cI, 4, .inl nu)), (mr, .inl (cB, 6000, .inl wr)), (md, .inl (cB, 400, .inl (wnum dr q K M (li - 1 - rw - q - 1) 0)))] := hD
                  refine lv_aload_n hx hb d_M_interrupt_116 rfl (lv_at hl 2 rfl) ?_
                  refine lv_aload_n hx hb d_M_interrupt_117 rfl (lv_at hl 2 rfl) ?_
                  have hPc := hP.sub (ws' := [(y, .inr (5, [.int 0, .int (nI bi), .int (nI ne), .int (nI li), .int (nI sp), .int (nI q), .ref ms, .ref mw, .ref mu, .ref mc, .ref mn, .int en, .int (nI sz), .ref mr, .int (nI wa), .ref mq, .int (nI (0 + nlen q K M (li - 1 - rw - q - 1))), .ref md, .int at0, .int lk]))]) [0] rfl
                  have hKc := hK.sub (tys' := []) [] rfl
                  refine pci (va_runV (As := []) (rest := [.ref y]) ⟨hx, hb, hml, hown, hg⟩ (c_M_hasRoom l D y ms mw mu mc mn mr mq md bi ne li sp q sz wa 0 en (nI (0 + nlen q K M (li - 1 - rw - q - 1))) at0 lk (0 + nlen q K M (li - 1 - rw - q - 1)) hsz (by omega)) (cwV 0 hg (gV gw_606 gw_608 gs_16 gw_7 gw_609) rfl rfl rfl (by decide +kernel) ⟨Nat.le_of_ble_eq_true rfl, Nat.le_of_ble_eq_true rfl⟩) ⟨fun a U g mk q => by obtain ⟨q0, qP, qK⟩ := q; exact ⟨q0, qP, va_K.moved (u := U) (U := U.calling g mk a) (Vm.Alike.refl U.vm) qK⟩, va_recv hKc hPc (ci := 5) (q0 := 0) rfl rfl, fun U hU hW => ⟨rfl, by rw [hU]; exact hPc, va_K.moved hW.alike hKc⟩⟩ rfl rfl hl.1 rfl (lv_room (Nat.le_of_ble_eq_true rfl)) d_M_interrupt_118 (⟨Nat.le_of_ble_eq_true rfl, Nat.le_of_ble_eq_true rfl⟩)) ?_
                  refine tpi (y := 1) (if_pos (by omega)) ?_
                  refine lv_if_eq (tgt := 128) hx hb d_M_interrupt_121 (by decide) (fun c_8 => ?_) (fun c_8 => ?_)
                  · skip
                    exact absurd c_8 (by decide)
                  · skip
                    refine lv_iconst (v := 0) hx hb d_M_interrupt_124 (by decide) ?_
                    refine lv_goto (tgt := 129) hx hb d_M_interrupt_125 (by decide) ?_
                    refine va_put (D := D) (ci := 5) (v := .int 0) (ty := .int) (C := R_M) (T := T_M) (N := 20) hx hb hg in_M ty_M tok_M nm_M hown hK hP hD hS 0 rfl rfl 0 (by decide) (hg _ gw_524) (fun _ h9 => h9) rfl (by decide +kernel) (rfl) (rfl) (Nat.le_of_ble_eq_true rfl) d_M_interrupt_129 (fun H locs hP hD hS => ?_)
                    have hP : va_P D CLS [(y, .inr (5, [.int 0, .int (nI bi), .int (nI ne), .int (nI li), .int (nI sp), .int (nI q), .ref ms, .ref mw, .ref mu, .ref mc, .ref mn, .int en, .int (nI sz), .ref mr, .int (nI wa), .ref mq, .int (nI (0 + nlen q K M (li - 1 - rw - q - 1))), .ref md, .int at0, .int lk])), (mw, .inl (cI, 2, .inl lw)), (mu, .inl (cI, 4, .inl su)), (mc, .inl (cI, 4, .inl cu)), (mn, .inl (cI, 4, .inl nu)), (mr, .inl (cB, 6000, .inl wr)), (md, .inl (cB, 400, .inl (wnum dr q K M (li - 1 - rw - q - 1) 0)))] H := hP
                    have hD : va_D A [(y, .inr (5, [.int 0, .int (nI bi), .int (nI ne), .int (nI li), .int (nI sp), .int (nI q), .ref ms, .ref mw, .ref mu, .ref mc, .ref mn, .int en, .int (nI sz), .ref mr, .int (nI wa), .ref mq, .int (nI (0 + nlen q K M (li - 1 - rw - q - 1))), .ref md, .int at0, .int lk])), (mw, .inl (cI, 2, .inl lw)), (mu, .inl (cI, 4, .inl su)), (mc, .inl (cI, 4, .inl cu)), (mn, .inl (cI, 4, .inl nu)), (mr, .inl (cB, 6000, .inl wr)), (md, .inl (cB, 400, .inl (wnum dr q K M (li - 1 - rw - q - 1) 0)))] := hD
                    refine lv_aload_n hx hb d_M_interrupt_132 rfl (lv_at hl 2 rfl) ?_
                    refine va_get (D := D) (ci := 5) (v := .int 0) (C := R_M) (T := T_M) (N := 20) hx hb hg in_M hown hK hP 0 rfl rfl 0 (by decide) (hg _ gw_524) (fun _ h9 => h9) rfl d_M_interrupt_133 ?_
                    refine lv_if_le (tgt := 141) hx hb d_M_interrupt_136 (by decide) (fun c_9 => ?_) (fun c_9 => ?_)
                    · skip
                      refine lv_aload_n hx hb d_M_interrupt_141 rfl (lv_at hl 2 rfl) ?_
                      refine lv_iload_n hx hb d_M_interrupt_142 rfl (lv_at hl 3 rfl) ?_
                      refine lv_iload_n hx hb d_M_interrupt_143 rfl (lv_at hl 3 rfl) ?_
                      refine lv_iload hx hb d_M_interrupt_144 (lv_at hl 0 rfl) ?_
                      refine lv_iload_n hx hb d_M_interrupt_146 rfl (lv_at hl 4 rfl) ?_
                      have hPc := hP.sub (ws' := [(y, .inr (5, [.int 0, .int (nI bi), .int (nI ne), .int (nI li), .int (nI sp), .int (nI q), .ref ms, .ref mw, .ref mu, .ref mc, .ref mn, .int en, .int (nI sz), .ref mr, .int (nI wa), .ref mq, .int (nI (0 + nlen q K M (li - 1 - rw - q - 1))), .ref md, .int at0, .int lk])), (mu, .inl (cI, 4, .inl su)), (mc, .inl (cI, 4, .inl cu)), (mn, .inl (cI, 4, .inl nu))]) [0, 2, 3, 4] rfl
                      have hDc := hD.sub (ws' := [(y, .inr (5, [.int 0, .int (nI bi), .int (nI ne), .int (nI li), .int (nI sp), .int (nI q), .ref ms, .ref mw, .ref mu, .ref mc, .ref mn, .int en, .int (nI sz), .ref mr, .int (nI wa), .ref mq, .int (nI (0 + nlen q K M (li - 1 - rw - q - 1))), .ref md, .int at0, .int lk])), (mu, .inl (cI, 4, .inl su)), (mc, .inl (cI, 4, .inl cu)), (mn, .inl (cI, 4, .inl nu))]) [0, 2, 3, 4] (by decide) rfl
                      have hKc := hK.sub (tys' := [(cI, .int)]) [1] rfl
                      refine mcv (va_runV (As := [.int 1, .int 1, .int (nI M), .int (nI n)]) (rest := []) ⟨hx, hb, hml, hown, hg⟩ (c_M_learn1P l D y ms mw mu mc mn mr mq md bi ne li sp q sz wa 0 en (nI (0 + nlen q K M (li - 1 - rw - q - 1))) at0 lk cI su cu nu sm ct ng n M hsu hcu hnu hc0 hn0 hs0 (by omega) (by omega)) (cwV 4 hg (gV gw_646 gw_648 gs_23 gw_7 gw_649) rfl rfl rfl (by decide +kernel) ⟨Nat.le_of_ble_eq_true rfl, Nat.le_of_ble_eq_true rfl⟩) ⟨fun a U g mk q => by obtain ⟨q0, qP, qK, qD⟩ := q; exact ⟨q0, qP, va_K.moved (u := U) (U := U.calling g mk a) (Vm.Alike.refl U.vm) qK, qD⟩, va_recv hKc hPc (ci := 5) (q0 := 0) rfl rfl, fun U hU hW => ⟨rfl, by rw [hU]; exact hPc, va_K.moved hW.alike hKc, hDc.weaken (fun _ _ _ _ => trivial)⟩⟩ rfl rfl hl.1 rfl (lv_room (Nat.le_of_ble_eq_true rfl)) d_M_interrupt_147 (⟨Nat.le_of_ble_eq_true rfl, Nat.le_of_ble_eq_true rfl⟩)) hS hP hD [0, 2, 3, 4] rfl rfl rfl (fun H locs hP hD hS => ?_)
                      have hP : va_P D CLS [(y, .inr (5, [.int 0, .int (nI bi), .int (nI ne), .int (nI li), .int (nI sp), .int (nI q), .ref ms, .ref mw, .ref mu, .ref mc, .ref mn, .int en, .int (nI sz), .ref mr, .int (nI wa), .ref mq, .int (nI (0 + nlen q K M (li - 1 - rw - q - 1))), .ref md, .int at0, .int lk])), (mw, .inl (cI, 2, .inl lw)), (mu, .inl (cI, 4, .inl (upd su 1 (nI (hvd ct (sm + (M + 1 - 1) / 2)))))), (mc, .inl (cI, 4, .inl (upd cu 1 (nI (hvd ct ct + 1))))), (mn, .inl (cI, 4, .inl (upd nu 1 (nI (hvd ct ng))))), (mr, .inl (cB, 6000, .inl wr)), (md, .inl (cB, 400, .inl (wnum dr q K M (li - 1 - rw - q - 1) 0)))] H := hP
                      have hD : va_D A [(y, .inr (5, [.int 0, .int (nI bi), .int (nI ne), .int (nI li), .int (nI sp), .int (nI q), .ref ms, .ref mw, .ref mu, .ref mc, .ref mn, .int en, .int (nI sz), .ref mr, .int (nI wa), .ref mq, .int (nI (0 + nlen q K M (li - 1 - rw - q - 1))), .ref md, .int at0, .int lk])), (mw, .inl (cI, 2, .inl lw)), (mu, .inl (cI, 4, .inl (upd su 1 (nI (hvd ct (sm + (M + 1 - 1) / 2)))))), (mc, .inl (cI, 4, .inl (upd cu 1 (nI (hvd ct ct + 1))))), (mn, .inl (cI, 4, .inl (upd nu 1 (nI (hvd ct ng))))), (mr, .inl (cB, 6000, .inl wr)), (md, .inl (cB, 400, .inl (wnum dr q K M (li - 1 - rw - q - 1) 0)))] := hD
                      refine lv_aload_n hx hb d_M_interrupt_150 rfl (lv_at hl 2 rfl) ?_
                      have hPc := hP.sub (ws' := [(y, .inr (5, [.int 0, .int (nI bi), .int (nI ne), .int (nI li), .int (nI sp), .int (nI q), .ref ms, .ref mw, .ref mu, .ref mc, .ref mn, .int en, .int (nI sz), .ref mr, .int (nI wa), .ref mq, .int (nI (0 + nlen q K M (li - 1 - rw - q - 1))), .ref md, .int at0, .int lk])), (mr, .inl (cB, 6000, .inl wr)), (md, .inl (cB, 400, .inl (wnum dr q K M (li - 1 - rw - q - 1) 0)))]) [0, 5, 6] rfl
                      have hDc := hD.sub (ws' := [(y, .inr (5, [.int 0, .int (nI bi), .int (nI ne), .int (nI li), .int (nI sp), .int (nI q), .ref ms, .ref mw, .ref mu, .ref mc, .ref mn, .int en, .int (nI sz), .ref mr, .int (nI wa), .ref mq, .int (nI (0 + nlen q K M (li - 1 - rw - q - 1))), .ref md, .int at0, .int lk])), (mr, .inl (cB, 6000, .inl wr)), (md, .inl (cB, 400, .inl (wnum dr q K M (li - 1 - rw - q - 1) 0)))]) [0, 5, 6] (by decide) rfl
                      have hKc := hK.sub (tys' := [(cB, .byte)]) [0] rfl
                      refine mci (va_runV (As := []) (rest := []) ⟨hx, hb, hml, hown, hg⟩ (c_M_write l D y ms mw mu mc mn mr mq md bi ne li sp q sz wa 0 en (nI (0 + nlen q K M (li - 1 - rw - q - 1))) at0 lk cB wr (wnum dr q K M (li - 1 - rw - q - 1) 0) (0 + nlen q K M (li - 1 - rw - q - 1)) (by omega) (by omega) (fun j hj => wnum01 j (Nat.zero_le _) hj)) (cwV 0 hg (gV gw_610 gw_612 gs_17 gw_7 gw_613) rfl rfl rfl (by decide +kernel) ⟨Nat.le_of_ble_eq_true rfl, Nat.le_of_ble_eq_true rfl⟩) ⟨fun a U g mk q => by obtain ⟨q0, qP, qK, qD⟩ := q; exact ⟨q0, qP, va_K.moved (u := U) (U := U.calling g mk a) (Vm.Alike.refl U.vm) qK, qD⟩, va_recv hKc hPc (ci := 5) (q0 := 0) rfl rfl, fun U hU hW => ⟨rfl, by rw [hU]; exact hPc, va_K.moved hW.alike hKc, hDc.weaken (fun _ _ _ _ => trivial)⟩⟩ rfl rfl hl.1 rfl (lv_room (Nat.le_of_ble_eq_true rfl)) d_M_interrupt_151 (⟨Nat.le_of_ble_eq_true rfl, Nat.le_of_ble_eq_true rfl⟩)) hS hP hD [0, 5, 6] rfl rfl rfl (fun H locs hP hD hS => ?_)
                      have hP : va_P D CLS [(y, .inr (5, [.int 0, .int (nI bi), .int (nI ne), .int (nI li), .int (nI sp), .int (nI q), .ref ms, .ref mw, .ref mu, .ref mc, .ref mn, .int en, .int (nI (sz + (0 + nlen q K M (li - 1 - rw - q - 1)))), .ref mr, .int (nI wa), .ref mq, .int (nI (0 + nlen q K M (li - 1 - rw - q - 1))), .ref md, .int at0, .int lk])), (mw, .inl (cI, 2, .inl lw)), (mu, .inl (cI, 4, .inl (upd su 1 (nI (hvd ct (sm + (M + 1 - 1) / 2)))))), (mc, .inl (cI, 4, .inl (upd cu 1 (nI (hvd ct ct + 1))))), (mn, .inl (cI, 4, .inl (upd nu 1 (nI (hvd ct ng))))), (mr, .inl (cB, 6000, .inl (cpw wr sz (wnum dr q K M (li - 1 - rw - q - 1) 0) (0 + nlen q K M (li - 1 - rw - q - 1))))), (md, .inl (cB, 400, .inl (wnum dr q K M (li - 1 - rw - q - 1) 0)))] H := hP
                      have hD : va_D A [(y, .inr (5, [.int 0, .int (nI bi), .int (nI ne), .int (nI li), .int (nI sp), .int (nI q), .ref ms, .ref mw, .ref mu, .ref mc, .ref mn, .int en, .int (nI (sz + (0 + nlen q K M (li - 1 - rw - q - 1)))), .ref mr, .int (nI wa), .ref mq, .int (nI (0 + nlen q K M (li - 1 - rw - q - 1))), .ref md, .int at0, .int lk])), (mw, .inl (cI, 2, .inl lw)), (mu, .inl (cI, 4, .inl (upd su 1 (nI (hvd ct (sm + (M + 1 - 1) / 2)))))), (mc, .inl (cI, 4, .inl (upd cu 1 (nI (hvd ct ct + 1))))), (mn, .inl (cI, 4, .inl (upd nu 1 (nI (hvd ct ng))))), (mr, .inl (cB, 6000, .inl (cpw wr sz (wnum dr q K M (li - 1 - rw - q - 1) 0) (0 + nlen q K M (li - 1 - rw - q - 1))))), (md, .inl (cB, 400, .inl (wnum dr q K M (li - 1 - rw - q - 1) 0)))] := hD
                      exact W.iret (v := nI (0 + nlen q K M (li - 1 - rw - q - 1))) hx hb hr (fun t ht hW => ⟨rfl, by rw [ht]; exact hP, (hAe ▸ hS).F ht⟩) (hAe ▸ hS).2.2 d_M_interrupt_154
                    · skip
                      exact absurd (by decide) c_9
              · skip
                exact absurd (Int32.not_lt.mp (nI_pos (by omega))) c_6
        · skip
          refine tpi (y := 0) (if_neg hup) ?_
          refine lv_if_eq (tgt := 59) hx hb d_M_interrupt_44 (by decide) (fun c_10 => ?_) (fun c_10 => ?_)
          · skip
            refine lv_iload_n hx hb d_M_interrupt_59 rfl (lv_at hl 2 rfl) ?_
            refine lv_if_ge (tgt := 67) hx hb d_M_interrupt_60 (by decide) (fun c_11 => ?_) (fun c_11 => ?_)
            · skip
              have hfl : (if ¬ n = 0 ∧ (K = 0 ∧ 2 * ng < ct) then 1 else 0 : Nat) = 0 := if_neg (fun q9 => hup q9.2)
              refine lv_iconst (v := 0) hx hb d_M_interrupt_67 (by decide) ?_
              refine lv_istore_n (lv' := [(3, .int 0), (0, .ref y), (1, .int 1), (2, .int (nI n))]) hx hb d_M_interrupt_68 rfl hl (by decide) rfl (fun ls hl => ?_)
              refine lv_iconst (v := 2) hx hb d_M_interrupt_69 (by decide) ?_
              refine lv_iload_n hx hb d_M_interrupt_70 rfl (lv_at hl 3 rfl) ?_
              refine lv_if_ge (tgt := 79) hx hb d_M_interrupt_71 (by decide) (fun c_12 => ?_) (fun c_12 => ?_)
              · skip
                refine lv_iload_n hx hb d_M_interrupt_79 rfl (lv_at hl 3 rfl) ?_
                refine lv_imul hx hb d_M_interrupt_80 ?_
                refine tpi (y := nI (2 * n)) (mul2 n) ?_
                refine lv_iload_n hx hb d_M_interrupt_81 rfl (lv_at hl 2 rfl) ?_
                refine lv_isub hx hb d_M_interrupt_82 ?_
                refine tpi (y := nI (2 * n - 1)) (pk_sub (b := 1) (by omega)) ?_
                refine lv_iload_n hx hb d_M_interrupt_83 rfl (lv_at hl 0 rfl) ?_
                refine lv_if_eq (tgt := 91) hx hb d_M_interrupt_84 (by decide) (fun c_13 => ?_) (fun c_13 => ?_)
                · skip
                  refine lv_iconst (v := 0) hx hb d_M_interrupt_91 (by decide) ?_
                  refine lv_isub hx hb d_M_interrupt_92 ?_
                  refine tpi (y := nI M) ((pk_sub (b := 0) (by omega)).trans (congrArg nI (by rw [hM, hfl]))) ?_
                  refine lv_istore (lv' := [(4, .int (nI M)), (3, .int 0), (0, .ref y), (1, .int 1), (2, .int (nI n))]) hx hb d_M_interrupt_93 hl (by decide) rfl (fun ls hl => ?_)
                  refine lv_aload_n hx hb d_M_interrupt_95 rfl (lv_at hl 2 rfl) ?_
                  refine lv_iconst (v := 0) hx hb d_M_interrupt_96 (by decide) ?_
                  refine tpi (y := nI 0) (rfl) ?_
                  refine va_put (D := D) (ci := 5) (v := .int (nI 0)) (ty := .int) (C := R_M) (T := T_M) (N := 20) hx hb hg in_M ty_M tok_M nm_M hown hK hP hD hS 0 rfl rfl 16 (by decide) (hg _ gw_540) (fun _ h9 => h9) rfl (by decide +kernel) (rfl) (rfl) (Nat.le_of_ble_eq_true rfl) d_M_interrupt_97 (fun H locs hP hD hS => ?_)
                  have hP : va_P D CLS [(y, .inr (5, [.int 0, .int (nI bi), .int (nI ne), .int (nI li), .int (nI sp), .int (nI q), .ref ms, .ref mw, .ref mu, .ref mc, .ref mn, .int en, .int (nI sz), .ref mr, .int (nI wa), .ref mq, .int (nI 0), .ref md, .int at0, .int lk])), (mw, .inl (cI, 2, .inl lw)), (mu, .inl (cI, 4, .inl su)), (mc, .inl (cI, 4, .inl cu)), (mn, .inl (cI, 4, .inl nu)), (mr, .inl (cB, 6000, .inl wr)), (md, .inl (cB, 400, .inl dr))] H := hP
                  have hD : va_D A [(y, .inr (5, [.int 0, .int (nI bi), .int (nI ne), .int (nI li), .int (nI sp), .int (nI q), .ref ms, .ref mw, .ref mu, .ref mc, .ref mn, .int en, .int (nI sz), .ref mr, .int (nI wa), .ref mq, .int (nI 0), .ref md, .int at0, .int lk])), (mw, .inl (cI, 2, .inl lw)), (mu, .inl (cI, 4, .inl su)), (mc, .inl (cI, 4, .inl cu)), (mn, .inl (cI, 4, .inl nu)), (mr, .inl (cB, 6000, .inl wr)), (md, .inl (cB, 400, .inl dr))] := hD
                  refine lv_aload_n hx hb d_M_interrupt_100 rfl (lv_at hl 2 rfl) ?_
                  refine lv_iload hx hb d_M_interrupt_101 (lv_at hl 0 rfl) ?_
                  refine lv_aload_n hx hb d_M_interrupt_103 rfl (lv_at hl 2 rfl) ?_
                  refine lv_iload_n hx hb d_M_interrupt_104 rfl (lv_at hl 3 rfl) ?_
                  have hPc := hP.sub (ws' := [(y, .inr (5, [.int 0, .int (nI bi), .int (nI ne), .int (nI li), .int (nI sp), .int (nI q), .ref ms, .ref mw, .ref mu, .ref mc, .ref mn, .int en, .int (nI sz), .ref mr, .int (nI wa), .ref mq, .int (nI 0), .ref md, .int at0, .int lk])), (mu, .inl (cI, 4, .inl su)), (mc, .inl (cI, 4, .inl cu)), (mn, .inl (cI, 4, .inl nu))]) [0, 2, 3, 4] rfl
                  have hKc := hK.sub (tys' := [(cI, .int)]) [1] rfl
                  refine pci (va_runV (As := [.int 1]) (rest := [.int (nI M), .ref y]) ⟨hx, hb, hml, hown, hg⟩ (c_M_kOf1 l D y ms mw mu mc mn mr mq md bi ne li sp q sz wa 0 en (nI 0) at0 lk cI su cu nu sm ct ng K hsu hcu hnu hc0 hn0 (by omega) hKb hK1 hK2) (cwV 1 hg (gV gw_638 gw_640 gs_21 gw_7 gw_641) rfl rfl rfl (by decide +kernel) ⟨Nat.le_of_ble_eq_true rfl, Nat.le_of_ble_eq_true rfl⟩) ⟨fun a U g mk q => by obtain ⟨q0, qP, qK⟩ := q; exact ⟨q0, qP, va_K.moved (u := U) (U := U.calling g mk a) (Vm.Alike.refl U.vm) qK⟩, va_recv hKc hPc (ci := 5) (q0 := 0) rfl rfl, fun U hU hW => ⟨rfl, by rw [hU]; exact hPc, va_K.moved hW.alike hKc⟩⟩ rfl rfl hl.1 rfl (lv_room (Nat.le_of_ble_eq_true rfl)) d_M_interrupt_105 (⟨Nat.le_of_ble_eq_true rfl, Nat.le_of_ble_eq_true rfl⟩)) ?_
                  refine lv_aload_n hx hb d_M_interrupt_108 rfl (lv_at hl 2 rfl) ?_
                  refine lv_iconst (v := 0) hx hb d_M_interrupt_109 (by decide) ?_
                  have hPc := hP.sub (ws' := [(y, .inr (5, [.int 0, .int (nI bi), .int (nI ne), .int (nI li), .int (nI sp), .int (nI q), .ref ms, .ref mw, .ref mu, .ref mc, .ref mn, .int en, .int (nI sz), .ref mr, .int (nI wa), .ref mq, .int (nI 0), .ref md, .int at0, .int lk])), (mw, .inl (cI, 2, .inl lw))]) [0, 1] rfl
                  have hKc := hK.sub (tys' := [(cI, .int)]) [1] rfl
                  refine pci (va_runV (As := [.int 0]) (rest := [.int (nI K), .int (nI M), .ref y]) ⟨hx, hb, hml, hown, hg⟩ (c_M_limitFor0 l D y ms mw mu mc mn mr mq md bi ne li sp q sz wa 0 en (nI 0) at0 lk cI lw rw hlw (by omega)) (cwV 1 hg (gV gw_642 gw_644 gs_22 gw_7 gw_645) rfl rfl rfl (by decide +kernel) ⟨Nat.le_of_ble_eq_true rfl, Nat.le_of_ble_eq_true rfl⟩) ⟨fun a U g mk q => by obtain ⟨q0, qP, qK⟩ := q; exact ⟨q0, qP, va_K.moved (u := U) (U := U.calling g mk a) (Vm.Alike.refl U.vm) qK⟩, va_recv hKc hPc (ci := 5) (q0 := 0) rfl rfl, fun U hU hW => ⟨rfl, by rw [hU]; exact hPc, va_K.moved hW.alike hKc⟩⟩ rfl rfl hl.1 rfl (lv_room (Nat.le_of_ble_eq_true rfl)) d_M_interrupt_110 (⟨Nat.le_of_ble_eq_true rfl, Nat.le_of_ble_eq_true rfl⟩)) ?_
                  have hPc := hP.sub (ws' := [(y, .inr (5, [.int 0, .int (nI bi), .int (nI ne), .int (nI li), .int (nI sp), .int (nI q), .ref ms, .ref mw, .ref mu, .ref mc, .ref mn, .int en, .int (nI sz), .ref mr, .int (nI wa), .ref mq, .int (nI 0), .ref md, .int at0, .int lk])), (md, .inl (cB, 400, .inl dr))]) [0, 6] rfl
                  have hDc := hD.sub (ws' := [(y, .inr (5, [.int 0, .int (nI bi), .int (nI ne), .int (nI li), .int (nI sp), .int (nI q), .ref ms, .ref mw, .ref mu, .ref mc, .ref mn, .int en, .int (nI sz), .ref mr, .int (nI wa), .ref mq, .int (nI 0), .ref md, .int at0, .int lk])), (md, .inl (cB, 400, .inl dr))]) [0, 6] (by decide) rfl
                  have hKc := hK.sub (tys' := [(cB, .byte)]) [0] rfl
                  refine mcv (va_runV (As := [.int (nI M), .int (nI K), .int (nI (li - 1 - rw))]) (rest := []) ⟨hx, hb, hml, hown, hg⟩ (c_M_layNumber l D y ms mw mu mc mn mr mq md bi ne li sp q sz wa 0 en (nI 0) at0 lk cB dr 0 M K (li - 1 - rw) (by omega) (by omega) (by omega) (by omega) (by omega) (by omega)) (cwV 3 hg (gV gw_594 gw_596 gs_13 gw_7 gw_597) rfl rfl rfl (by decide +kernel) ⟨Nat.le_of_ble_eq_true rfl, Nat.le_of_ble_eq_true rfl⟩) ⟨fun a U g mk q => by obtain ⟨q0, qP, qK, qD⟩ := q; exact ⟨q0, qP, va_K.moved (u := U) (U := U.calling g mk a) (Vm.Alike.refl U.vm) qK, qD⟩, va_recv hKc hPc (ci := 5) (q0 := 0) rfl rfl, fun U hU hW => ⟨rfl, by rw [hU]; exact hPc, va_K.moved hW.alike hKc, hDc.weaken (fun _ _ _ _ => trivial)⟩⟩ rfl rfl hl.1 rfl (lv_room (Nat.le_of_ble_eq_true rfl)) d_M_interrupt_113 (⟨Nat.le_of_ble_eq_true rfl, Nat.le_of_ble_eq_true rfl⟩)) hS hP hD [0, 6] rfl rfl rfl (fun H locs hP hD hS => ?_)
                  have hP : va_P D CLS [(y, .inr (5, [.int 0, .int (nI bi), .int (nI ne), .int (nI li), .int (nI sp), .int (nI q), .ref ms, .ref mw, .ref mu, .ref mc, .ref mn, .int en, .int (nI sz), .ref mr, .int (nI wa), .ref mq, .int (nI (0 + nlen q K M (li - 1 - rw - q - 1))), .ref md, .int at0, .int lk])), (mw, .inl (cI, 2, .inl lw)), (mu, .inl (cI, 4, .inl su)), (mc, .inl (cI, 4, .inl cu)), (mn, .inl (cI, 4, .inl nu)), (mr, .inl (cB, 6000, .inl wr)), (md, .inl (cB, 400, .inl (wnum dr q K M (li - 1 - rw - q - 1) 0)))] H := hP
                  have hD : va_D A [(y, .inr (5, [.int 0, .int (nI bi), .int (nI ne), .int (nI li), .int (nI sp), .int (nI q), .ref ms, .ref mw, .ref mu, .ref mc, .ref mn, .int en, .int (nI sz), .ref mr, .int (nI wa), .ref mq, .int (nI (0 + nlen q K M (li - 1 - rw - q - 1))), .ref md, .int at0, .int lk])), (mw, .inl (cI, 2, .inl lw)), (mu, .inl (cI, 4, .inl su)), (mc, .inl (cI, 4, .inl cu)), (mn, .inl (cI, 4, .inl nu)), (mr, .inl (cB, 6000, .inl wr)), (md, .inl (cB, 400, .inl (wnum dr q K M (li - 1 - rw - q - 1) 0)))] := hD
                  refine lv_aload_n hx hb d_M_interrupt_116 rfl (lv_at hl 2 rfl) ?_
                  refine lv_aload_n hx hb d_M_interrupt_117 rfl (lv_at hl 2 rfl) ?_
                  have hPc := hP.sub (ws' := [(y, .inr (5, [.int 0, .int (nI bi), .int (nI ne), .int (nI li), .int (nI sp), .int (nI q), .ref ms, .ref mw, .ref mu, .ref mc, .ref mn, .int en, .int (nI sz), .ref mr, .int (nI wa), .ref mq, .int (nI (0 + nlen q K M (li - 1 - rw - q - 1))), .ref md, .int at0, .int lk]))]) [0] rfl
                  have hKc := hK.sub (tys' := []) [] rfl
                  refine pci (va_runV (As := []) (rest := [.ref y]) ⟨hx, hb, hml, hown, hg⟩ (c_M_hasRoom l D y ms mw mu mc mn mr mq md bi ne li sp q sz wa 0 en (nI (0 + nlen q K M (li - 1 - rw - q - 1))) at0 lk (0 + nlen q K M (li - 1 - rw - q - 1)) hsz (by omega)) (cwV 0 hg (gV gw_606 gw_608 gs_16 gw_7 gw_609) rfl rfl rfl (by decide +kernel) ⟨Nat.le_of_ble_eq_true rfl, Nat.le_of_ble_eq_true rfl⟩) ⟨fun a U g mk q => by obtain ⟨q0, qP, qK⟩ := q; exact ⟨q0, qP, va_K.moved (u := U) (U := U.calling g mk a) (Vm.Alike.refl U.vm) qK⟩, va_recv hKc hPc (ci := 5) (q0 := 0) rfl rfl, fun U hU hW => ⟨rfl, by rw [hU]; exact hPc, va_K.moved hW.alike hKc⟩⟩ rfl rfl hl.1 rfl (lv_room (Nat.le_of_ble_eq_true rfl)) d_M_interrupt_118 (⟨Nat.le_of_ble_eq_true rfl, Nat.le_of_ble_eq_true rfl⟩)) ?_
                  refine tpi (y := 1) (if_pos (by omega)) ?_
                  refine lv_if_eq (tgt := 128) hx hb d_M_interrupt_121 (by decide) (fun c_14 => ?_) (fun c_14 => ?_)
                  · skip
                    exact absurd c_14 (by decide)
                  · skip
                    refine lv_iconst (v := 0) hx hb d_M_interrupt_124 (by decide) ?_
                    refine lv_goto (tgt := 129) hx hb d_M_interrupt_125 (by decide) ?_
                    refine va_put (D := D) (ci := 5) (v := .int 0) (ty := .int) (C := R_M) (T := T_M) (N := 20) hx hb hg in_M ty_M tok_M nm_M hown hK hP hD hS 0 rfl rfl 0 (by decide) (hg _ gw_524) (fun _ h9 => h9) rfl (by decide +kernel) (rfl) (rfl) (Nat.le_of_ble_eq_true rfl) d_M_interrupt_129 (fun H locs hP hD hS => ?_)
                    have hP : va_P D CLS [(y, .inr (5, [.int 0, .int (nI bi), .int (nI ne), .int (nI li), .int (nI sp), .int (nI q), .ref ms, .ref mw, .ref mu, .ref mc, .ref mn, .int en, .int (nI sz), .ref mr, .int (nI wa), .ref mq, .int (nI (0 + nlen q K M (li - 1 - rw - q - 1))), .ref md, .int at0, .int lk])), (mw, .inl (cI, 2, .inl lw)), (mu, .inl (cI, 4, .inl su)), (mc, .inl (cI, 4, .inl cu)), (mn, .inl (cI, 4, .inl nu)), (mr, .inl (cB, 6000, .inl wr)), (md, .inl (cB, 400, .inl (wnum dr q K M (li - 1 - rw - q - 1) 0)))] H := hP
                    have hD : va_D A [(y, .inr (5, [.int 0, .int (nI bi), .int (nI ne), .int (nI li), .int (nI sp), .int (nI q), .ref ms, .ref mw, .ref mu, .ref mc, .ref mn, .int en, .int (nI sz), .ref mr, .int (nI wa), .ref mq, .int (nI (0 + nlen q K M (li - 1 - rw - q - 1))), .ref md, .int at0, .int lk])), (mw, .inl (cI, 2, .inl lw)), (mu, .inl (cI, 4, .inl su)), (mc, .inl (cI, 4, .inl cu)), (mn, .inl (cI, 4, .inl nu)), (mr, .inl (cB, 6000, .inl wr)), (md, .inl (cB, 400, .inl (wnum dr q K M (li - 1 - rw - q - 1) 0)))] := hD
                    refine lv_aload_n hx hb d_M_interrupt_132 rfl (lv_at hl 2 rfl) ?_
                    refine va_get (D := D) (ci := 5) (v := .int 0) (C := R_M) (T := T_M) (N := 20) hx hb hg in_M hown hK hP 0 rfl rfl 0 (by decide) (hg _ gw_524) (fun _ h9 => h9) rfl d_M_interrupt_133 ?_
                    refine lv_if_le (tgt := 141) hx hb d_M_interrupt_136 (by decide) (fun c_15 => ?_) (fun c_15 => ?_)
                    · skip
                      refine lv_aload_n hx hb d_M_interrupt_141 rfl (lv_at hl 2 rfl) ?_
                      refine lv_iload_n hx hb d_M_interrupt_142 rfl (lv_at hl 3 rfl) ?_
                      refine lv_iload_n hx hb d_M_interrupt_143 rfl (lv_at hl 3 rfl) ?_
                      refine lv_iload hx hb d_M_interrupt_144 (lv_at hl 0 rfl) ?_
                      refine lv_iload_n hx hb d_M_interrupt_146 rfl (lv_at hl 4 rfl) ?_
                      have hPc := hP.sub (ws' := [(y, .inr (5, [.int 0, .int (nI bi), .int (nI ne), .int (nI li), .int (nI sp), .int (nI q), .ref ms, .ref mw, .ref mu, .ref mc, .ref mn, .int en, .int (nI sz), .ref mr, .int (nI wa), .ref mq, .int (nI (0 + nlen q K M (li - 1 - rw - q - 1))), .ref md, .int at0, .int lk])), (mu, .inl (cI, 4, .inl su)), (mc, .inl (cI, 4, .inl cu)), (mn, .inl (cI, 4, .inl nu))]) [0, 2, 3, 4] rfl
                      have hDc := hD.sub (ws' := [(y, .inr (5, [.int 0, .int (nI bi), .int (nI ne), .int (nI li), .int (nI sp), .int (nI q), .ref ms, .ref mw, .ref mu, .ref mc, .ref mn, .int en, .int (nI sz), .ref mr, .int (nI wa), .ref mq, .int (nI (0 + nlen q K M (li - 1 - rw - q - 1))), .ref md, .int at0, .int lk])), (mu, .inl (cI, 4, .inl su)), (mc, .inl (cI, 4, .inl cu)), (mn, .inl (cI, 4, .inl nu))]) [0, 2, 3, 4] (by decide) rfl
                      have hKc := hK.sub (tys' := [(cI, .int)]) [1] rfl
                      refine mcv (va_runV (As := [.int 1, .int 1, .int (nI M), .int (nI n)]) (rest := []) ⟨hx, hb, hml, hown, hg⟩ (c_M_learn1P l D y ms mw mu mc mn mr mq md bi ne li sp q sz wa 0 en (nI (0 + nlen q K M (li - 1 - rw - q - 1))) at0 lk cI su cu nu sm ct ng n M hsu hcu hnu hc0 hn0 hs0 (by omega) (by omega)) (cwV 4 hg (gV gw_646 gw_648 gs_23 gw_7 gw_649) rfl rfl rfl (by decide +kernel) ⟨Nat.le_of_ble_eq_true rfl, Nat.le_of_ble_eq_true rfl⟩) ⟨fun a U g mk q => by obtain ⟨q0, qP, qK, qD⟩ := q; exact ⟨q0, qP, va_K.moved (u := U) (U := U.calling g mk a) (Vm.Alike.refl U.vm) qK, qD⟩, va_recv hKc hPc (ci := 5) (q0 := 0) rfl rfl, fun U hU hW => ⟨rfl, by rw [hU]; exact hPc, va_K.moved hW.alike hKc, hDc.weaken (fun _ _ _ _ => trivial)⟩⟩ rfl rfl hl.1 rfl (lv_room (Nat.le_of_ble_eq_true rfl)) d_M_interrupt_147 (⟨Nat.le_of_ble_eq_true rfl, Nat.le_of_ble_eq_true rfl⟩)) hS hP hD [0, 2, 3, 4] rfl rfl rfl (fun H locs hP hD hS => ?_)
                      have hP : va_P D CLS [(y, .inr (5, [.int 0, .int (nI bi), .int (nI ne), .int (nI li), .int (nI sp), .int (nI q), .ref ms, .ref mw, .ref mu, .ref mc, .ref mn, .int en, .int (nI sz), .ref mr, .int (nI wa), .ref mq, .int (nI (0 + nlen q K M (li - 1 - rw - q - 1))), .ref md, .int at0, .int lk])), (mw, .inl (cI, 2, .inl lw)), (mu, .inl (cI, 4, .inl (upd su 1 (nI (hvd ct (sm + (M + 1 - 1) / 2)))))), (mc, .inl (cI, 4, .inl (upd cu 1 (nI (hvd ct ct + 1))))), (mn, .inl (cI, 4, .inl (upd nu 1 (nI (hvd ct ng))))), (mr, .inl (cB, 6000, .inl wr)), (md, .inl (cB, 400, .inl (wnum dr q K M (li - 1 - rw - q - 1) 0)))] H := hP
                      have hD : va_D A [(y, .inr (5, [.int 0, .int (nI bi), .int (nI ne), .int (nI li), .int (nI sp), .int (nI q), .ref ms, .ref mw, .ref mu, .ref mc, .ref mn, .int en, .int (nI sz), .ref mr, .int (nI wa), .ref mq, .int (nI (0 + nlen q K M (li - 1 - rw - q - 1))), .ref md, .int at0, .int lk])), (mw, .inl (cI, 2, .inl lw)), (mu, .inl (cI, 4, .inl (upd su 1 (nI (hvd ct (sm + (M + 1 - 1) / 2)))))), (mc, .inl (cI, 4, .inl (upd cu 1 (nI (hvd ct ct + 1))))), (mn, .inl (cI, 4, .inl (upd nu 1 (nI (hvd ct ng))))), (mr, .inl (cB, 6000, .inl wr)), (md, .inl (cB, 400, .inl (wnum dr q K M (li - 1 - rw - q - 1) 0)))] := hD
                      refine lv_aload_n hx hb d_M_interrupt_150 rfl (lv_at hl 2 rfl) ?_
                      have hPc := hP.sub (ws' := [(y, .inr (5, [.int 0, .int (nI bi), .int (nI ne), .int (nI li), .int (nI sp), .int (nI q), .ref ms, .ref mw, .ref mu, .ref mc, .ref mn, .int en, .int (nI sz), .ref mr, .int (nI wa), .ref mq, .int (nI (0 + nlen q K M (li - 1 - rw - q - 1))), .ref md, .int at0, .int lk])), (mr, .inl (cB, 6000, .inl wr)), (md, .inl (cB, 400, .inl (wnum dr q K M (li - 1 - rw - q - 1) 0)))]) [0, 5, 6] rfl
                      have hDc := hD.sub (ws' := [(y, .inr (5, [.int 0, .int (nI bi), .int (nI ne), .int (nI li), .int (nI sp), .int (nI q), .ref ms, .ref mw, .ref mu, .ref mc, .ref mn, .int en, .int (nI sz), .ref mr, .int (nI wa), .ref mq, .int (nI (0 + nlen q K M (li - 1 - rw - q - 1))), .ref md, .int at0, .int lk])), (mr, .inl (cB, 6000, .inl wr)), (md, .inl (cB, 400, .inl (wnum dr q K M (li - 1 - rw - q - 1) 0)))]) [0, 5, 6] (by decide) rfl
                      have hKc := hK.sub (tys' := [(cB, .byte)]) [0] rfl
                      refine mci (va_runV (As := []) (rest := []) ⟨hx, hb, hml, hown, hg⟩ (c_M_write l D y ms mw mu mc mn mr mq md bi ne li sp q sz wa 0 en (nI (0 + nlen q K M (li - 1 - rw - q - 1))) at0 lk cB wr (wnum dr q K M (li - 1 - rw - q - 1) 0) (0 + nlen q K M (li - 1 - rw - q - 1)) (by omega) (by omega) (fun j hj => wnum01 j (Nat.zero_le _) hj)) (cwV 0 hg (gV gw_610 gw_612 gs_17 gw_7 gw_613) rfl rfl rfl (by decide +kernel) ⟨Nat.le_of_ble_eq_true rfl, Nat.le_of_ble_eq_true rfl⟩) ⟨fun a U g mk q => by obtain ⟨q0, qP, qK, qD⟩ := q; exact ⟨q0, qP, va_K.moved (u := U) (U := U.calling g mk a) (Vm.Alike.refl U.vm) qK, qD⟩, va_recv hKc hPc (ci := 5) (q0 := 0) rfl rfl, fun U hU hW => ⟨rfl, by rw [hU]; exact hPc, va_K.moved hW.alike hKc, hDc.weaken (fun _ _ _ _ => trivial)⟩⟩ rfl rfl hl.1 rfl (lv_room (Nat.le_of_ble_eq_true rfl)) d_M_interrupt_151 (⟨Nat.le_of_ble_eq_true rfl, Nat.le_of_ble_eq_true rfl⟩)) hS hP hD [0, 5, 6] rfl rfl rfl (fun H locs hP hD hS => ?_)
                      have hP : va_P D CLS [(y, .inr (5, [.int 0, .int (nI bi), .int (nI ne), .int (nI li), .int (nI sp), .int (nI q), .ref ms, .ref mw, .ref mu, .ref mc, .ref mn, .int en, .int (nI (sz + (0 + nlen q K M (li - 1 - rw - q - 1)))), .ref mr, .int (nI wa), .ref mq, .int (nI (0 + nlen q K M (li - 1 - rw - q - 1))), .ref md, .int at0, .int lk])), (mw, .inl (cI, 2, .inl lw)), (mu, .inl (cI, 4, .inl (upd su 1 (nI (hvd ct (sm + (M + 1 - 1) / 2)))))), (mc, .inl (cI, 4, .inl (upd cu 1 (nI (hvd ct ct + 1))))), (mn, .inl (cI, 4, .inl (upd nu 1 (nI (hvd ct ng))))), (mr, .inl (cB, 6000, .inl (cpw wr sz (wnum dr q K M (li - 1 - rw - q - 1) 0) (0 + nlen q K M (li - 1 - rw - q - 1))))), (md, .inl (cB, 400, .inl (wnum dr q K M (li - 1 - rw - q - 1) 0)))] H := hP
                      have hD : va_D A [(y, .inr (5, [.int 0, .int (nI bi), .int (nI ne), .int (nI li), .int (nI sp), .int (nI q), .ref ms, .ref mw, .ref mu, .ref mc, .ref mn, .int en, .int (nI (sz + (0 + nlen q K M (li - 1 - rw - q - 1)))), .ref mr, .int (nI wa), .ref mq, .int (nI (0 + nlen q K M (li - 1 - rw - q - 1))), .ref md, .int at0, .int lk])), (mw, .inl (cI, 2, .inl lw)), (mu, .inl (cI, 4, .inl (upd su 1 (nI (hvd ct (sm + (M + 1 - 1) / 2)))))), (mc, .inl (cI, 4, .inl (upd cu 1 (nI (hvd ct ct + 1))))), (mn, .inl (cI, 4, .inl (upd nu 1 (nI (hvd ct ng))))), (mr, .inl (cB, 6000, .inl (cpw wr sz (wnum dr q K M (li - 1 - rw - q - 1) 0) (0 + nlen q K M (li - 1 - rw - q - 1))))), (md, .inl (cB, 400, .inl (wnum dr q K M (li - 1 - rw - q - 1) 0)))] := hD
                      exact W.iret (v := nI (0 + nlen q K M (li - 1 - rw - q - 1))) hx hb hr (fun t ht hW => ⟨rfl, by rw [ht]; exact hP, (hAe ▸ hS).F ht⟩) (hAe ▸ hS).2.2 d_M_interrupt_154
                    · skip
                      exact absurd (by decide) c_15
                · skip
                  exact absurd rfl c_13
              · skip
                exact absurd (Int32.not_lt.mp (nI_pos (by omega))) c_12
            · skip
              exact absurd (Int32.not_lt.mp (nI_pos (by omega))) c_11
          · skip
            exact absurd rfl c_10
      · skip
        exact absurd (by decide) c_3
    · skip
      exact absurd c_2 (by decide)
  · skip
    exact absurd c_1 (by decide)
set_option maxHeartbeats 4000000 in
set_option maxRecDepth 100000 in
theorem c_M_interrupt1PU (l : Launch) (D : va_G) (y ms mw mu mc mn mr mq md bi ne li sp q sz wa : Nat) (th en la at0 lk : Int32) (cB cI : ClassId) (lw su cu nu wr dr : Nat → Int32) (rw sm ct ng n K M : Nat) (hlw : lw 0 = nI rw) (hsu : su 1 = nI sm) (hcu : cu 1 = nI ct) (hnu : nu 1 = nI ng) (hc0 : ct ≤ 64) (hn0 : ng ≤ 64) (hs0 : sm < 2 ^ 29) (hKb : K ≤ 29) (hK1 : sm + ct / 2 ≤ ct * 2 ^ K) (hK2 : ∀ j, j < K → ct * 2 ^ j < sm + ct / 2) (hsp : sp ≤ 65536) (hn : n ≤ sp / 2) (hn1 : 0 < n) (hM : M = 2 * n - 1 - (if ¬ n = 0 ∧ (K = 0 ∧ 2 * ng < ct) then 1 else 0)) (hq : q ≤ 29) (hli : q + 18 ≤ li) (hlb : li ≤ 200) (hrw : rw ≤ 15) (hsz : sz ≤ 6000) (hu : ¬ sz + nlen q K M (li - 1 - rw - q - 1) ≤ 6000) : Met l y_M_interrupt (WSY y_M_interrupt b_M_interrupt 5 (some .int)) ({ frames := 3, cells := 0, slots := 0, locals := 72 }) (va_Pc [.ref y, .int 1, .int (nI n)] (fun U => va_P D CLS [(y, .inr (5, [.int th, .int (nI bi), .int (nI ne), .int (nI li), .int (nI sp), .int (nI q), .ref ms, .ref mw, .ref mu, .ref mc, .ref mn, .int en, .int (nI sz), .ref mr, .int (nI wa), .ref mq, .int la, .ref md, .int at0, .int lk])), (mw, .inl (cI, 2, .inl lw)), (mu, .inl (cI, 4, .inl su)), (mc, .inl (cI, 4, .inl cu)), (mn, .inl (cI, 4, .inl nu)), (mr, .inl (cB, 6000, .inl wr)), (md, .inl (cB, 400, .inl dr))] U.heap ∧ va_K D CLS [(cB, .byte), (cI, .int)] U ∧ va_D (fun _ => True) [(y, .inr (5, [.int th, .int (nI bi), .int (nI ne), .int (nI li), .int (nI sp), .int (nI q), .ref ms, .ref mw, .ref mu, .ref mc, .ref mn, .int en, .int (nI sz), .ref mr, .int (nI wa), .ref mq, .int la, .ref md, .int at0, .int lk])), (mw, .inl (cI, 2, .inl lw)), (mu, .inl (cI, 4, .inl su)), (mc, .inl (cI, 4, .inl cu)), (mn, .inl (cI, 4, .inl nu)), (mr, .inl (cB, 6000, .inl wr)), (md, .inl (cB, 400, .inl dr))])) (QM (some (.int (0))) [(y, .inr (5, [.int th, .int (nI bi), .int (nI ne), .int (nI li), .int (nI sp), .int (nI q), .ref ms, .ref mw, .ref mu, .ref mc, .ref mn, .int en, .int (nI sz), .ref mr, .int (nI wa), .ref mq, .int la, .ref md, .int at0, .int lk])), (mw, .inl (cI, 2, .inl lw)), (mu, .inl (cI, 4, .inl su)), (mc, .inl (cI, 4, .inl cu)), (mn, .inl (cI, 4, .inl nu)), (mr, .inl (cB, 6000, .inl wr)), (md, .inl (cB, 400, .inl dr))] [(y, .inr (5, [.int 3, .int (nI bi), .int (nI ne), .int (nI li), .int (nI sp), .int (nI q), .ref ms, .ref mw, .ref mu, .ref mc, .ref mn, .int en, .int (nI sz), .ref mr, .int (nI wa), .ref mq, .int (nI (0 + nlen q K M (li - 1 - rw - q - 1))), .ref md, .int at0, .int lk])), (mw, .inl (cI, 2, .inl lw)), (mu, .inl (cI, 4, .inl su)), (mc, .inl (cI, 4, .inl cu)), (mn, .inl (cI, 4, .inl nu)), (mr, .inl (cB, 6000, .inl wr)), (md, .inl (cB, 400, .inl (wnum dr q K M (li - 1 - rw - q - 1) 0)))] D) 0 0 (ad [(y, .inr (5, [.int th, .int (nI bi), .int (nI ne), .int (nI li), .int (nI sp), .int (nI q), .ref ms, .ref mw, .ref mu, .ref mc, .ref mn, .int en, .int (nI sz), .ref mr, .int (nI wa), .ref mq, .int la, .ref md, .int at0, .int lk])), (mw, .inl (cI, 2, .inl lw)), (mu, .inl (cI, 4, .inl su)), (mc, .inl (cI, 4, .inl cu)), (mn, .inl (cI, 4, .inl nu)), (mr, .inl (cB, 6000, .inl wr)), (md, .inl (cB, 400, .inl dr))]) := by
  refine Met.ofW (cc := b_M_interrupt) (maxL := 5) (ret := (some .int)) (by decide) rfl ?_
  intro p e s m args below meth c s₁ B hml hv
  obtain ⟨rfl, hP, hK, hD0⟩ := hv
  have hx := B.exec
  have hb := B.bytes
  have hr := B.returns
  have hts := atoms_spec (ws := WSY y_M_interrupt b_M_interrupt 5 (some .int)) B.pre
  have hg : ∀ w ∈ GW, w.before _ s = true := fun w h => hts w (List.mem_cons_of_mem _ h)
  have hown : s.vm.findClass "LineGolombModel" = some m.cls := findClass_of_methodNamed B.named
  have hlocks := B.notSynchronized
  obtain ⟨A, hAe⟩ : ∃ A, A = ad [(y, .inr (5, [.int th, .int (nI bi), .int (nI ne), .int (nI li), .int (nI sp), .int (nI q), .ref ms, .ref mw, .ref mu, .ref mc, .ref mn, .int en, .int (nI sz), .ref mr, .int (nI wa), .ref mq, .int la, .ref md, .int at0, .int lk])), (mw, .inl (cI, 2, .inl lw)), (mu, .inl (cI, 4, .inl su)), (mc, .inl (cI, 4, .inl cu)), (mn, .inl (cI, 4, .inl nu)), (mr, .inl (cB, 6000, .inl wr)), (md, .inl (cB, 400, .inl dr))] := ⟨_, rfl⟩
  have hD : va_D A [(y, .inr (5, [.int th, .int (nI bi), .int (nI ne), .int (nI li), .int (nI sp), .int (nI q), .ref ms, .ref mw, .ref mu, .ref mc, .ref mn, .int en, .int (nI sz), .ref mr, .int (nI wa), .ref mq, .int la, .ref md, .int at0, .int lk])), (mw, .inl (cI, 2, .inl lw)), (mu, .inl (cI, 4, .inl su)), (mc, .inl (cI, 4, .inl cu)), (mn, .inl (cI, 4, .inl nu)), (mr, .inl (cB, 6000, .inl wr)), (md, .inl (cB, 400, .inl dr))] := by rw [hAe]; exact va_D_ad hD0
  have hS : va_S A s.heap s.heap [] := va_S.rf
  have hl := lv_entry ([.ref y, .int 1, .int (nI n)]) (n := 5) (Nat.le_of_ble_eq_true rfl)
  rw [lg_entry_eq]
  generalize (lg_sl ([.ref y, .int 1, .int (nI n)]) ++ List.replicate (5 - (lg_sl ([.ref y, .int 1, .int (nI n)])).length) Slot.unset).toArray = ls at hl ⊢
  have hl : lv_has ls 5 [(0, .ref y), (1, .int 1), (2, .int (nI n))] := hl
  have hMb : M ≤ 2 * n := by rw [hM]; omega
  have hlen : nlen q K M (li - 1 - rw - q - 1) ≤ 400 := by unfold nlen; split <;> omega
  refine lv_aload_n hx hb d_M_interrupt_0 rfl (lv_at hl 0 rfl) ?_
  refine lv_aload_n hx hb d_M_interrupt_1 rfl (lv_at hl 0 rfl) ?_
  refine lv_iload_n hx hb d_M_interrupt_2 rfl (lv_at hl 1 rfl) ?_
  have hPc := hP.sub (ws' := [(y, .inr (5, [.int th, .int (nI bi), .int (nI ne), .int (nI li), .int (nI sp), .int (nI q), .ref ms, .ref mw, .ref mu, .ref mc, .ref mn, .int en, .int (nI sz), .ref mr, .int (nI wa), .ref mq, .int la, .ref md, .int at0, .int lk]))]) [0] rfl
  have hKc := hK.sub (tys' := []) [] rfl
  refine pci (va_runV (As := [.int 1]) (rest := [.ref y]) ⟨hx, hb, hml, hown, hg⟩ (c_M_isKind l D y ms mw mu mc mn mr mq md bi ne li sp q sz wa th en la at0 lk 1) (cwV 1 hg (gV gw_626 gw_628 gs_18 gw_7 gw_629) rfl rfl rfl (by decide +kernel) ⟨Nat.le_of_ble_eq_true rfl, Nat.le_of_ble_eq_true rfl⟩) ⟨fun a U g mk q => by obtain ⟨q0, qP, qK⟩ := q; exact ⟨q0, qP, va_K.moved (u := U) (U := U.calling g mk a) (Vm.Alike.refl U.vm) qK⟩, va_recv hKc hPc (ci := 5) (q0 := 0) rfl rfl, fun U hU hW => ⟨rfl, by rw [hU]; exact hPc, va_K.moved hW.alike hKc⟩⟩ rfl rfl hl.1 rfl (lv_room (Nat.le_of_ble_eq_true rfl)) d_M_interrupt_3 (⟨Nat.le_of_ble_eq_true rfl, Nat.le_of_ble_eq_true rfl⟩)) ?_
  refine tpi (y := 1) (by decide) ?_
  refine lv_if_ne (tgt := 13) hx hb d_M_interrupt_6 (by decide) (fun c_1 => ?_) (fun c_1 => ?_)
  · skip
    refine lv_aload_n hx hb d_M_interrupt_13 rfl (lv_at hl 0 rfl) ?_
    refine lv_iload_n hx hb d_M_interrupt_14 rfl (lv_at hl 1 rfl) ?_
    refine lv_iload_n hx hb d_M_interrupt_15 rfl (lv_at hl 2 rfl) ?_
    have hPc := hP.sub (ws' := [(y, .inr (5, [.int th, .int (nI bi), .int (nI ne), .int (nI li), .int (nI sp), .int (nI q), .ref ms, .ref mw, .ref mu, .ref mc, .ref mn, .int en, .int (nI sz), .ref mr, .int (nI wa), .ref mq, .int la, .ref md, .int at0, .int lk]))]) [0] rfl
    have hKc := hK.sub (tys' := []) [] rfl
    refine pci (va_runV (As := [.int 1, .int (nI n)]) (rest := [.ref y]) ⟨hx, hb, hml, hown, hg⟩ (c_M_isError l D y ms mw mu mc mn mr mq md bi ne li sp q sz wa th en la at0 lk 1 (nI n) (by omega)) (cwV 2 hg (gV gw_630 gw_632 gs_19 gw_7 gw_633) rfl rfl rfl (by decide +kernel) ⟨Nat.le_of_ble_eq_true rfl, Nat.le_of_ble_eq_true rfl⟩) ⟨fun a U g mk q => by obtain ⟨q0, qP, qK⟩ := q; exact ⟨q0, qP, va_K.moved (u := U) (U := U.calling g mk a) (Vm.Alike.refl U.vm) qK⟩, va_recv hKc hPc (ci := 5) (q0 := 0) rfl rfl, fun U hU hW => ⟨rfl, by rw [hU]; exact hPc, va_K.moved hW.alike hKc⟩⟩ rfl rfl hl.1 rfl (lv_room (Nat.le_of_ble_eq_true rfl)) d_M_interrupt_16 (⟨Nat.le_of_ble_eq_true rfl, Nat.le_of_ble_eq_true rfl⟩)) ?_
    refine tpi (y := 1) (if_pos ⟨by rw [nI_toInt (by omega)]; omega, by rw [nI_toInt (by omega)]; omega, Or.inl (nI_ne0 hn1 (by omega))⟩) ?_
    refine lv_if_ne (tgt := 26) hx hb d_M_interrupt_19 (by decide) (fun c_2 => ?_) (fun c_2 => ?_)
    · skip
      refine lv_iconst (v := 0) hx hb d_M_interrupt_26 (by decide) ?_
      refine va_put (D := D) (ci := 5) (v := .int 0) (ty := .int) (C := R_M) (T := T_M) (N := 20) hx hb hg in_M ty_M tok_M nm_M hown hK hP hD hS 0 rfl rfl 0 (by decide) (hg _ gw_524) (fun _ h9 => h9) rfl (by decide +kernel) (rfl) (rfl) (Nat.le_of_ble_eq_true rfl) d_M_interrupt_27 (fun H locs hP hD hS => ?_)
      have hP : va_P D CLS [(y, .inr (5, [.int 0, .int (nI bi), .int (nI ne), .int (nI li), .int (nI sp), .int (nI q), .ref ms, .ref mw, .ref mu, .ref mc, .ref mn, .int en, .int (nI sz), .ref mr, .int (nI wa), .ref mq, .int la, .ref md, .int at0, .int lk])), (mw, .inl (cI, 2, .inl lw)), (mu, .inl (cI, 4, .inl su)), (mc, .inl (cI, 4, .inl cu)), (mn, .inl (cI, 4, .inl nu)), (mr, .inl (cB, 6000, .inl wr)), (md, .inl (cB, 400, .inl dr))] H := hP
      have hD : va_D A [(y, .inr (5, [.int 0, .int (nI bi), .int (nI ne), .int (nI li), .int (nI sp), .int (nI q), .ref ms, .ref mw, .ref mu, .ref mc, .ref mn, .int en, .int (nI sz), .ref mr, .int (nI wa), .ref mq, .int la, .ref md, .int at0, .int lk])), (mw, .inl (cI, 2, .inl lw)), (mu, .inl (cI, 4, .inl su)), (mc, .inl (cI, 4, .inl cu)), (mn, .inl (cI, 4, .inl nu)), (mr, .inl (cB, 6000, .inl wr)), (md, .inl (cB, 400, .inl dr))] := hD
      refine lv_aload_n hx hb d_M_interrupt_30 rfl (lv_at hl 0 rfl) ?_
      refine va_get (D := D) (ci := 5) (v := .int 0) (C := R_M) (T := T_M) (N := 20) hx hb hg in_M hown hK hP 0 rfl rfl 0 (by decide) (hg _ gw_524) (fun _ h9 => h9) rfl d_M_interrupt_31 ?_
      refine lv_if_le (tgt := 39) hx hb d_M_interrupt_34 (by decide) (fun c_3 => ?_) (fun c_3 => ?_)
      · skip
        refine lv_aload_n hx hb d_M_interrupt_39 rfl (lv_at hl 0 rfl) ?_
        refine lv_iload_n hx hb d_M_interrupt_40 rfl (lv_at hl 1 rfl) ?_
        have hPc := hP.sub (ws' := [(y, .inr (5, [.int 0, .int (nI bi), .int (nI ne), .int (nI li), .int (nI sp), .int (nI q), .ref ms, .ref mw, .ref mu, .ref mc, .ref mn, .int en, .int (nI sz), .ref mr, .int (nI wa), .ref mq, .int la, .ref md, .int at0, .int lk])), (mu, .inl (cI, 4, .inl su)), (mc, .inl (cI, 4, .inl cu)), (mn, .inl (cI, 4, .inl nu))]) [0, 2, 3, 4] rfl
        have hKc := hK.sub (tys' := [(cI, .int)]) [1] rfl
        refine pci (va_runV (As := [.int 1]) (rest := []) ⟨hx, hb, hml, hown, hg⟩ (c_M_isUp1 l D y ms mw mu mc mn mr mq md bi ne li sp q sz wa 0 en la at0 lk cI su cu nu sm ct ng K hsu hcu hnu hc0 hn0 (by omega) hKb hK1 hK2) (cwV 1 hg (gV gw_634 gw_636 gs_20 gw_7 gw_637) rfl rfl rfl (by decide +kernel) ⟨Nat.le_of_ble_eq_true rfl, Nat.le_of_ble_eq_true rfl⟩) ⟨fun a U g mk q => by obtain ⟨q0, qP, qK⟩ := q; exact ⟨q0, qP, va_K.moved (u := U) (U := U.calling g mk a) (Vm.Alike.refl U.vm) qK⟩, va_recv hKc hPc (ci := 5) (q0 := 0) rfl rfl, fun U hU hW => ⟨rfl, by rw [hU]; exact hPc, va_K.moved hW.alike hKc⟩⟩ rfl rfl hl.1 rfl (lv_room (Nat.le_of_ble_eq_true rfl)) d_M_interrupt_41 (⟨Nat.le_of_ble_eq_true rfl, Nat.le_of_ble_eq_true rfl⟩)) ?_
        by_cases hup : (K = 0 ∧ 2 * ng < ct)
        · skip
          refine tpi (y := 1) (if_pos hup) ?_
          refine lv_if_eq (tgt := 59) hx hb d_M_interrupt_44 (by decide) (fun c_4 => ?_) (fun c_4 => ?_)
          · skip
            exact absurd c_4 (by decide)
          · skip
            refine lv_iload_n hx hb d_M_interrupt_47 rfl (lv_at hl 2 rfl) ?_
            refine lv_if_le (tgt := 55) hx hb d_M_interrupt_48 (by decide) (fun c_5 => ?_) (fun c_5 => ?_)
            · skip
              have hn00 : n = 0 := Nat.eq_zero_of_not_pos (fun q9 => nI_nle q9 (by omega) c_5)
              exact absurd hn00 (by omega)
            · skip
              have hn00 : ¬ n = 0 := fun q9 => c_5 (by rw [q9]; decide)
              have hfl : (if ¬ n = 0 ∧ (K = 0 ∧ 2 * ng < ct) then 1 else 0 : Nat) = 1 := if_pos ⟨hn00, hup⟩
              refine lv_iconst (v := 1) hx hb d_M_interrupt_51 (by decide) ?_
              refine lv_goto (tgt := 68) hx hb d_M_interrupt_52 (by decide) ?_
              refine lv_istore_n (lv' := [(3, .int 1), (0, .ref y), (1, .int 1), (2, .int (nI n))]) hx hb d_M_interrupt_68 rfl hl (by decide) rfl (fun ls hl => ?_)
              refine lv_iconst (v := 2) hx hb d_M_interrupt_69 (by decide) ?_
              refine lv_iload_n hx hb d_M_interrupt_70 rfl (lv_at hl 3 rfl) ?_
              refine lv_if_ge (tgt := 79) hx hb d_M_interrupt_71 (by decide) (fun c_6 => ?_) (fun c_6 => ?_)
              · skip
                refine lv_iload_n hx hb d_M_interrupt_79 rfl (lv_at hl 3 rfl) ?_
                refine lv_imul hx hb d_M_interrupt_80 ?_
                refine tpi (y := nI (2 * n)) (mul2 n) ?_
                refine lv_iload_n hx hb d_M_interrupt_81 rfl (lv_at hl 2 rfl) ?_
                refine lv_isub hx hb d_M_interrupt_82 ?_
                refine tpi (y := nI (2 * n - 1)) (pk_sub (b := 1) (by omega)) ?_
                refine lv_iload_n hx hb d_M_interrupt_83 rfl (lv_at hl 0 rfl) ?_
                refine lv_if_eq (tgt := 91) hx hb d_M_interrupt_84 (by decide) (fun c_7 => ?_) (fun c_7 => ?_)
                · skip
                  exact absurd c_7 (by decide)
                · skip
                  refine lv_iconst (v := 1) hx hb d_M_interrupt_87 (by decide) ?_
                  refine lv_goto (tgt := 92) hx hb d_M_interrupt_88 (by decide) ?_
                  refine lv_isub hx hb d_M_interrupt_92 ?_
                  refine tpi (y := nI M) ((pk_sub (b := 1) (by omega)).trans (congrArg nI (by rw [hM, hfl]))) ?_
                  refine lv_istore (lv' := [(4, .int (nI M)), (3, .int 1), (0, .ref y), (1, .int 1), (2, .int (nI n))]) hx hb d_M_interrupt_93 hl (by decide) rfl (fun ls hl => ?_)
                  refine lv_aload_n hx hb d_M_interrupt_95 rfl (lv_at hl 2 rfl) ?_
                  refine lv_iconst (v := 0) hx hb d_M_interrupt_96 (by decide) ?_
                  refine tpi (y := nI 0) (rfl) ?_
                  refine va_put (D := D) (ci := 5) (v := .int (nI 0)) (ty := .int) (C := R_M) (T := T_M) (N := 20) hx hb hg in_M ty_M tok_M nm_M hown hK hP hD hS 0 rfl rfl 16 (by decide) (hg _ gw_540) (fun _ h9 => h9) rfl (by decide +kernel) (rfl) (rfl) (Nat.le_of_ble_eq_true rfl) d_M_interrupt_97 (fun H locs hP hD hS => ?_)
                  have hP : va_P D CLS [(y, .inr (5, [.int 0, .int (nI bi), .int (nI ne), .int (nI li), .int (nI sp), .int (nI q), .ref ms, .ref mw, .ref mu, .ref mc, .ref mn, .int en, .int (nI sz), .ref mr, .int (nI wa), .ref mq, .int (nI 0), .ref md, .int at0, .int lk])), (mw, .inl (cI, 2, .inl lw)), (mu, .inl (cI, 4, .inl su)), (mc, .inl (cI, 4, .inl cu)), (mn, .inl (cI, 4, .inl nu)), (mr, .inl (cB, 6000, .inl wr)), (md, .inl (cB, 400, .inl dr))] H := hP
                  have hD : va_D A [(y, .inr (5, [.int 0, .int (nI bi), .int (nI ne), .int (nI li), .int (nI sp), .int (nI q), .ref ms, .ref mw, .ref mu, .ref mc, .ref mn, .int en, .int (nI sz), .ref mr, .int (nI wa), .ref mq, .int (nI 0), .ref md, .int at0, .int lk])), (mw, .inl (cI, 2, .inl lw)), (mu, .inl (cI, 4, .inl su)), (mc, .inl (cI, 4, .inl cu)), (mn, .inl (cI, 4, .inl nu)), (mr, .inl (cB, 6000, .inl wr)), (md, .inl (cB, 400, .inl dr))] := hD
                  refine lv_aload_n hx hb d_M_interrupt_100 rfl (lv_at hl 2 rfl) ?_
                  refine lv_iload hx hb d_M_interrupt_101 (lv_at hl 0 rfl) ?_
                  refine lv_aload_n hx hb d_M_interrupt_103 rfl (lv_at hl 2 rfl) ?_
                  refine lv_iload_n hx hb d_M_interrupt_104 rfl (lv_at hl 3 rfl) ?_
                  have hPc := hP.sub (ws' := [(y, .inr (5, [.int 0, .int (nI bi), .int (nI ne), .int (nI li), .int (nI sp), .int (nI q), .ref ms, .ref mw, .ref mu, .ref mc, .ref mn, .int en, .int (nI sz), .ref mr, .int (nI wa), .ref mq, .int (nI 0), .ref md, .int at0, .int lk])), (mu, .inl (cI, 4, .inl su)), (mc, .inl (cI, 4, .inl cu)), (mn, .inl (cI, 4, .inl nu))]) [0, 2, 3, 4] rfl
                  have hKc := hK.sub (tys' := [(cI, .int)]) [1] rfl
                  refine pci (va_runV (As := [.int 1]) (rest := [.int (nI M), .ref y]) ⟨hx, hb, hml, hown, hg⟩ (c_M_kOf1 l D y ms mw mu mc mn mr mq md bi ne li sp q sz wa 0 en (nI 0) at0 lk cI su cu nu sm ct ng K hsu hcu hnu hc0 hn0 (by omega) hKb hK1 hK2) (cwV 1 hg (gV gw_638 gw_640 gs_21 gw_7 gw_641) rfl rfl rfl (by decide +kernel) ⟨Nat.le_of_ble_eq_true rfl, Nat.le_of_ble_eq_true rfl⟩) ⟨fun a U g mk q => by obtain ⟨q0, qP, qK⟩ := q; exact ⟨q0, qP, va_K.moved (u := U) (U := U.calling g mk a) (Vm.Alike.refl U.vm) qK⟩, va_recv hKc hPc (ci := 5) (q0 := 0) rfl rfl, fun U hU hW => ⟨rfl, by rw [hU]; exact hPc, va_K.moved hW.alike hKc⟩⟩ rfl rfl hl.1 rfl (lv_room (Nat.le_of_ble_eq_true rfl)) d_M_interrupt_105 (⟨Nat.le_of_ble_eq_true rfl, Nat.le_of_ble_eq_true rfl⟩)) ?_
                  refine lv_aload_n hx hb d_M_interrupt_108 rfl (lv_at hl 2 rfl) ?_
                  refine lv_iconst (v := 0) hx hb d_M_interrupt_109 (by decide) ?_
                  have hPc := hP.sub (ws' := [(y, .inr (5, [.int 0, .int (nI bi), .int (nI ne), .int (nI li), .int (nI sp), .int (nI q), .ref ms, .ref mw, .ref mu, .ref mc, .ref mn, .int en, .int (nI sz), .ref mr, .int (nI wa), .ref mq, .int (nI 0), .ref md, .int at0, .int lk])), (mw, .inl (cI, 2, .inl lw))]) [0, 1] rfl
                  have hKc := hK.sub (tys' := [(cI, .int)]) [1] rfl
                  refine pci (va_runV (As := [.int 0]) (rest := [.int (nI K), .int (nI M), .ref y]) ⟨hx, hb, hml, hown, hg⟩ (c_M_limitFor0 l D y ms mw mu mc mn mr mq md bi ne li sp q sz wa 0 en (nI 0) at0 lk cI lw rw hlw (by omega)) (cwV 1 hg (gV gw_642 gw_644 gs_22 gw_7 gw_645) rfl rfl rfl (by decide +kernel) ⟨Nat.le_of_ble_eq_true rfl, Nat.le_of_ble_eq_true rfl⟩) ⟨fun a U g mk q => by obtain ⟨q0, qP, qK⟩ := q; exact ⟨q0, qP, va_K.moved (u := U) (U := U.calling g mk a) (Vm.Alike.refl U.vm) qK⟩, va_recv hKc hPc (ci := 5) (q0 := 0) rfl rfl, fun U hU hW => ⟨rfl, by rw [hU]; exact hPc, va_K.moved hW.alike hKc⟩⟩ rfl rfl hl.1 rfl (lv_room (Nat.le_of_ble_eq_true rfl)) d_M_interrupt_110 (⟨Nat.le_of_ble_eq_true rfl, Nat.le_of_ble_eq_true rfl⟩)) ?_
                  have hPc := hP.sub (ws' := [(y, .inr (5, [.int 0, .int (nI bi), .int (nI ne), .int (nI li), .int (nI sp), .int (nI q), .ref ms, .ref mw, .ref mu, .ref mc, .ref mn, .int en, .int (nI sz), .ref mr, .int (nI wa), .ref mq, .int (nI 0), .ref md, .int at0, .int lk])), (md, .inl (cB, 400, .inl dr))]) [0, 6] rfl
                  have hDc := hD.sub (ws' := [(y, .inr (5, [.int 0, .int (nI bi), .int (nI ne), .int (nI li), .int (nI sp), .int (nI q), .ref ms, .ref mw, .ref mu, .ref mc, .ref mn, .int en, .int (nI sz), .ref mr, .int (nI wa), .ref mq, .int (nI 0), .ref md, .int at0, .int lk])), (md, .inl (cB, 400, .inl dr))]) [0, 6] (by decide) rfl
                  have hKc := hK.sub (tys' := [(cB, .byte)]) [0] rfl
                  refine mcv (va_runV (As := [.int (nI M), .int (nI K), .int (nI (li - 1 - rw))]) (rest := []) ⟨hx, hb, hml, hown, hg⟩ (c_M_layNumber l D y ms mw mu mc mn mr mq md bi ne li sp q sz wa 0 en (nI 0) at0 lk cB dr 0 M K (li - 1 - rw) (by omega) (by omega) (by omega) (by omega) (by omega) (by omega)) (cwV 3 hg (gV gw_594 gw_596 gs_13 gw_7 gw_597) rfl rfl rfl (by decide +kernel) ⟨Nat.le_of_ble_eq_true rfl, Nat.le_of_ble_eq_true rfl⟩) ⟨fun a U g mk q => by obtain ⟨q0, qP, qK, qD⟩ := q; exact ⟨q0, qP, va_K.moved (u := U) (U := U.calling g mk a) (Vm.Alike.refl U.vm) qK, qD⟩, va_recv hKc hPc (ci := 5) (q0 := 0) rfl rfl, fun U hU hW => ⟨rfl, by rw [hU]; exact hPc, va_K.moved hW.alike hKc, hDc.weaken (fun _ _ _ _ => trivial)⟩⟩ rfl rfl hl.1 rfl (lv_room (Nat.le_of_ble_eq_true rfl)) d_M_interrupt_113 (⟨Nat.le_of_ble_eq_true rfl, Nat.le_of_ble_eq_true rfl⟩)) hS hP hD [0, 6] rfl rfl rfl (fun H locs hP hD hS => ?_)
                  have hP : va_P D CLS [(y, .inr (5, [.int 0, .int (nI bi), .int (nI ne), .int (nI li), .int (nI sp), .int (nI q), .ref ms, .ref mw, .ref mu, .ref mc, .ref mn, .int en, .int (nI sz), .ref mr, .int (nI wa), .ref mq, .int (nI (0 + nlen q K M (li - 1 - rw - q - 1))), .ref md, .int at0, .int lk])), (mw, .inl (cI, 2, .inl lw)), (mu, .inl (cI, 4, .inl su)), (mc, .inl (cI, 4, .inl cu)), (mn, .inl (cI, 4, .inl nu)), (mr, .inl (cB, 6000, .inl wr)), (md, .inl (cB, 400, .inl (wnum dr q K M (li - 1 - rw - q - 1) 0)))] H := hP
                  have hD : va_D A [(y, .inr (5, [.int 0, .int (nI bi), .int (nI ne), .int (nI li), .int (nI sp), .int (nI q), .ref ms, .ref mw, .ref mu, .ref mc, .ref mn, .int en, .int (nI sz), .ref mr, .int (nI wa), .ref mq, .int (nI (0 + nlen q K M (li - 1 - rw - q - 1))), .ref md, .int at0, .int lk])), (mw, .inl (cI, 2, .inl lw)), (mu, .inl (cI, 4, .inl su)), (mc, .inl (cI, 4, .inl cu)), (mn, .inl (cI, 4, .inl nu)), (mr, .inl (cB, 6000, .inl wr)), (md, .inl (cB, 400, .inl (wnum dr q K M (li - 1 - rw - q - 1) 0)))] := hD
                  refine lv_aload_n hx hb d_M_interrupt_116 rfl (lv_at hl 2 rfl) ?_
                  refine lv_aload_n hx hb d_M_interrupt_117 rfl (lv_at hl 2 rfl) ?_
                  have hPc := hP.sub (ws' := [(y, .inr (5, [.int 0, .int (nI bi), .int (nI ne), .int (nI li), .int (nI sp), .int (nI q), .ref ms, .ref mw, .ref mu, .ref mc, .ref mn, .int en, .int (nI sz), .ref mr, .int (nI wa), .ref mq, .int (nI (0 + nlen q K M (li - 1 - rw - q - 1))), .ref md, .int at0, .int lk]))]) [0] rfl
                  have hKc := hK.sub (tys' := []) [] rfl
                  refine pci (va_runV (As := []) (rest := [.ref y]) ⟨hx, hb, hml, hown, hg⟩ (c_M_hasRoom l D y ms mw mu mc mn mr mq md bi ne li sp q sz wa 0 en (nI (0 + nlen q K M (li - 1 - rw - q - 1))) at0 lk (0 + nlen q K M (li - 1 - rw - q - 1)) hsz (by omega)) (cwV 0 hg (gV gw_606 gw_608 gs_16 gw_7 gw_609) rfl rfl rfl (by decide +kernel) ⟨Nat.le_of_ble_eq_true rfl, Nat.le_of_ble_eq_true rfl⟩) ⟨fun a U g mk q => by obtain ⟨q0, qP, qK⟩ := q; exact ⟨q0, qP, va_K.moved (u := U) (U := U.calling g mk a) (Vm.Alike.refl U.vm) qK⟩, va_recv hKc hPc (ci := 5) (q0 := 0) rfl rfl, fun U hU hW => ⟨rfl, by rw [hU]; exact hPc, va_K.moved hW.alike hKc⟩⟩ rfl rfl hl.1 rfl (lv_room (Nat.le_of_ble_eq_true rfl)) d_M_interrupt_118 (⟨Nat.le_of_ble_eq_true rfl, Nat.le_of_ble_eq_true rfl⟩)) ?_
                  refine tpi (y := 0) (if_neg (by omega)) ?_
                  refine lv_if_eq (tgt := 128) hx hb d_M_interrupt_121 (by decide) (fun c_8 => ?_) (fun c_8 => ?_)
                  · skip
                    refine lv_iconst (v := 3) hx hb d_M_interrupt_128 (by decide) ?_
                    refine va_put (D := D) (ci := 5) (v := .int 3) (ty := .int) (C := R_M) (T := T_M) (N := 20) hx hb hg in_M ty_M tok_M nm_M hown hK hP hD hS 0 rfl rfl 0 (by decide) (hg _ gw_524) (fun _ h9 => h9) rfl (by decide +kernel) (rfl) (rfl) (Nat.le_of_ble_eq_true rfl) d_M_interrupt_129 (fun H locs hP hD hS => ?_)
                    have hP : va_P D CLS [(y, .inr (5, [.int 3, .int (nI bi), .int (nI ne), .int (nI li), .int (nI sp), .int (nI q), .ref ms, .ref mw, .ref mu, .ref mc, .ref mn, .int en, .int (nI sz), .ref mr, .int (nI wa), .ref mq, .int (nI (0 + nlen q K M (li - 1 - rw - q - 1))), .ref md, .int at0, .int lk])), (mw, .inl (cI, 2, .inl lw)), (mu, .inl (cI, 4, .inl su)), (mc, .inl (cI, 4, .inl cu)), (mn, .inl (cI, 4, .inl nu)), (mr, .inl (cB, 6000, .inl wr)), (md, .inl (cB, 400, .inl (wnum dr q K M (li - 1 - rw - q - 1) 0)))] H := hP
                    have hD : va_D A [(y, .inr (5, [.int 3, .int (nI bi), .int (nI ne), .int (nI li), .int (nI sp), .int (nI q), .ref ms, .ref mw, .ref mu, .ref mc, .ref mn, .int en, .int (nI sz), .ref mr, .int (nI wa), .ref mq, .int (nI (0 + nlen q K M (li - 1 - rw - q - 1))), .ref md, .int at0, .int lk])), (mw, .inl (cI, 2, .inl lw)), (mu, .inl (cI, 4, .inl su)), (mc, .inl (cI, 4, .inl cu)), (mn, .inl (cI, 4, .inl nu)), (mr, .inl (cB, 6000, .inl wr)), (md, .inl (cB, 400, .inl (wnum dr q K M (li - 1 - rw - q - 1) 0)))] := hD
                    refine lv_aload_n hx hb d_M_interrupt_132 rfl (lv_at hl 2 rfl) ?_
                    refine va_get (D := D) (ci := 5) (v := .int 3) (C := R_M) (T := T_M) (N := 20) hx hb hg in_M hown hK hP 0 rfl rfl 0 (by decide) (hg _ gw_524) (fun _ h9 => h9) rfl d_M_interrupt_133 ?_
                    refine lv_if_le (tgt := 141) hx hb d_M_interrupt_136 (by decide) (fun c_9 => ?_) (fun c_9 => ?_)
                    · skip
                      exact absurd c_9 (by decide)
                    · skip
                      refine lv_iconst (v := 0) hx hb d_M_interrupt_139 (by decide) ?_
                      exact W.iret (v := 0) hx hb hr (fun t ht hW => ⟨rfl, by rw [ht]; exact hP, (hAe ▸ hS).F ht⟩) (hAe ▸ hS).2.2 d_M_interrupt_140
                  · skip
                    exact absurd rfl c_8
              · skip
                exact absurd (Int32.not_lt.mp (nI_pos (by omega))) c_6
        · skip
          refine tpi (y := 0) (if_neg hup) ?_
          refine lv_if_eq (tgt := 59) hx hb d_M_interrupt_44 (by decide) (fun c_10 => ?_) (fun c_10 => ?_)
          · skip
            refine lv_iload_n hx hb d_M_interrupt_59 rfl (lv_at hl 2 rfl) ?_
            refine lv_if_ge (tgt := 67) hx hb d_M_interrupt_60 (by decide) (fun c_11 => ?_) (fun c_11 => ?_)
            · skip
              have hfl : (if ¬ n = 0 ∧ (K = 0 ∧ 2 * ng < ct) then 1 else 0 : Nat) = 0 := if_neg (fun q9 => hup q9.2)
              refine lv_iconst (v := 0) hx hb d_M_interrupt_67 (by decide) ?_
              refine lv_istore_n (lv' := [(3, .int 0), (0, .ref y), (1, .int 1), (2, .int (nI n))]) hx hb d_M_interrupt_68 rfl hl (by decide) rfl (fun ls hl => ?_)
              refine lv_iconst (v := 2) hx hb d_M_interrupt_69 (by decide) ?_
              refine lv_iload_n hx hb d_M_interrupt_70 rfl (lv_at hl 3 rfl) ?_
              refine lv_if_ge (tgt := 79) hx hb d_M_interrupt_71 (by decide) (fun c_12 => ?_) (fun c_12 => ?_)
              · skip
                refine lv_iload_n hx hb d_M_interrupt_79 rfl (lv_at hl 3 rfl) ?_
                refine lv_imul hx hb d_M_interrupt_80 ?_
                refine tpi (y := nI (2 * n)) (mul2 n) ?_
                refine lv_iload_n hx hb d_M_interrupt_81 rfl (lv_at hl 2 rfl) ?_
                refine lv_isub hx hb d_M_interrupt_82 ?_
                refine tpi (y := nI (2 * n - 1)) (pk_sub (b := 1) (by omega)) ?_
                refine lv_iload_n hx hb d_M_interrupt_83 rfl (lv_at hl 0 rfl) ?_
                refine lv_if_eq (tgt := 91) hx hb d_M_interrupt_84 (by decide) (fun c_13 => ?_) (fun c_13 => ?_)
                · skip
                  refine lv_iconst (v := 0) hx hb d_M_interrupt_91 (by decide) ?_
                  refine lv_isub hx hb d_M_interrupt_92 ?_
                  refine tpi (y := nI M) ((pk_sub (b := 0) (by omega)).trans (congrArg nI (by rw [hM, hfl]))) ?_
                  refine lv_istore (lv' := [(4, .int (nI M)), (3, .int 0), (0, .ref y), (1, .int 1), (2, .int (nI n))]) hx hb d_M_interrupt_93 hl (by decide) rfl (fun ls hl => ?_)
                  refine lv_aload_n hx hb d_M_interrupt_95 rfl (lv_at hl 2 rfl) ?_
                  refine lv_iconst (v := 0) hx hb d_M_interrupt_96 (by decide) ?_
                  refine tpi (y := nI 0) (rfl) ?_
                  refine va_put (D := D) (ci := 5) (v := .int (nI 0)) (ty := .int) (C := R_M) (T := T_M) (N := 20) hx hb hg in_M ty_M tok_M nm_M hown hK hP hD hS 0 rfl rfl 16 (by decide) (hg _ gw_540) (fun _ h9 => h9) rfl (by decide +kernel) (rfl) (rfl) (Nat.le_of_ble_eq_true rfl) d_M_interrupt_97 (fun H locs hP hD hS => ?_)
                  have hP : va_P D CLS [(y, .inr (5, [.int 0, .int (nI bi), .int (nI ne), .int (nI li), .int (nI sp), .int (nI q), .ref ms, .ref mw, .ref mu, .ref mc, .ref mn, .int en, .int (nI sz), .ref mr, .int (nI wa), .ref mq, .int (nI 0), .ref md, .int at0, .int lk])), (mw, .inl (cI, 2, .inl lw)), (mu, .inl (cI, 4, .inl su)), (mc, .inl (cI, 4, .inl cu)), (mn, .inl (cI, 4, .inl nu)), (mr, .inl (cB, 6000, .inl wr)), (md, .inl (cB, 400, .inl dr))] H := hP
                  have hD : va_D A [(y, .inr (5, [.int 0, .int (nI bi), .int (nI ne), .int (nI li), .int (nI sp), .int (nI q), .ref ms, .ref mw, .ref mu, .ref mc, .ref mn, .int en, .int (nI sz), .ref mr, .int (nI wa), .ref mq, .int (nI 0), .ref md, .int at0, .int lk])), (mw, .inl (cI, 2, .inl lw)), (mu, .inl (cI, 4, .inl su)), (mc, .inl (cI, 4, .inl cu)), (mn, .inl (cI, 4, .inl nu)), (mr, .inl (cB, 6000, .inl wr)), (md, .inl (cB, 400, .inl dr))] := hD
                  refine lv_aload_n hx hb d_M_interrupt_100 rfl (lv_at hl 2 rfl) ?_
                  refine lv_iload hx hb d_M_interrupt_101 (lv_at hl 0 rfl) ?_
                  refine lv_aload_n hx hb d_M_interrupt_103 rfl (lv_at hl 2 rfl) ?_
                  refine lv_iload_n hx hb d_M_interrupt_104 rfl (lv_at hl 3 rfl) ?_
                  have hPc := hP.sub (ws' := [(y, .inr (5, [.int 0, .int (nI bi), .int (nI ne), .int (nI li), .int (nI sp), .int (nI q), .ref ms, .ref mw, .ref mu, .ref mc, .ref mn, .int en, .int (nI sz), .ref mr, .int (nI wa), .ref mq, .int (nI 0), .ref md, .int at0, .int lk])), (mu, .inl (cI, 4, .inl su)), (mc, .inl (cI, 4, .inl cu)), (mn, .inl (cI, 4, .inl nu))]) [0, 2, 3, 4] rfl
                  have hKc := hK.sub (tys' := [(cI, .int)]) [1] rfl
                  refine pci (va_runV (As := [.int 1]) (rest := [.int (nI M), .ref y]) ⟨hx, hb, hml, hown, hg⟩ (c_M_kOf1 l D y ms mw mu mc mn mr mq md bi ne li sp q sz wa 0 en (nI 0) at0 lk cI su cu nu sm ct ng K hsu hcu hnu hc0 hn0 (by omega) hKb hK1 hK2) (cwV 1 hg (gV gw_638 gw_640 gs_21 gw_7 gw_641) rfl rfl rfl (by decide +kernel) ⟨Nat.le_of_ble_eq_true rfl, Nat.le_of_ble_eq_true rfl⟩) ⟨fun a U g mk q => by obtain ⟨q0, qP, qK⟩ := q; exact ⟨q0, qP, va_K.moved (u := U) (U := U.calling g mk a) (Vm.Alike.refl U.vm) qK⟩, va_recv hKc hPc (ci := 5) (q0 := 0) rfl rfl, fun U hU hW => ⟨rfl, by rw [hU]; exact hPc, va_K.moved hW.alike hKc⟩⟩ rfl rfl hl.1 rfl (lv_room (Nat.le_of_ble_eq_true rfl)) d_M_interrupt_105 (⟨Nat.le_of_ble_eq_true rfl, Nat.le_of_ble_eq_true rfl⟩)) ?_
                  refine lv_aload_n hx hb d_M_interrupt_108 rfl (lv_at hl 2 rfl) ?_
                  refine lv_iconst (v := 0) hx hb d_M_interrupt_109 (by decide) ?_
                  have hPc := hP.sub (ws' := [(y, .inr (5, [.int 0, .int (nI bi), .int (nI ne), .int (nI li), .int (nI sp), .int (nI q), .ref ms, .ref mw, .ref mu, .ref mc, .ref mn, .int en, .int (nI sz), .ref mr, .int (nI wa), .ref mq, .int (nI 0), .ref md, .int at0, .int lk])), (mw, .inl (cI, 2, .inl lw))]) [0, 1] rfl
                  have hKc := hK.sub (tys' := [(cI, .int)]) [1] rfl
                  refine pci (va_runV (As := [.int 0]) (rest := [.int (nI K), .int (nI M), .ref y]) ⟨hx, hb, hml, hown, hg⟩ (c_M_limitFor0 l D y ms mw mu mc mn mr mq md bi ne li sp q sz wa 0 en (nI 0) at0 lk cI lw rw hlw (by omega)) (cwV 1 hg (gV gw_642 gw_644 gs_22 gw_7 gw_645) rfl rfl rfl (by decide +kernel) ⟨Nat.le_of_ble_eq_true rfl, Nat.le_of_ble_eq_true rfl⟩) ⟨fun a U g mk q => by obtain ⟨q0, qP, qK⟩ := q; exact ⟨q0, qP, va_K.moved (u := U) (U := U.calling g mk a) (Vm.Alike.refl U.vm) qK⟩, va_recv hKc hPc (ci := 5) (q0 := 0) rfl rfl, fun U hU hW => ⟨rfl, by rw [hU]; exact hPc, va_K.moved hW.alike hKc⟩⟩ rfl rfl hl.1 rfl (lv_room (Nat.le_of_ble_eq_true rfl)) d_M_interrupt_110 (⟨Nat.le_of_ble_eq_true rfl, Nat.le_of_ble_eq_true rfl⟩)) ?_
                  have hPc := hP.sub (ws' := [(y, .inr (5, [.int 0, .int (nI bi), .int (nI ne), .int (nI li), .int (nI sp), .int (nI q), .ref ms, .ref mw, .ref mu, .ref mc, .ref mn, .int en, .int (nI sz), .ref mr, .int (nI wa), .ref mq, .int (nI 0), .ref md, .int at0, .int lk])), (md, .inl (cB, 400, .inl dr))]) [0, 6] rfl
                  have hDc := hD.sub (ws' := [(y, .inr (5, [.int 0, .int (nI bi), .int (nI ne), .int (nI li), .int (nI sp), .int (nI q), .ref ms, .ref mw, .ref mu, .ref mc, .ref mn, .int en, .int (nI sz), .ref mr, .int (nI wa), .ref mq, .int (nI 0), .ref md, .int at0, .int lk])), (md, .inl (cB, 400, .inl dr))]) [0, 6] (by decide) rfl
                  have hKc := hK.sub (tys' := [(cB, .byte)]) [0] rfl
                  refine mcv (va_runV (As := [.int (nI M), .int (nI K), .int (nI (li - 1 - rw))]) (rest := []) ⟨hx, hb, hml, hown, hg⟩ (c_M_layNumber l D y ms mw mu mc mn mr mq md bi ne li sp q sz wa 0 en (nI 0) at0 lk cB dr 0 M K (li - 1 - rw) (by omega) (by omega) (by omega) (by omega) (by omega) (by omega)) (cwV 3 hg (gV gw_594 gw_596 gs_13 gw_7 gw_597) rfl rfl rfl (by decide +kernel) ⟨Nat.le_of_ble_eq_true rfl, Nat.le_of_ble_eq_true rfl⟩) ⟨fun a U g mk q => by obtain ⟨q0, qP, qK, qD⟩ := q; exact ⟨q0, qP, va_K.moved (u := U) (U := U.calling g mk a) (Vm.Alike.refl U.vm) qK, qD⟩, va_recv hKc hPc (ci := 5) (q0 := 0) rfl rfl, fun U hU hW => ⟨rfl, by rw [hU]; exact hPc, va_K.moved hW.alike hKc, hDc.weaken (fun _ _ _ _ => trivial)⟩⟩ rfl rfl hl.1 rfl (lv_room (Nat.le_of_ble_eq_true rfl)) d_M_interrupt_113 (⟨Nat.le_of_ble_eq_true rfl, Nat.le_of_ble_eq_true rfl⟩)) hS hP hD [0, 6] rfl rfl rfl (fun H locs hP hD hS => ?_)
                  have hP : va_P D CLS [(y, .inr (5, [.int 0, .int (nI bi), .int (nI ne), .int (nI li), .int (nI sp), .int (nI q), .ref ms, .ref mw, .ref mu, .ref mc, .ref mn, .int en, .int (nI sz), .ref mr, .int (nI wa), .ref mq, .int (nI (0 + nlen q K M (li - 1 - rw - q - 1))), .ref md, .int at0, .int lk])), (mw, .inl (cI, 2, .inl lw)), (mu, .inl (cI, 4, .inl su)), (mc, .inl (cI, 4, .inl cu)), (mn, .inl (cI, 4, .inl nu)), (mr, .inl (cB, 6000, .inl wr)), (md, .inl (cB, 400, .inl (wnum dr q K M (li - 1 - rw - q - 1) 0)))] H := hP
                  have hD : va_D A [(y, .inr (5, [.int 0, .int (nI bi), .int (nI ne), .int (nI li), .int (nI sp), .int (nI q), .ref ms, .ref mw, .ref mu, .ref mc, .ref mn, .int en, .int (nI sz), .ref mr, .int (nI wa), .ref mq, .int (nI (0 + nlen q K M (li - 1 - rw - q - 1))), .ref md, .int at0, .int lk])), (mw, .inl (cI, 2, .inl lw)), (mu, .inl (cI, 4, .inl su)), (mc, .inl (cI, 4, .inl cu)), (mn, .inl (cI, 4, .inl nu)), (mr, .inl (cB, 6000, .inl wr)), (md, .inl (cB, 400, .inl (wnum dr q K M (li - 1 - rw - q - 1) 0)))] := hD
                  refine lv_aload_n hx hb d_M_interrupt_116 rfl (lv_at hl 2 rfl) ?_
                  refine lv_aload_n hx hb d_M_interrupt_117 rfl (lv_at hl 2 rfl) ?_
                  have hPc := hP.sub (ws' := [(y, .inr (5, [.int 0, .int (nI bi), .int (nI ne), .int (nI li), .int (nI sp), .int (nI q), .ref ms, .ref mw, .ref mu, .ref mc, .ref mn, .int en, .int (nI sz), .ref mr, .int (nI wa), .ref mq, .int (nI (0 + nlen q K M (li - 1 - rw - q - 1))), .ref md, .int at0, .int lk]))]) [0] rfl
                  have hKc := hK.sub (tys' := []) [] rfl
                  refine pci (va_runV (As := []) (rest := [.ref y]) ⟨hx, hb, hml, hown, hg⟩ (c_M_hasRoom l D y ms mw mu mc mn mr mq md bi ne li sp q sz wa 0 en (nI (0 + nlen q K M (li - 1 - rw - q - 1))) at0 lk (0 + nlen q K M (li - 1 - rw - q - 1)) hsz (by omega)) (cwV 0 hg (gV gw_606 gw_608 gs_16 gw_7 gw_609) rfl rfl rfl (by decide +kernel) ⟨Nat.le_of_ble_eq_true rfl, Nat.le_of_ble_eq_true rfl⟩) ⟨fun a U g mk q => by obtain ⟨q0, qP, qK⟩ := q; exact ⟨q0, qP, va_K.moved (u := U) (U := U.calling g mk a) (Vm.Alike.refl U.vm) qK⟩, va_recv hKc hPc (ci := 5) (q0 := 0) rfl rfl, fun U hU hW => ⟨rfl, by rw [hU]; exact hPc, va_K.moved hW.alike hKc⟩⟩ rfl rfl hl.1 rfl (lv_room (Nat.le_of_ble_eq_true rfl)) d_M_interrupt_118 (⟨Nat.le_of_ble_eq_true rfl, Nat.le_of_ble_eq_true rfl⟩)) ?_
                  refine tpi (y := 0) (if_neg (by omega)) ?_
                  refine lv_if_eq (tgt := 128) hx hb d_M_interrupt_121 (by decide) (fun c_14 => ?_) (fun c_14 => ?_)
                  · skip
                    refine lv_iconst (v := 3) hx hb d_M_interrupt_128 (by decide) ?_
                    refine va_put (D := D) (ci := 5) (v := .int 3) (ty := .int) (C := R_M) (T := T_M) (N := 20) hx hb hg in_M ty_M tok_M nm_M hown hK hP hD hS 0 rfl rfl 0 (by decide) (hg _ gw_524) (fun _ h9 => h9) rfl (by decide +kernel) (rfl) (rfl) (Nat.le_of_ble_eq_true rfl) d_M_interrupt_129 (fun H locs hP hD hS => ?_)
                    have hP : va_P D CLS [(y, .inr (5, [.int 3, .int (nI bi), .int (nI ne), .int (nI li), .int (nI sp), .int (nI q), .ref ms, .ref mw, .ref mu, .ref mc, .ref mn, .int en, .int (nI sz), .ref mr, .int (nI wa), .ref mq, .int (nI (0 + nlen q K M (li - 1 - rw - q - 1))), .ref md, .int at0, .int lk])), (mw, .inl (cI, 2, .inl lw)), (mu, .inl (cI, 4, .inl su)), (mc, .inl (cI, 4, .inl cu)), (mn, .inl (cI, 4, .inl nu)), (mr, .inl (cB, 6000, .inl wr)), (md, .inl (cB, 400, .inl (wnum dr q K M (li - 1 - rw - q - 1) 0)))] H := hP
                    have hD : va_D A [(y, .inr (5, [.int 3, .int (nI bi), .int (nI ne), .int (nI li), .int (nI sp), .int (nI q), .ref ms, .ref mw, .ref mu, .ref mc, .ref mn, .int en, .int (nI sz), .ref mr, .int (nI wa), .ref mq, .int (nI (0 + nlen q K M (li - 1 - rw - q - 1))), .ref md, .int at0, .int lk])), (mw, .inl (cI, 2, .inl lw)), (mu, .inl (cI, 4, .inl su)), (mc, .inl (cI, 4, .inl cu)), (mn, .inl (cI, 4, .inl nu)), (mr, .inl (cB, 6000, .inl wr)), (md, .inl (cB, 400, .inl (wnum dr q K M (li - 1 - rw - q - 1) 0)))] := hD
                    refine lv_aload_n hx hb d_M_interrupt_132 rfl (lv_at hl 2 rfl) ?_
                    refine va_get (D := D) (ci := 5) (v := .int 3) (C := R_M) (T := T_M) (N := 20) hx hb hg in_M hown hK hP 0 rfl rfl 0 (by decide) (hg _ gw_524) (fun _ h9 => h9) rfl d_M_interrupt_133 ?_
                    refine lv_if_le (tgt := 141) hx hb d_M_interrupt_136 (by decide) (fun c_15 => ?_) (fun c_15 => ?_)
                    · skip
                      exact absurd c_15 (by decide)
                    · skip
                      refine lv_iconst (v := 0) hx hb d_M_interrupt_139 (by decide) ?_
                      exact W.iret (v := 0) hx hb hr (fun t ht hW => ⟨rfl, by rw [ht]; exact hP, (hAe ▸ hS).F ht⟩) (hAe ▸ hS).2.2 d_M_interrupt_140
                  · skip
                    exact absurd rfl c_14
                · skip
                  exact absurd rfl c_13
              · skip
                exact absurd (Int32.not_lt.mp (nI_pos (by omega))) c_12
            · skip
              exact absurd (Int32.not_lt.mp (nI_pos (by omega))) c_11
          · skip
            exact absurd rfl c_10
      · skip
        exact absurd (by decide) c_3
    · skip
      exact absurd c_2 (by decide)
  · skip
    exact absurd c_1 (by decide)
set_option maxHeartbeats 4000000 in
set_option maxRecDepth 100000 in
theorem c_M_interrupt1NG (l : Launch) (D : va_G) (y ms mw mu mc mn mr mq md bi ne li sp q sz wa : Nat) (th en la at0 lk : Int32) (cB cI : ClassId) (lw su cu nu wr dr : Nat → Int32) (rw sm ct ng n K M : Nat) (hlw : lw 0 = nI rw) (hsu : su 1 = nI sm) (hcu : cu 1 = nI ct) (hnu : nu 1 = nI ng) (hc0 : ct ≤ 64) (hn0 : ng ≤ 64) (hs0 : sm < 2 ^ 29) (hKb : K ≤ 29) (hK1 : sm + ct / 2 ≤ ct * 2 ^ K) (hK2 : ∀ j, j < K → ct * 2 ^ j < sm + ct / 2) (hsp : sp ≤ 65536) (hn : n ≤ sp / 2) (hn1 : 0 < n) (hM : M = 2 * n - 1 - (if (K = 0 ∧ 2 * ng < ct) then 0 else 1)) (hq : q ≤ 29) (hli : q + 18 ≤ li) (hlb : li ≤ 200) (hrw : rw ≤ 15) (hsz : sz ≤ 6000) (hu : sz + nlen q K M (li - 1 - rw - q - 1) ≤ 6000) : Met l y_M_interrupt (WSY y_M_interrupt b_M_interrupt 5 (some .int)) ({ frames := 3, cells := 0, slots := 0, locals := 72 }) (va_Pc [.ref y, .int 1, .int (-nI n)] (fun U => va_P D CLS [(y, .inr (5, [.int th, .int (nI bi), .int (nI ne), .int (nI li), .int (nI sp), .int (nI q), .ref ms, .ref mw, .ref mu, .ref mc, .ref mn, .int en, .int (nI sz), .ref mr, .int (nI wa), .ref mq, .int la, .ref md, .int at0, .int lk])), (mw, .inl (cI, 2, .inl lw)), (mu, .inl (cI, 4, .inl su)), (mc, .inl (cI, 4, .inl cu)), (mn, .inl (cI, 4, .inl nu)), (mr, .inl (cB, 6000, .inl wr)), (md, .inl (cB, 400, .inl dr))] U.heap ∧ va_K D CLS [(cB, .byte), (cI, .int)] U ∧ va_D (fun _ => True) [(y, .inr (5, [.int th, .int (nI bi), .int (nI ne), .int (nI li), .int (nI sp), .int (nI q), .ref ms, .ref mw, .ref mu, .ref mc, .ref mn, .int en, .int (nI sz), .ref mr, .int (nI wa), .ref mq, .int la, .ref md, .int at0, .int lk])), (mw, .inl (cI, 2, .inl lw)), (mu, .inl (cI, 4, .inl su)), (mc, .inl (cI, 4, .inl cu)), (mn, .inl (cI, 4, .inl nu)), (mr, .inl (cB, 6000, .inl wr)), (md, .inl (cB, 400, .inl dr))])) (QM (some (.int (nI (0 + nlen q K M (li - 1 - rw - q - 1))))) [(y, .inr (5, [.int th, .int (nI bi), .int (nI ne), .int (nI li), .int (nI sp), .int (nI q), .ref ms, .ref mw, .ref mu, .ref mc, .ref mn, .int en, .int (nI sz), .ref mr, .int (nI wa), .ref mq, .int la, .ref md, .int at0, .int lk])), (mw, .inl (cI, 2, .inl lw)), (mu, .inl (cI, 4, .inl su)), (mc, .inl (cI, 4, .inl cu)), (mn, .inl (cI, 4, .inl nu)), (mr, .inl (cB, 6000, .inl wr)), (md, .inl (cB, 400, .inl dr))] [(y, .inr (5, [.int 0, .int (nI bi), .int (nI ne), .int (nI li), .int (nI sp), .int (nI q), .ref ms, .ref mw, .ref mu, .ref mc, .ref mn, .int en, .int (nI (sz + (0 + nlen q K M (li - 1 - rw - q - 1)))), .ref mr, .int (nI wa), .ref mq, .int (nI (0 + nlen q K M (li - 1 - rw - q - 1))), .ref md, .int at0, .int lk])), (mw, .inl (cI, 2, .inl lw)), (mu, .inl (cI, 4, .inl (upd su 1 (nI (hvd ct (sm + (M + 1 - 1) / 2)))))), (mc, .inl (cI, 4, .inl (upd cu 1 (nI (hvd ct ct + 1))))), (mn, .inl (cI, 4, .inl (upd nu 1 (nI (hvd ct (ng + 1)))))), (mr, .inl (cB, 6000, .inl (cpw wr sz (wnum dr q K M (li - 1 - rw - q - 1) 0) (0 + nlen q K M (li - 1 - rw - q - 1))))), (md, .inl (cB, 400, .inl (wnum dr q K M (li - 1 - rw - q - 1) 0)))] D) 0 0 (ad [(y, .inr (5, [.int th, .int (nI bi), .int (nI ne), .int (nI li), .int (nI sp), .int (nI q), .ref ms, .ref mw, .ref mu, .ref mc, .ref mn, .int en, .int (nI sz), .ref mr, .int (nI wa), .ref mq, .int la, .ref md, .int at0, .int lk])), (mw, .inl (cI, 2, .inl lw)), (mu, .inl (cI, 4, .inl su)), (mc, .inl (cI, 4, .inl cu)), (mn, .inl (cI, 4, .inl nu)), (mr, .inl (cB, 6000, .inl wr)), (md, .inl (cB, 400, .inl dr))]) := by
  refine Met.ofW (cc := b_M_interrupt) (maxL := 5) (ret := (some .int)) (by decide) rfl ?_
  intro p e s m args below meth c s₁ B hml hv
  obtain ⟨rfl, hP, hK, hD0⟩ := hv
  have hx := B.exec
  have hb := B.bytes
  have hr := B.returns
  have hts := atoms_spec (ws := WSY y_M_interrupt b_M_interrupt 5 (some .int)) B.pre
  have hg : ∀ w ∈ GW, w.before _ s = true := fun w h => hts w (List.mem_cons_of_mem _ h)
  have hown : s.vm.findClass "LineGolombModel" = some m.cls := findClass_of_methodNamed B.named
  have hlocks := B.notSynchronized
  obtain ⟨A, hAe⟩ : ∃ A, A = ad [(y, .inr (5, [.int th, .int (nI bi), .int (nI ne), .int (nI li), .int (nI sp), .int (nI q), .ref ms, .ref mw, .ref mu, .ref mc, .ref mn, .int en, .int (nI sz), .ref mr, .int (nI wa), .ref mq, .int la, .ref md, .int at0, .int lk])), (mw, .inl (cI, 2, .inl lw)), (mu, .inl (cI, 4, .inl su)), (mc, .inl (cI, 4, .inl cu)), (mn, .inl (cI, 4, .inl nu)), (mr, .inl (cB, 6000, .inl wr)), (md, .inl (cB, 400, .inl dr))] := ⟨_, rfl⟩
  have hD : va_D A [(y, .inr (5, [.int th, .int (nI bi), .int (nI ne), .int (nI li), .int (nI sp), .int (nI q), .ref ms, .ref mw, .ref mu, .ref mc, .ref mn, .int en, .int (nI sz), .ref mr, .int (nI wa), .ref mq, .int la, .ref md, .int at0, .int lk])), (mw, .inl (cI, 2, .inl lw)), (mu, .inl (cI, 4, .inl su)), (mc, .inl (cI, 4, .inl cu)), (mn, .inl (cI, 4, .inl nu)), (mr, .inl (cB, 6000, .inl wr)), (md, .inl (cB, 400, .inl dr))] := by rw [hAe]; exact va_D_ad hD0
  have hS : va_S A s.heap s.heap [] := va_S.rf
  have hl := lv_entry ([.ref y, .int 1, .int (-nI n)]) (n := 5) (Nat.le_of_ble_eq_true rfl)
  rw [lg_entry_eq]
  generalize (lg_sl ([.ref y, .int 1, .int (-nI n)]) ++ List.replicate (5 - (lg_sl ([.ref y, .int 1, .int (-nI n)])).length) Slot.unset).toArray = ls at hl ⊢
  have hl : lv_has ls 5 [(0, .ref y), (1, .int 1), (2, .int (-nI n))] := hl
  have hMb : M ≤ 2 * n := by rw [hM]; omega
  have hlen : nlen q K M (li - 1 - rw - q - 1) ≤ 400 := by unfold nlen; split <;> omega
  refine lv_aload_n hx hb d_M_interrupt_0 rfl (lv_at hl 0 rfl) ?_
  refine lv_aload_n hx hb d_M_interrupt_1 rfl (lv_at hl 0 rfl) ?_
  refine lv_iload_n hx hb d_M_interrupt_2 rfl (lv_at hl 1 rfl) ?_
  have hPc := hP.sub (ws' := [(y, .inr (5, [.int th, .int (nI bi), .int (nI ne), .int (nI li), .int (nI sp), .int (nI q), .ref ms, .ref mw, .ref mu, .ref mc, .ref mn, .int en, .int (nI sz), .ref mr, .int (nI wa), .ref mq, .int la, .ref md, .int at0, .int lk]))]) [0] rfl
  have hKc := hK.sub (tys' := []) [] rfl
  refine pci (va_runV (As := [.int 1]) (rest := [.ref y]) ⟨hx, hb, hml, hown, hg⟩ (c_M_isKind l D y ms mw mu mc mn mr mq md bi ne li sp q sz wa th en la at0 lk 1) (cwV 1 hg (gV gw_626 gw_628 gs_18 gw_7 gw_629) rfl rfl rfl (by decide +kernel) ⟨Nat.le_of_ble_eq_true rfl, Nat.le_of_ble_eq_true rfl⟩) ⟨fun a U g mk q => by obtain ⟨q0, qP, qK⟩ := q; exact ⟨q0, qP, va_K.moved (u := U) (U := U.calling g mk a) (Vm.Alike.refl U.vm) qK⟩, va_recv hKc hPc (ci := 5) (q0 := 0) rfl rfl, fun U hU hW => ⟨rfl, by rw [hU]; exact hPc, va_K.moved hW.alike hKc⟩⟩ rfl rfl hl.1 rfl (lv_room (Nat.le_of_ble_eq_true rfl)) d_M_interrupt_3 (⟨Nat.le_of_ble_eq_true rfl, Nat.le_of_ble_eq_true rfl⟩)) ?_
  refine tpi (y := 1) (by decide) ?_
  refine lv_if_ne (tgt := 13) hx hb d_M_interrupt_6 (by decide) (fun c_1 => ?_) (fun c_1 => ?_)
  · skip
    refine lv_aload_n hx hb d_M_interrupt_13 rfl (lv_at hl 0 rfl) ?_
    refine lv_iload_n hx hb d_M_interrupt_14 rfl (lv_at hl 1 rfl) ?_
    refine lv_iload_n hx hb d_M_interrupt_15 rfl (lv_at hl 2 rfl) ?_
    have hPc := hP.sub (ws' := [(y, .inr (5, [.int th, .int (nI bi), .int (nI ne), .int (nI li), .int (nI sp), .int (nI q), .ref ms, .ref mw, .ref mu, .ref mc, .ref mn, .int en, .int (nI sz), .ref mr, .int (nI wa), .ref mq, .int la, .ref md, .int at0, .int lk]))]) [0] rfl
    have hKc := hK.sub (tys' := []) [] rfl
    refine pci (va_runV (As := [.int 1, .int (-nI n)]) (rest := [.ref y]) ⟨hx, hb, hml, hown, hg⟩ (c_M_isError l D y ms mw mu mc mn mr mq md bi ne li sp q sz wa th en la at0 lk 1 (-nI n) (by omega)) (cwV 2 hg (gV gw_630 gw_632 gs_19 gw_7 gw_633) rfl rfl rfl (by decide +kernel) ⟨Nat.le_of_ble_eq_true rfl, Nat.le_of_ble_eq_true rfl⟩) ⟨fun a U g mk q => by obtain ⟨q0, qP, qK⟩ := q; exact ⟨q0, qP, va_K.moved (u := U) (U := U.calling g mk a) (Vm.Alike.refl U.vm) qK⟩, va_recv hKc hPc (ci := 5) (q0 := 0) rfl rfl, fun U hU hW => ⟨rfl, by rw [hU]; exact hPc, va_K.moved hW.alike hKc⟩⟩ rfl rfl hl.1 rfl (lv_room (Nat.le_of_ble_eq_true rfl)) d_M_interrupt_16 (⟨Nat.le_of_ble_eq_true rfl, Nat.le_of_ble_eq_true rfl⟩)) ?_
    refine tpi (y := 1) (if_pos ⟨by rw [ngT (by omega)]; omega, by rw [ngT (by omega)]; omega, Or.inl (by rw [eqT, ngT (by omega), zT]; omega)⟩) ?_
    refine lv_if_ne (tgt := 26) hx hb d_M_interrupt_19 (by decide) (fun c_2 => ?_) (fun c_2 => ?_)
    · skip
      refine lv_iconst (v := 0) hx hb d_M_interrupt_26 (by decide) ?_
      refine va_put (D := D) (ci := 5) (v := .int 0) (ty := .int) (C := R_M) (T := T_M) (N := 20) hx hb hg in_M ty_M tok_M nm_M hown hK hP hD hS 0 rfl rfl 0 (by decide) (hg _ gw_524) (fun _ h9 => h9) rfl (by decide +kernel) (rfl) (rfl) (Nat.le_of_ble_eq_true rfl) d_M_interrupt_27 (fun H locs hP hD hS => ?_)
      have hP : va_P D CLS [(y, .inr (5, [.int 0, .int (nI bi), .int (nI ne), .int (nI li), .int (nI sp), .int (nI q), .ref ms, .ref mw, .ref mu, .ref mc, .ref mn, .int en, .int (nI sz), .ref mr, .int (nI wa), .ref mq, .int la, .ref md, .int at0, .int lk])), (mw, .inl (cI, 2, .inl lw)), (mu, .inl (cI, 4, .inl su)), (mc, .inl (cI, 4, .inl cu)), (mn, .inl (cI, 4, .inl nu)), (mr, .inl (cB, 6000, .inl wr)), (md, .inl (cB, 400, .inl dr))] H := hP
      have hD : va_D A [(y, .inr (5, [.int 0, .int (nI bi), .int (nI ne), .int (nI li), .int (nI sp), .int (nI q), .ref ms, .ref mw, .ref mu, .ref mc, .ref mn, .int en, .int (nI sz), .ref mr, .int (nI wa), .ref mq, .int la, .ref md, .int at0, .int lk])), (mw, .inl (cI, 2, .inl lw)), (mu, .inl (cI, 4, .inl su)), (mc, .inl (cI, 4, .inl cu)), (mn, .inl (cI, 4, .inl nu)), (mr, .inl (cB, 6000, .inl wr)), (md, .inl (cB, 400, .inl dr))] := hD
      refine lv_aload_n hx hb d_M_interrupt_30 rfl (lv_at hl 0 rfl) ?_
      refine va_get (D := D) (ci := 5) (v := .int 0) (C := R_M) (T := T_M) (N := 20) hx hb hg in_M hown hK hP 0 rfl rfl 0 (by decide) (hg _ gw_524) (fun _ h9 => h9) rfl d_M_interrupt_31 ?_
      refine lv_if_le (tgt := 39) hx hb d_M_interrupt_34 (by decide) (fun c_3 => ?_) (fun c_3 => ?_)
      · skip
        refine lv_aload_n hx hb d_M_interrupt_39 rfl (lv_at hl 0 rfl) ?_
        refine lv_iload_n hx hb d_M_interrupt_40 rfl (lv_at hl 1 rfl) ?_
        have hPc := hP.sub (ws' := [(y, .inr (5, [.int 0, .int (nI bi), .int (nI ne), .int (nI li), .int (nI sp), .int (nI q), .ref ms, .ref mw, .ref mu, .ref mc, .ref mn, .int en, .int (nI sz), .ref mr, .int (nI wa), .ref mq, .int la, .ref md, .int at0, .int lk])), (mu, .inl (cI, 4, .inl su)), (mc, .inl (cI, 4, .inl cu)), (mn, .inl (cI, 4, .inl nu))]) [0, 2, 3, 4] rfl
        have hKc := hK.sub (tys' := [(cI, .int)]) [1] rfl
        refine pci (va_runV (As := [.int 1]) (rest := []) ⟨hx, hb, hml, hown, hg⟩ (c_M_isUp1 l D y ms mw mu mc mn mr mq md bi ne li sp q sz wa 0 en la at0 lk cI su cu nu sm ct ng K hsu hcu hnu hc0 hn0 (by omega) hKb hK1 hK2) (cwV 1 hg (gV gw_634 gw_636 gs_20 gw_7 gw_637) rfl rfl rfl (by decide +kernel) ⟨Nat.le_of_ble_eq_true rfl, Nat.le_of_ble_eq_true rfl⟩) ⟨fun a U g mk q => by obtain ⟨q0, qP, qK⟩ := q; exact ⟨q0, qP, va_K.moved (u := U) (U := U.calling g mk a) (Vm.Alike.refl U.vm) qK⟩, va_recv hKc hPc (ci := 5) (q0 := 0) rfl rfl, fun U hU hW => ⟨rfl, by rw [hU]; exact hPc, va_K.moved hW.alike hKc⟩⟩ rfl rfl hl.1 rfl (lv_room (Nat.le_of_ble_eq_true rfl)) d_M_interrupt_41 (⟨Nat.le_of_ble_eq_true rfl, Nat.le_of_ble_eq_true rfl⟩)) ?_
        by_cases hup : (K = 0 ∧ 2 * ng < ct)
        · skip
          refine tpi (y := 1) (if_pos hup) ?_
          refine lv_if_eq (tgt := 59) hx hb d_M_interrupt_44 (by decide) (fun c_4 => ?_) (fun c_4 => ?_)
          · skip
            exact absurd c_4 (by decide)
          · skip
            refine lv_iload_n hx hb d_M_interrupt_47 rfl (lv_at hl 2 rfl) ?_
            refine lv_if_le (tgt := 55) hx hb d_M_interrupt_48 (by decide) (fun c_5 => ?_) (fun c_5 => ?_)
            · skip
              have hfl : (if (K = 0 ∧ 2 * ng < ct) then 0 else 1 : Nat) = 0 := if_pos hup
              refine lv_iconst (v := 0) hx hb d_M_interrupt_55 (by decide) ?_
              refine lv_goto (tgt := 68) hx hb d_M_interrupt_56 (by decide) ?_
              refine lv_istore_n (lv' := [(3, .int 0), (0, .ref y), (1, .int 1), (2, .int (-nI n))]) hx hb d_M_interrupt_68 rfl hl (by decide) rfl (fun ls hl => ?_)
              refine lv_iconst (v := 2) hx hb d_M_interrupt_69 (by decide) ?_
              refine lv_iload_n hx hb d_M_interrupt_70 rfl (lv_at hl 3 rfl) ?_
              refine lv_if_ge (tgt := 79) hx hb d_M_interrupt_71 (by decide) (fun c_6 => ?_) (fun c_6 => ?_)
              · skip
                exact absurd c_6 (by rw [leT, ngT (by omega), zT]; omega)
              · skip
                refine lv_iload_n hx hb d_M_interrupt_74 rfl (lv_at hl 3 rfl) ?_
                refine lv_ineg hx hb d_M_interrupt_75 ?_
                refine lv_goto (tgt := 80) hx hb d_M_interrupt_76 (by decide) ?_
                refine tpi (y := nI n) (Int32.neg_neg) ?_
                refine lv_imul hx hb d_M_interrupt_80 ?_
                refine tpi (y := nI (2 * n)) (mul2 n) ?_
                refine lv_iload_n hx hb d_M_interrupt_81 rfl (lv_at hl 2 rfl) ?_
                refine lv_isub hx hb d_M_interrupt_82 ?_
                refine tpi (y := nI (2 * n - 1)) (pk_sub (b := 1) (by omega)) ?_
                refine lv_iload_n hx hb d_M_interrupt_83 rfl (lv_at hl 0 rfl) ?_
                refine lv_if_eq (tgt := 91) hx hb d_M_interrupt_84 (by decide) (fun c_7 => ?_) (fun c_7 => ?_)
                · skip
                  refine lv_iconst (v := 0) hx hb d_M_interrupt_91 (by decide) ?_
                  refine lv_isub hx hb d_M_interrupt_92 ?_
                  refine tpi (y := nI M) ((pk_sub (b := 0) (by omega)).trans (congrArg nI (by rw [hM, hfl]))) ?_
                  refine lv_istore (lv' := [(4, .int (nI M)), (3, .int 0), (0, .ref y), (1, .int 1), (2, .int (-nI n))]) hx hb d_M_interrupt_93 hl (by decide) rfl (fun ls hl => ?_)
                  refine lv_aload_n hx hb d_M_interrupt_95 rfl (lv_at hl 2 rfl) ?_
                  refine lv_iconst (v := 0) hx hb d_M_interrupt_96 (by decide) ?_
                  refine tpi (y := nI 0) (rfl) ?_
                  refine va_put (D := D) (ci := 5) (v := .int (nI 0)) (ty := .int) (C := R_M) (T := T_M) (N := 20) hx hb hg in_M ty_M tok_M nm_M hown hK hP hD hS 0 rfl rfl 16 (by decide) (hg _ gw_540) (fun _ h9 => h9) rfl (by decide +kernel) (rfl) (rfl) (Nat.le_of_ble_eq_true rfl) d_M_interrupt_97 (fun H locs hP hD hS => ?_)
                  have hP : va_P D CLS [(y, .inr (5, [.int 0, .int (nI bi), .int (nI ne), .int (nI li), .int (nI sp), .int (nI q), .ref ms, .ref mw, .ref mu, .ref mc, .ref mn, .int en, .int (nI sz), .ref mr, .int (nI wa), .ref mq, .int (nI 0), .ref md, .int at0, .int lk])), (mw, .inl (cI, 2, .inl lw)), (mu, .inl (cI, 4, .inl su)), (mc, .inl (cI, 4, .inl cu)), (mn, .inl (cI, 4, .inl nu)), (mr, .inl (cB, 6000, .inl wr)), (md, .inl (cB, 400, .inl dr))] H := hP
                  have hD : va_D A [(y, .inr (5, [.int 0, .int (nI bi), .int (nI ne), .int (nI li), .int (nI sp), .int (nI q), .ref ms, .ref mw, .ref mu, .ref mc, .ref mn, .int en, .int (nI sz), .ref mr, .int (nI wa), .ref mq, .int (nI 0), .ref md, .int at0, .int lk])), (mw, .inl (cI, 2, .inl lw)), (mu, .inl (cI, 4, .inl su)), (mc, .inl (cI, 4, .inl cu)), (mn, .inl (cI, 4, .inl nu)), (mr, .inl (cB, 6000, .inl wr)), (md, .inl (cB, 400, .inl dr))] := hD
                  refine lv_aload_n hx hb d_M_interrupt_100 rfl (lv_at hl 2 rfl) ?_
                  refine lv_iload hx hb d_M_interrupt_101 (lv_at hl 0 rfl) ?_
                  refine lv_aload_n hx hb d_M_interrupt_103 rfl (lv_at hl 2 rfl) ?_
                  refine lv_iload_n hx hb d_M_interrupt_104 rfl (lv_at hl 3 rfl) ?_
                  have hPc := hP.sub (ws' := [(y, .inr (5, [.int 0, .int (nI bi), .int (nI ne), .int (nI li), .int (nI sp), .int (nI q), .ref ms, .ref mw, .ref mu, .ref mc, .ref mn, .int en, .int (nI sz), .ref mr, .int (nI wa), .ref mq, .int (nI 0), .ref md, .int at0, .int lk])), (mu, .inl (cI, 4, .inl su)), (mc, .inl (cI, 4, .inl cu)), (mn, .inl (cI, 4, .inl nu))]) [0, 2, 3, 4] rfl
                  have hKc := hK.sub (tys' := [(cI, .int)]) [1] rfl
                  refine pci (va_runV (As := [.int 1]) (rest := [.int (nI M), .ref y]) ⟨hx, hb, hml, hown, hg⟩ (c_M_kOf1 l D y ms mw mu mc mn mr mq md bi ne li sp q sz wa 0 en (nI 0) at0 lk cI su cu nu sm ct ng K hsu hcu hnu hc0 hn0 (by omega) hKb hK1 hK2) (cwV 1 hg (gV gw_638 gw_640 gs_21 gw_7 gw_641) rfl rfl rfl (by decide +kernel) ⟨Nat.le_of_ble_eq_true rfl, Nat.le_of_ble_eq_true rfl⟩) ⟨fun a U g mk q => by obtain ⟨q0, qP, qK⟩ := q; exact ⟨q0, qP, va_K.moved (u := U) (U := U.calling g mk a) (Vm.Alike.refl U.vm) qK⟩, va_recv hKc hPc (ci := 5) (q0 := 0) rfl rfl, fun U hU hW => ⟨rfl, by rw [hU]; exact hPc, va_K.moved hW.alike hKc⟩⟩ rfl rfl hl.1 rfl (lv_room (Nat.le_of_ble_eq_true rfl)) d_M_interrupt_105 (⟨Nat.le_of_ble_eq_true rfl, Nat.le_of_ble_eq_true rfl⟩)) ?_
                  refine lv_aload_n hx hb d_M_interrupt_108 rfl (lv_at hl 2 rfl) ?_
                  refine lv_iconst (v := 0) hx hb d_M_interrupt_109 (by decide) ?_
                  have hPc := hP.sub (ws' := [(y, .inr (5, [.int 0, .int (nI bi), .int (nI ne), .int (nI li), .int (nI sp), .int (nI q), .ref ms, .ref mw, .ref mu, .ref mc, .ref mn, .int en, .int (nI sz), .ref mr, .int (nI wa), .ref mq, .int (nI 0), .ref md, .int at0, .int lk])), (mw, .inl (cI, 2, .inl lw))]) [0, 1] rfl
                  have hKc := hK.sub (tys' := [(cI, .int)]) [1] rfl
                  refine pci (va_runV (As := [.int 0]) (rest := [.int (nI K), .int (nI M), .ref y]) ⟨hx, hb, hml, hown, hg⟩ (c_M_limitFor0 l D y ms mw mu mc mn mr mq md bi ne li sp q sz wa 0 en (nI 0) at0 lk cI lw rw hlw (by omega)) (cwV 1 hg (gV gw_642 gw_644 gs_22 gw_7 gw_645) rfl rfl rfl (by decide +kernel) ⟨Nat.le_of_ble_eq_true rfl, Nat.le_of_ble_eq_true rfl⟩) ⟨fun a U g mk q => by obtain ⟨q0, qP, qK⟩ := q; exact ⟨q0, qP, va_K.moved (u := U) (U := U.calling g mk a) (Vm.Alike.refl U.vm) qK⟩, va_recv hKc hPc (ci := 5) (q0 := 0) rfl rfl, fun U hU hW => ⟨rfl, by rw [hU]; exact hPc, va_K.moved hW.alike hKc⟩⟩ rfl rfl hl.1 rfl (lv_room (Nat.le_of_ble_eq_true rfl)) d_M_interrupt_110 (⟨Nat.le_of_ble_eq_true rfl, Nat.le_of_ble_eq_true rfl⟩)) ?_
                  have hPc := hP.sub (ws' := [(y, .inr (5, [.int 0, .int (nI bi), .int (nI ne), .int (nI li), .int (nI sp), .int (nI q), .ref ms, .ref mw, .ref mu, .ref mc, .ref mn, .int en, .int (nI sz), .ref mr, .int (nI wa), .ref mq, .int (nI 0), .ref md, .int at0, .int lk])), (md, .inl (cB, 400, .inl dr))]) [0, 6] rfl
                  have hDc := hD.sub (ws' := [(y, .inr (5, [.int 0, .int (nI bi), .int (nI ne), .int (nI li), .int (nI sp), .int (nI q), .ref ms, .ref mw, .ref mu, .ref mc, .ref mn, .int en, .int (nI sz), .ref mr, .int (nI wa), .ref mq, .int (nI 0), .ref md, .int at0, .int lk])), (md, .inl (cB, 400, .inl dr))]) [0, 6] (by decide) rfl
                  have hKc := hK.sub (tys' := [(cB, .byte)]) [0] rfl
                  refine mcv (va_runV (As := [.int (nI M), .int (nI K), .int (nI (li - 1 - rw))]) (rest := []) ⟨hx, hb, hml, hown, hg⟩ (c_M_layNumber l D y ms mw mu mc mn mr mq md bi ne li sp q sz wa 0 en (nI 0) at0 lk cB dr 0 M K (li - 1 - rw) (by omega) (by omega) (by omega) (by omega) (by omega) (by omega)) (cwV 3 hg (gV gw_594 gw_596 gs_13 gw_7 gw_597) rfl rfl rfl (by decide +kernel) ⟨Nat.le_of_ble_eq_true rfl, Nat.le_of_ble_eq_true rfl⟩) ⟨fun a U g mk q => by obtain ⟨q0, qP, qK, qD⟩ := q; exact ⟨q0, qP, va_K.moved (u := U) (U := U.calling g mk a) (Vm.Alike.refl U.vm) qK, qD⟩, va_recv hKc hPc (ci := 5) (q0 := 0) rfl rfl, fun U hU hW => ⟨rfl, by rw [hU]; exact hPc, va_K.moved hW.alike hKc, hDc.weaken (fun _ _ _ _ => trivial)⟩⟩ rfl rfl hl.1 rfl (lv_room (Nat.le_of_ble_eq_true rfl)) d_M_interrupt_113 (⟨Nat.le_of_ble_eq_true rfl, Nat.le_of_ble_eq_true rfl⟩)) hS hP hD [0, 6] rfl rfl rfl (fun H locs hP hD hS => ?_)
                  have hP : va_P D CLS [(y, .inr (5, [.int 0, .int (nI bi), .int (nI ne), .int (nI li), .int (nI sp), .int (nI q), .ref ms, .ref mw, .ref mu, .ref mc, .ref mn, .int en, .int (nI sz), .ref mr, .int (nI wa), .ref mq, .int (nI (0 + nlen q K M (li - 1 - rw - q - 1))), .ref md, .int at0, .int lk])), (mw, .inl (cI, 2, .inl lw)), (mu, .inl (cI, 4, .inl su)), (mc, .inl (cI, 4, .inl cu)), (mn, .inl (cI, 4, .inl nu)), (mr, .inl (cB, 6000, .inl wr)), (md, .inl (cB, 400, .inl (wnum dr q K M (li - 1 - rw - q - 1) 0)))] H := hP
                  have hD : va_D A [(y, .inr (5, [.int 0, .int (nI bi), .int (nI ne), .int (nI li), .int (nI sp), .int (nI q), .ref ms, .ref mw, .ref mu, .ref mc, .ref mn, .int en, .int (nI sz), .ref mr, .int (nI wa), .ref mq, .int (nI (0 + nlen q K M (li - 1 - rw - q - 1))), .ref md, .int at0, .int lk])), (mw, .inl (cI, 2, .inl lw)), (mu, .inl (cI, 4, .inl su)), (mc, .inl (cI, 4, .inl cu)), (mn, .inl (cI, 4, .inl nu)), (mr, .inl (cB, 6000, .inl wr)), (md, .inl (cB, 400, .inl (wnum dr q K M (li - 1 - rw - q - 1) 0)))] := hD
                  refine lv_aload_n hx hb d_M_interrupt_116 rfl (lv_at hl 2 rfl) ?_
                  refine lv_aload_n hx hb d_M_interrupt_117 rfl (lv_at hl 2 rfl) ?_
                  have hPc := hP.sub (ws' := [(y, .inr (5, [.int 0, .int (nI bi), .int (nI ne), .int (nI li), .int (nI sp), .int (nI q), .ref ms, .ref mw, .ref mu, .ref mc, .ref mn, .int en, .int (nI sz), .ref mr, .int (nI wa), .ref mq, .int (nI (0 + nlen q K M (li - 1 - rw - q - 1))), .ref md, .int at0, .int lk]))]) [0] rfl
                  have hKc := hK.sub (tys' := []) [] rfl
                  refine pci (va_runV (As := []) (rest := [.ref y]) ⟨hx, hb, hml, hown, hg⟩ (c_M_hasRoom l D y ms mw mu mc mn mr mq md bi ne li sp q sz wa 0 en (nI (0 + nlen q K M (li - 1 - rw - q - 1))) at0 lk (0 + nlen q K M (li - 1 - rw - q - 1)) hsz (by omega)) (cwV 0 hg (gV gw_606 gw_608 gs_16 gw_7 gw_609) rfl rfl rfl (by decide +kernel) ⟨Nat.le_of_ble_eq_true rfl, Nat.le_of_ble_eq_true rfl⟩) ⟨fun a U g mk q => by obtain ⟨q0, qP, qK⟩ := q; exact ⟨q0, qP, va_K.moved (u := U) (U := U.calling g mk a) (Vm.Alike.refl U.vm) qK⟩, va_recv hKc hPc (ci := 5) (q0 := 0) rfl rfl, fun U hU hW => ⟨rfl, by rw [hU]; exact hPc, va_K.moved hW.alike hKc⟩⟩ rfl rfl hl.1 rfl (lv_room (Nat.le_of_ble_eq_true rfl)) d_M_interrupt_118 (⟨Nat.le_of_ble_eq_true rfl, Nat.le_of_ble_eq_true rfl⟩)) ?_
                  refine tpi (y := 1) (if_pos (by omega)) ?_
                  refine lv_if_eq (tgt := 128) hx hb d_M_interrupt_121 (by decide) (fun c_8 => ?_) (fun c_8 => ?_)
                  · skip
                    exact absurd c_8 (by decide)
                  · skip
                    refine lv_iconst (v := 0) hx hb d_M_interrupt_124 (by decide) ?_
                    refine lv_goto (tgt := 129) hx hb d_M_interrupt_125 (by decide) ?_
                    refine va_put (D := D) (ci := 5) (v := .int 0) (ty := .int) (C := R_M) (T := T_M) (N := 20) hx hb hg in_M ty_M tok_M nm_M hown hK hP hD hS 0 rfl rfl 0 (by decide) (hg _ gw_524) (fun _ h9 => h9) rfl (by decide +kernel) (rfl) (rfl) (Nat.le_of_ble_eq_true rfl) d_M_interrupt_129 (fun H locs hP hD hS => ?_)
                    have hP : va_P D CLS [(y, .inr (5, [.int 0, .int (nI bi), .int (nI ne), .int (nI li), .int (nI sp), .int (nI q), .ref ms, .ref mw, .ref mu, .ref mc, .ref mn, .int en, .int (nI sz), .ref mr, .int (nI wa), .ref mq, .int (nI (0 + nlen q K M (li - 1 - rw - q - 1))), .ref md, .int at0, .int lk])), (mw, .inl (cI, 2, .inl lw)), (mu, .inl (cI, 4, .inl su)), (mc, .inl (cI, 4, .inl cu)), (mn, .inl (cI, 4, .inl nu)), (mr, .inl (cB, 6000, .inl wr)), (md, .inl (cB, 400, .inl (wnum dr q K M (li - 1 - rw - q - 1) 0)))] H := hP
                    have hD : va_D A [(y, .inr (5, [.int 0, .int (nI bi), .int (nI ne), .int (nI li), .int (nI sp), .int (nI q), .ref ms, .ref mw, .ref mu, .ref mc, .ref mn, .int en, .int (nI sz), .ref mr, .int (nI wa), .ref mq, .int (nI (0 + nlen q K M (li - 1 - rw - q - 1))), .ref md, .int at0, .int lk])), (mw, .inl (cI, 2, .inl lw)), (mu, .inl (cI, 4, .inl su)), (mc, .inl (cI, 4, .inl cu)), (mn, .inl (cI, 4, .inl nu)), (mr, .inl (cB, 6000, .inl wr)), (md, .inl (cB, 400, .inl (wnum dr q K M (li - 1 - rw - q - 1) 0)))] := hD
                    refine lv_aload_n hx hb d_M_interrupt_132 rfl (lv_at hl 2 rfl) ?_
                    refine va_get (D := D) (ci := 5) (v := .int 0) (C := R_M) (T := T_M) (N := 20) hx hb hg in_M hown hK hP 0 rfl rfl 0 (by decide) (hg _ gw_524) (fun _ h9 => h9) rfl d_M_interrupt_133 ?_
                    refine lv_if_le (tgt := 141) hx hb d_M_interrupt_136 (by decide) (fun c_9 => ?_) (fun c_9 => ?_)
                    · skip
                      refine lv_aload_n hx hb d_M_interrupt_141 rfl (lv_at hl 2 rfl) ?_
                      refine lv_iload_n hx hb d_M_interrupt_142 rfl (lv_at hl 3 rfl) ?_
                      refine lv_iload_n hx hb d_M_interrupt_143 rfl (lv_at hl 3 rfl) ?_
                      refine lv_iload hx hb d_M_interrupt_144 (lv_at hl 0 rfl) ?_
                      refine lv_iload_n hx hb d_M_interrupt_146 rfl (lv_at hl 4 rfl) ?_
                      have hPc := hP.sub (ws' := [(y, .inr (5, [.int 0, .int (nI bi), .int (nI ne), .int (nI li), .int (nI sp), .int (nI q), .ref ms, .ref mw, .ref mu, .ref mc, .ref mn, .int en, .int (nI sz), .ref mr, .int (nI wa), .ref mq, .int (nI (0 + nlen q K M (li - 1 - rw - q - 1))), .ref md, .int at0, .int lk])), (mu, .inl (cI, 4, .inl su)), (mc, .inl (cI, 4, .inl cu)), (mn, .inl (cI, 4, .inl nu))]) [0, 2, 3, 4] rfl
                      have hDc := hD.sub (ws' := [(y, .inr (5, [.int 0, .int (nI bi), .int (nI ne), .int (nI li), .int (nI sp), .int (nI q), .ref ms, .ref mw, .ref mu, .ref mc, .ref mn, .int en, .int (nI sz), .ref mr, .int (nI wa), .ref mq, .int (nI (0 + nlen q K M (li - 1 - rw - q - 1))), .ref md, .int at0, .int lk])), (mu, .inl (cI, 4, .inl su)), (mc, .inl (cI, 4, .inl cu)), (mn, .inl (cI, 4, .inl nu))]) [0, 2, 3, 4] (by decide) rfl
                      have hKc := hK.sub (tys' := [(cI, .int)]) [1] rfl
                      refine mcv (va_runV (As := [.int 1, .int 1, .int (nI M), .int (-nI n)]) (rest := []) ⟨hx, hb, hml, hown, hg⟩ (c_M_learn1N l D y ms mw mu mc mn mr mq md bi ne li sp q sz wa 0 en (nI (0 + nlen q K M (li - 1 - rw - q - 1))) at0 lk cI su cu nu sm ct ng n M hsu hcu hnu hc0 hn0 hs0 (by omega) (by omega) hn1) (cwV 4 hg (gV gw_646 gw_648 gs_23 gw_7 gw_649) rfl rfl rfl (by decide +kernel) ⟨Nat.le_of_ble_eq_true rfl, Nat.le_of_ble_eq_true rfl⟩) ⟨fun a U g mk q => by obtain ⟨q0, qP, qK, qD⟩ := q; exact ⟨q0, qP, va_K.moved (u := U) (U := U.calling g mk a) (Vm.Alike.refl U.vm) qK, qD⟩, va_recv hKc hPc (ci := 5) (q0 := 0) rfl rfl, fun U hU hW => ⟨rfl, by rw [hU]; exact hPc, va_K.moved hW.alike hKc, hDc.weaken (fun _ _ _ _ => trivial)⟩⟩ rfl rfl hl.1 rfl (lv_room (Nat.le_of_ble_eq_true rfl)) d_M_interrupt_147 (⟨Nat.le_of_ble_eq_true rfl, Nat.le_of_ble_eq_true rfl⟩)) hS hP hD [0, 2, 3, 4] rfl rfl rfl (fun H locs hP hD hS => ?_)
                      have hP : va_P D CLS [(y, .inr (5, [.int 0, .int (nI bi), .int (nI ne), .int (nI li), .int (nI sp), .int (nI q), .ref ms, .ref mw, .ref mu, .ref mc, .ref mn, .int en, .int (nI sz), .ref mr, .int (nI wa), .ref mq, .int (nI (0 + nlen q K M (li - 1 - rw - q - 1))), .ref md, .int at0, .int lk])), (mw, .inl (cI, 2, .inl lw)), (mu, .inl (cI, 4, .inl (upd su 1 (nI (hvd ct (sm + (M + 1 - 1) / 2)))))), (mc, .inl (cI, 4, .inl (upd cu 1 (nI (hvd ct ct + 1))))), (mn, .inl (cI, 4, .inl (upd nu 1 (nI (hvd ct (ng + 1)))))), (mr, .inl (cB, 6000, .inl wr)), (md, .inl (cB, 400, .inl (wnum dr q K M (li - 1 - rw - q - 1) 0)))] H := hP
                      have hD : va_D A [(y, .inr (5, [.int 0, .int (nI bi), .int (nI ne), .int (nI li), .int (nI sp), .int (nI q), .ref ms, .ref mw, .ref mu, .ref mc, .ref mn, .int en, .int (nI sz), .ref mr, .int (nI wa), .ref mq, .int (nI (0 + nlen q K M (li - 1 - rw - q - 1))), .ref md, .int at0, .int lk])), (mw, .inl (cI, 2, .inl lw)), (mu, .inl (cI, 4, .inl (upd su 1 (nI (hvd ct (sm + (M + 1 - 1) / 2)))))), (mc, .inl (cI, 4, .inl (upd cu 1 (nI (hvd ct ct + 1))))), (mn, .inl (cI, 4, .inl (upd nu 1 (nI (hvd ct (ng + 1)))))), (mr, .inl (cB, 6000, .inl wr)), (md, .inl (cB, 400, .inl (wnum dr q K M (li - 1 - rw - q - 1) 0)))] := hD
                      refine lv_aload_n hx hb d_M_interrupt_150 rfl (lv_at hl 2 rfl) ?_
                      have hPc := hP.sub (ws' := [(y, .inr (5, [.int 0, .int (nI bi), .int (nI ne), .int (nI li), .int (nI sp), .int (nI q), .ref ms, .ref mw, .ref mu, .ref mc, .ref mn, .int en, .int (nI sz), .ref mr, .int (nI wa), .ref mq, .int (nI (0 + nlen q K M (li - 1 - rw - q - 1))), .ref md, .int at0, .int lk])), (mr, .inl (cB, 6000, .inl wr)), (md, .inl (cB, 400, .inl (wnum dr q K M (li - 1 - rw - q - 1) 0)))]) [0, 5, 6] rfl
                      have hDc := hD.sub (ws' := [(y, .inr (5, [.int 0, .int (nI bi), .int (nI ne), .int (nI li), .int (nI sp), .int (nI q), .ref ms, .ref mw, .ref mu, .ref mc, .ref mn, .int en, .int (nI sz), .ref mr, .int (nI wa), .ref mq, .int (nI (0 + nlen q K M (li - 1 - rw - q - 1))), .ref md, .int at0, .int lk])), (mr, .inl (cB, 6000, .inl wr)), (md, .inl (cB, 400, .inl (wnum dr q K M (li - 1 - rw - q - 1) 0)))]) [0, 5, 6] (by decide) rfl
                      have hKc := hK.sub (tys' := [(cB, .byte)]) [0] rfl
                      refine mci (va_runV (As := []) (rest := []) ⟨hx, hb, hml, hown, hg⟩ (c_M_write l D y ms mw mu mc mn mr mq md bi ne li sp q sz wa 0 en (nI (0 + nlen q K M (li - 1 - rw - q - 1))) at0 lk cB wr (wnum dr q K M (li - 1 - rw - q - 1) 0) (0 + nlen q K M (li - 1 - rw - q - 1)) (by omega) (by omega) (fun j hj => wnum01 j (Nat.zero_le _) hj)) (cwV 0 hg (gV gw_610 gw_612 gs_17 gw_7 gw_613) rfl rfl rfl (by decide +kernel) ⟨Nat.le_of_ble_eq_true rfl, Nat.le_of_ble_eq_true rfl⟩) ⟨fun a U g mk q => by obtain ⟨q0, qP, qK, qD⟩ := q; exact ⟨q0, qP, va_K.moved (u := U) (U := U.calling g mk a) (Vm.Alike.refl U.vm) qK, qD⟩, va_recv hKc hPc (ci := 5) (q0 := 0) rfl rfl, fun U hU hW => ⟨rfl, by rw [hU]; exact hPc, va_K.moved hW.alike hKc, hDc.weaken (fun _ _ _ _ => trivial)⟩⟩ rfl rfl hl.1 rfl (lv_room (Nat.le_of_ble_eq_true rfl)) d_M_interrupt_151 (⟨Nat.le_of_ble_eq_true rfl, Nat.le_of_ble_eq_true rfl⟩)) hS hP hD [0, 5, 6] rfl rfl rfl (fun H locs hP hD hS => ?_)
                      have hP : va_P D CLS [(y, .inr (5, [.int 0, .int (nI bi), .int (nI ne), .int (nI li), .int (nI sp), .int (nI q), .ref ms, .ref mw, .ref mu, .ref mc, .ref mn, .int en, .int (nI (sz + (0 + nlen q K M (li - 1 - rw - q - 1)))), .ref mr, .int (nI wa), .ref mq, .int (nI (0 + nlen q K M (li - 1 - rw - q - 1))), .ref md, .int at0, .int lk])), (mw, .inl (cI, 2, .inl lw)), (mu, .inl (cI, 4, .inl (upd su 1 (nI (hvd ct (sm + (M + 1 - 1) / 2)))))), (mc, .inl (cI, 4, .inl (upd cu 1 (nI (hvd ct ct + 1))))), (mn, .inl (cI, 4, .inl (upd nu 1 (nI (hvd ct (ng + 1)))))), (mr, .inl (cB, 6000, .inl (cpw wr sz (wnum dr q K M (li - 1 - rw - q - 1) 0) (0 + nlen q K M (li - 1 - rw - q - 1))))), (md, .inl (cB, 400, .inl (wnum dr q K M (li - 1 - rw - q - 1) 0)))] H := hP
                      have hD : va_D A [(y, .inr (5, [.int 0, .int (nI bi), .int (nI ne), .int (nI li), .int (nI sp), .int (nI q), .ref ms, .ref mw, .ref mu, .ref mc, .ref mn, .int en, .int (nI (sz + (0 + nlen q K M (li - 1 - rw - q - 1)))), .ref mr, .int (nI wa), .ref mq, .int (nI (0 + nlen q K M (li - 1 - rw - q - 1))), .ref md, .int at0, .int lk])), (mw, .inl (cI, 2, .inl lw)), (mu, .inl (cI, 4, .inl (upd su 1 (nI (hvd ct (sm + (M + 1 - 1) / 2)))))), (mc, .inl (cI, 4, .inl (upd cu 1 (nI (hvd ct ct + 1))))), (mn, .inl (cI, 4, .inl (upd nu 1 (nI (hvd ct (ng + 1)))))), (mr, .inl (cB, 6000, .inl (cpw wr sz (wnum dr q K M (li - 1 - rw - q - 1) 0) (0 + nlen q K M (li - 1 - rw - q - 1))))), (md, .inl (cB, 400, .inl (wnum dr q K M (li - 1 - rw - q - 1) 0)))] := hD
                      exact W.iret (v := nI (0 + nlen q K M (li - 1 - rw - q - 1))) hx hb hr (fun t ht hW => ⟨rfl, by rw [ht]; exact hP, (hAe ▸ hS).F ht⟩) (hAe ▸ hS).2.2 d_M_interrupt_154
                    · skip
                      exact absurd (by decide) c_9
                · skip
                  exact absurd rfl c_7
            · skip
              exact absurd (by rw [leT, ngT (by omega), zT]; omega) c_5
        · skip
          refine tpi (y := 0) (if_neg hup) ?_
          refine lv_if_eq (tgt := 59) hx hb d_M_interrupt_44 (by decide) (fun c_10 => ?_) (fun c_10 => ?_)
          · skip
            refine lv_iload_n hx hb d_M_interrupt_59 rfl (lv_at hl 2 rfl) ?_
            refine lv_if_ge (tgt := 67) hx hb d_M_interrupt_60 (by decide) (fun c_11 => ?_) (fun c_11 => ?_)
            · skip
              exact absurd c_11 (by rw [leT, ngT (by omega), zT]; omega)
            · skip
              have hfl : (if (K = 0 ∧ 2 * ng < ct) then 0 else 1 : Nat) = 1 := if_neg hup
              refine lv_iconst (v := 1) hx hb d_M_interrupt_63 (by decide) ?_
              refine lv_goto (tgt := 68) hx hb d_M_interrupt_64 (by decide) ?_
              refine lv_istore_n (lv' := [(3, .int 1), (0, .ref y), (1, .int 1), (2, .int (-nI n))]) hx hb d_M_interrupt_68 rfl hl (by decide) rfl (fun ls hl => ?_)
              refine lv_iconst (v := 2) hx hb d_M_interrupt_69 (by decide) ?_
              refine lv_iload_n hx hb d_M_interrupt_70 rfl (lv_at hl 3 rfl) ?_
              refine lv_if_ge (tgt := 79) hx hb d_M_interrupt_71 (by decide) (fun c_12 => ?_) (fun c_12 => ?_)
              · skip
                exact absurd c_12 (by rw [leT, ngT (by omega), zT]; omega)
              · skip
                refine lv_iload_n hx hb d_M_interrupt_74 rfl (lv_at hl 3 rfl) ?_
                refine lv_ineg hx hb d_M_interrupt_75 ?_
                refine lv_goto (tgt := 80) hx hb d_M_interrupt_76 (by decide) ?_
                refine tpi (y := nI n) (Int32.neg_neg) ?_
                refine lv_imul hx hb d_M_interrupt_80 ?_
                refine tpi (y := nI (2 * n)) (mul2 n) ?_
                refine lv_iload_n hx hb d_M_interrupt_81 rfl (lv_at hl 2 rfl) ?_
                refine lv_isub hx hb d_M_interrupt_82 ?_
                refine tpi (y := nI (2 * n - 1)) (pk_sub (b := 1) (by omega)) ?_
                refine lv_iload_n hx hb d_M_interrupt_83 rfl (lv_at hl 0 rfl) ?_
                refine lv_if_eq (tgt := 91) hx hb d_M_interrupt_84 (by decide) (fun c_13 => ?_) (fun c_13 => ?_)
                · skip
                  exact absurd c_13 (by decide)
                · skip
                  refine lv_iconst (v := 1) hx hb d_M_interrupt_87 (by decide) ?_
                  refine lv_goto (tgt := 92) hx hb d_M_interrupt_88 (by decide) ?_
                  refine lv_isub hx hb d_M_interrupt_92 ?_
                  refine tpi (y := nI M) ((pk_sub (b := 1) (by omega)).trans (congrArg nI (by rw [hM, hfl]))) ?_
                  refine lv_istore (lv' := [(4, .int (nI M)), (3, .int 1), (0, .ref y), (1, .int 1), (2, .int (-nI n))]) hx hb d_M_interrupt_93 hl (by decide) rfl (fun ls hl => ?_)
                  refine lv_aload_n hx hb d_M_interrupt_95 rfl (lv_at hl 2 rfl) ?_
                  refine lv_iconst (v := 0) hx hb d_M_interrupt_96 (by decide) ?_
                  refine tpi (y := nI 0) (rfl) ?_
                  refine va_put (D := D) (ci := 5) (v := .int (nI 0)) (ty := .int) (C := R_M) (T := T_M) (N := 20) hx hb hg in_M ty_M tok_M nm_M hown hK hP hD hS 0 rfl rfl 16 (by decide) (hg _ gw_540) (fun _ h9 => h9) rfl (by decide +kernel) (rfl) (rfl) (Nat.le_of_ble_eq_true rfl) d_M_interrupt_97 (fun H locs hP hD hS => ?_)
                  have hP : va_P D CLS [(y, .inr (5, [.int 0, .int (nI bi), .int (nI ne), .int (nI li), .int (nI sp), .int (nI q), .ref ms, .ref mw, .ref mu, .ref mc, .ref mn, .int en, .int (nI sz), .ref mr, .int (nI wa), .ref mq, .int (nI 0), .ref md, .int at0, .int lk])), (mw, .inl (cI, 2, .inl lw)), (mu, .inl (cI, 4, .inl su)), (mc, .inl (cI, 4, .inl cu)), (mn, .inl (cI, 4, .inl nu)), (mr, .inl (cB, 6000, .inl wr)), (md, .inl (cB, 400, .inl dr))] H := hP
                  have hD : va_D A [(y, .inr (5, [.int 0, .int (nI bi), .int (nI ne), .int (nI li), .int (nI sp), .int (nI q), .ref ms, .ref mw, .ref mu, .ref mc, .ref mn, .int en, .int (nI sz), .ref mr, .int (nI wa), .ref mq, .int (nI 0), .ref md, .int at0, .int lk])), (mw, .inl (cI, 2, .inl lw)), (mu, .inl (cI, 4, .inl su)), (mc, .inl (cI, 4, .inl cu)), (mn, .inl (cI, 4, .inl nu)), (mr, .inl (cB, 6000, .inl wr)), (md, .inl (cB, 400, .inl dr))] := hD
                  refine lv_aload_n hx hb d_M_interrupt_100 rfl (lv_at hl 2 rfl) ?_
                  refine lv_iload hx hb d_M_interrupt_101 (lv_at hl 0 rfl) ?_
                  refine lv_aload_n hx hb d_M_interrupt_103 rfl (lv_at hl 2 rfl) ?_
                  refine lv_iload_n hx hb d_M_interrupt_104 rfl (lv_at hl 3 rfl) ?_
                  have hPc := hP.sub (ws' := [(y, .inr (5, [.int 0, .int (nI bi), .int (nI ne), .int (nI li), .int (nI sp), .int (nI q), .ref ms, .ref mw, .ref mu, .ref mc, .ref mn, .int en, .int (nI sz), .ref mr, .int (nI wa), .ref mq, .int (nI 0), .ref md, .int at0, .int lk])), (mu, .inl (cI, 4, .inl su)), (mc, .inl (cI, 4, .inl cu)), (mn, .inl (cI, 4, .inl nu))]) [0, 2, 3, 4] rfl
                  have hKc := hK.sub (tys' := [(cI, .int)]) [1] rfl
                  refine pci (va_runV (As := [.int 1]) (rest := [.int (nI M), .ref y]) ⟨hx, hb, hml, hown, hg⟩ (c_M_kOf1 l D y ms mw mu mc mn mr mq md bi ne li sp q sz wa 0 en (nI 0) at0 lk cI su cu nu sm ct ng K hsu hcu hnu hc0 hn0 (by omega) hKb hK1 hK2) (cwV 1 hg (gV gw_638 gw_640 gs_21 gw_7 gw_641) rfl rfl rfl (by decide +kernel) ⟨Nat.le_of_ble_eq_true rfl, Nat.le_of_ble_eq_true rfl⟩) ⟨fun a U g mk q => by obtain ⟨q0, qP, qK⟩ := q; exact ⟨q0, qP, va_K.moved (u := U) (U := U.calling g mk a) (Vm.Alike.refl U.vm) qK⟩, va_recv hKc hPc (ci := 5) (q0 := 0) rfl rfl, fun U hU hW => ⟨rfl, by rw [hU]; exact hPc, va_K.moved hW.alike hKc⟩⟩ rfl rfl hl.1 rfl (lv_room (Nat.le_of_ble_eq_true rfl)) d_M_interrupt_105 (⟨Nat.le_of_ble_eq_true rfl, Nat.le_of_ble_eq_true rfl⟩)) ?_
                  refine lv_aload_n hx hb d_M_interrupt_108 rfl (lv_at hl 2 rfl) ?_
                  refine lv_iconst (v := 0) hx hb d_M_interrupt_109 (by decide) ?_
                  have hPc := hP.sub (ws' := [(y, .inr (5, [.int 0, .int (nI bi), .int (nI ne), .int (nI li), .int (nI sp), .int (nI q), .ref ms, .ref mw, .ref mu, .ref mc, .ref mn, .int en, .int (nI sz), .ref mr, .int (nI wa), .ref mq, .int (nI 0), .ref md, .int at0, .int lk])), (mw, .inl (cI, 2, .inl lw))]) [0, 1] rfl
                  have hKc := hK.sub (tys' := [(cI, .int)]) [1] rfl
                  refine pci (va_runV (As := [.int 0]) (rest := [.int (nI K), .int (nI M), .ref y]) ⟨hx, hb, hml, hown, hg⟩ (c_M_limitFor0 l D y ms mw mu mc mn mr mq md bi ne li sp q sz wa 0 en (nI 0) at0 lk cI lw rw hlw (by omega)) (cwV 1 hg (gV gw_642 gw_644 gs_22 gw_7 gw_645) rfl rfl rfl (by decide +kernel) ⟨Nat.le_of_ble_eq_true rfl, Nat.le_of_ble_eq_true rfl⟩) ⟨fun a U g mk q => by obtain ⟨q0, qP, qK⟩ := q; exact ⟨q0, qP, va_K.moved (u := U) (U := U.calling g mk a) (Vm.Alike.refl U.vm) qK⟩, va_recv hKc hPc (ci := 5) (q0 := 0) rfl rfl, fun U hU hW => ⟨rfl, by rw [hU]; exact hPc, va_K.moved hW.alike hKc⟩⟩ rfl rfl hl.1 rfl (lv_room (Nat.le_of_ble_eq_true rfl)) d_M_interrupt_110 (⟨Nat.le_of_ble_eq_true rfl, Nat.le_of_ble_eq_true rfl⟩)) ?_
                  have hPc := hP.sub (ws' := [(y, .inr (5, [.int 0, .int (nI bi), .int (nI ne), .int (nI li), .int (nI sp), .int (nI q), .ref ms, .ref mw, .ref mu, .ref mc, .ref mn, .int en, .int (nI sz), .ref mr, .int (nI wa), .ref mq, .int (nI 0), .ref md, .int at0, .int lk])), (md, .inl (cB, 400, .inl dr))]) [0, 6] rfl
                  have hDc := hD.sub (ws' := [(y, .inr (5, [.int 0, .int (nI bi), .int (nI ne), .int (nI li), .int (nI sp), .int (nI q), .ref ms, .ref mw, .ref mu, .ref mc, .ref mn, .int en, .int (nI sz), .ref mr, .int (nI wa), .ref mq, .int (nI 0), .ref md, .int at0, .int lk])), (md, .inl (cB, 400, .inl dr))]) [0, 6] (by decide) rfl
                  have hKc := hK.sub (tys' := [(cB, .byte)]) [0] rfl
                  refine mcv (va_runV (As := [.int (nI M), .int (nI K), .int (nI (li - 1 - rw))]) (rest := []) ⟨hx, hb, hml, hown, hg⟩ (c_M_layNumber l D y ms mw mu mc mn mr mq md bi ne li sp q sz wa 0 en (nI 0) at0 lk cB dr 0 M K (li - 1 - rw) (by omega) (by omega) (by omega) (by omega) (by omega) (by omega)) (cwV 3 hg (gV gw_594 gw_596 gs_13 gw_7 gw_597) rfl rfl rfl (by decide +kernel) ⟨Nat.le_of_ble_eq_true rfl, Nat.le_of_ble_eq_true rfl⟩) ⟨fun a U g mk q => by obtain ⟨q0, qP, qK, qD⟩ := q; exact ⟨q0, qP, va_K.moved (u := U) (U := U.calling g mk a) (Vm.Alike.refl U.vm) qK, qD⟩, va_recv hKc hPc (ci := 5) (q0 := 0) rfl rfl, fun U hU hW => ⟨rfl, by rw [hU]; exact hPc, va_K.moved hW.alike hKc, hDc.weaken (fun _ _ _ _ => trivial)⟩⟩ rfl rfl hl.1 rfl (lv_room (Nat.le_of_ble_eq_true rfl)) d_M_interrupt_113 (⟨Nat.le_of_ble_eq_true rfl, Nat.le_of_ble_eq_true rfl⟩)) hS hP hD [0, 6] rfl rfl rfl (fun H locs hP hD hS => ?_)
                  have hP : va_P D CLS [(y, .inr (5, [.int 0, .int (nI bi), .int (nI ne), .int (nI li), .int (nI sp), .int (nI q), .ref ms, .ref mw, .ref mu, .ref mc, .ref mn, .int en, .int (nI sz), .ref mr, .int (nI wa), .ref mq, .int (nI (0 + nlen q K M (li - 1 - rw - q - 1))), .ref md, .int at0, .int lk])), (mw, .inl (cI, 2, .inl lw)), (mu, .inl (cI, 4, .inl su)), (mc, .inl (cI, 4, .inl cu)), (mn, .inl (cI, 4, .inl nu)), (mr, .inl (cB, 6000, .inl wr)), (md, .inl (cB, 400, .inl (wnum dr q K M (li - 1 - rw - q - 1) 0)))] H := hP
                  have hD : va_D A [(y, .inr (5, [.int 0, .int (nI bi), .int (nI ne), .int (nI li), .int (nI sp), .int (nI q), .ref ms, .ref mw, .ref mu, .ref mc, .ref mn, .int en, .int (nI sz), .ref mr, .int (nI wa), .ref mq, .int (nI (0 + nlen q K M (li - 1 - rw - q - 1))), .ref md, .int at0, .int lk])), (mw, .inl (cI, 2, .inl lw)), (mu, .inl (cI, 4, .inl su)), (mc, .inl (cI, 4, .inl cu)), (mn, .inl (cI, 4, .inl nu)), (mr, .inl (cB, 6000, .inl wr)), (md, .inl (cB, 400, .inl (wnum dr q K M (li - 1 - rw - q - 1) 0)))] := hD
                  refine lv_aload_n hx hb d_M_interrupt_116 rfl (lv_at hl 2 rfl) ?_
                  refine lv_aload_n hx hb d_M_interrupt_117 rfl (lv_at hl 2 rfl) ?_
                  have hPc := hP.sub (ws' := [(y, .inr (5, [.int 0, .int (nI bi), .int (nI ne), .int (nI li), .int (nI sp), .int (nI q), .ref ms, .ref mw, .ref mu, .ref mc, .ref mn, .int en, .int (nI sz), .ref mr, .int (nI wa), .ref mq, .int (nI (0 + nlen q K M (li - 1 - rw - q - 1))), .ref md, .int at0, .int lk]))]) [0] rfl
                  have hKc := hK.sub (tys' := []) [] rfl
                  refine pci (va_runV (As := []) (rest := [.ref y]) ⟨hx, hb, hml, hown, hg⟩ (c_M_hasRoom l D y ms mw mu mc mn mr mq md bi ne li sp q sz wa 0 en (nI (0 + nlen q K M (li - 1 - rw - q - 1))) at0 lk (0 + nlen q K M (li - 1 - rw - q - 1)) hsz (by omega)) (cwV 0 hg (gV gw_606 gw_608 gs_16 gw_7 gw_609) rfl rfl rfl (by decide +kernel) ⟨Nat.le_of_ble_eq_true rfl, Nat.le_of_ble_eq_true rfl⟩) ⟨fun a U g mk q => by obtain ⟨q0, qP, qK⟩ := q; exact ⟨q0, qP, va_K.moved (u := U) (U := U.calling g mk a) (Vm.Alike.refl U.vm) qK⟩, va_recv hKc hPc (ci := 5) (q0 := 0) rfl rfl, fun U hU hW => ⟨rfl, by rw [hU]; exact hPc, va_K.moved hW.alike hKc⟩⟩ rfl rfl hl.1 rfl (lv_room (Nat.le_of_ble_eq_true rfl)) d_M_interrupt_118 (⟨Nat.le_of_ble_eq_true rfl, Nat.le_of_ble_eq_true rfl⟩)) ?_
                  refine tpi (y := 1) (if_pos (by omega)) ?_
                  refine lv_if_eq (tgt := 128) hx hb d_M_interrupt_121 (by decide) (fun c_14 => ?_) (fun c_14 => ?_)
                  · skip
                    exact absurd c_14 (by decide)
                  · skip
                    refine lv_iconst (v := 0) hx hb d_M_interrupt_124 (by decide) ?_
                    refine lv_goto (tgt := 129) hx hb d_M_interrupt_125 (by decide) ?_
                    refine va_put (D := D) (ci := 5) (v := .int 0) (ty := .int) (C := R_M) (T := T_M) (N := 20) hx hb hg in_M ty_M tok_M nm_M hown hK hP hD hS 0 rfl rfl 0 (by decide) (hg _ gw_524) (fun _ h9 => h9) rfl (by decide +kernel) (rfl) (rfl) (Nat.le_of_ble_eq_true rfl) d_M_interrupt_129 (fun H locs hP hD hS => ?_)
                    have hP : va_P D CLS [(y, .inr (5, [.int 0, .int (nI bi), .int (nI ne), .int (nI li), .int (nI sp), .int (nI q), .ref ms, .ref mw, .ref mu, .ref mc, .ref mn, .int en, .int (nI sz), .ref mr, .int (nI wa), .ref mq, .int (nI (0 + nlen q K M (li - 1 - rw - q - 1))), .ref md, .int at0, .int lk])), (mw, .inl (cI, 2, .inl lw)), (mu, .inl (cI, 4, .inl su)), (mc, .inl (cI, 4, .inl cu)), (mn, .inl (cI, 4, .inl nu)), (mr, .inl (cB, 6000, .inl wr)), (md, .inl (cB, 400, .inl (wnum dr q K M (li - 1 - rw - q - 1) 0)))] H := hP
                    have hD : va_D A [(y, .inr (5, [.int 0, .int (nI bi), .int (nI ne), .int (nI li), .int (nI sp), .int (nI q), .ref ms, .ref mw, .ref mu, .ref mc, .ref mn, .int en, .int (nI sz), .ref mr, .int (nI wa), .ref mq, .int (nI (0 + nlen q K M (li - 1 - rw - q - 1))), .ref md, .int at0, .int lk])), (mw, .inl (cI, 2, .inl lw)), (mu, .inl (cI, 4, .inl su)), (mc, .inl (cI, 4, .inl cu)), (mn, .inl (cI, 4, .inl nu)), (mr, .inl (cB, 6000, .inl wr)), (md, .inl (cB, 400, .inl (wnum dr q K M (li - 1 - rw - q - 1) 0)))] := hD
                    refine lv_aload_n hx hb d_M_interrupt_132 rfl (lv_at hl 2 rfl) ?_
                    refine va_get (D := D) (ci := 5) (v := .int 0) (C := R_M) (T := T_M) (N := 20) hx hb hg in_M hown hK hP 0 rfl rfl 0 (by decide) (hg _ gw_524) (fun _ h9 => h9) rfl d_M_interrupt_133 ?_
                    refine lv_if_le (tgt := 141) hx hb d_M_interrupt_136 (by decide) (fun c_15 => ?_) (fun c_15 => ?_)
                    · skip
                      refine lv_aload_n hx hb d_M_interrupt_141 rfl (lv_at hl 2 rfl) ?_
                      refine lv_iload_n hx hb d_M_interrupt_142 rfl (lv_at hl 3 rfl) ?_
                      refine lv_iload_n hx hb d_M_interrupt_143 rfl (lv_at hl 3 rfl) ?_
                      refine lv_iload hx hb d_M_interrupt_144 (lv_at hl 0 rfl) ?_
                      refine lv_iload_n hx hb d_M_interrupt_146 rfl (lv_at hl 4 rfl) ?_
                      have hPc := hP.sub (ws' := [(y, .inr (5, [.int 0, .int (nI bi), .int (nI ne), .int (nI li), .int (nI sp), .int (nI q), .ref ms, .ref mw, .ref mu, .ref mc, .ref mn, .int en, .int (nI sz), .ref mr, .int (nI wa), .ref mq, .int (nI (0 + nlen q K M (li - 1 - rw - q - 1))), .ref md, .int at0, .int lk])), (mu, .inl (cI, 4, .inl su)), (mc, .inl (cI, 4, .inl cu)), (mn, .inl (cI, 4, .inl nu))]) [0, 2, 3, 4] rfl
                      have hDc := hD.sub (ws' := [(y, .inr (5, [.int 0, .int (nI bi), .int (nI ne), .int (nI li), .int (nI sp), .int (nI q), .ref ms, .ref mw, .ref mu, .ref mc, .ref mn, .int en, .int (nI sz), .ref mr, .int (nI wa), .ref mq, .int (nI (0 + nlen q K M (li - 1 - rw - q - 1))), .ref md, .int at0, .int lk])), (mu, .inl (cI, 4, .inl su)), (mc, .inl (cI, 4, .inl cu)), (mn, .inl (cI, 4, .inl nu))]) [0, 2, 3, 4] (by decide) rfl
                      have hKc := hK.sub (tys' := [(cI, .int)]) [1] rfl
                      refine mcv (va_runV (As := [.int 1, .int 1, .int (nI M), .int (-nI n)]) (rest := []) ⟨hx, hb, hml, hown, hg⟩ (c_M_learn1N l D y ms mw mu mc mn mr mq md bi ne li sp q sz wa 0 en (nI (0 + nlen q K M (li - 1 - rw - q - 1))) at0 lk cI su cu nu sm ct ng n M hsu hcu hnu hc0 hn0 hs0 (by omega) (by omega) hn1) (cwV 4 hg (gV gw_646 gw_648 gs_23 gw_7 gw_649) rfl rfl rfl (by decide +kernel) ⟨Nat.le_of_ble_eq_true rfl, Nat.le_of_ble_eq_true rfl⟩) ⟨fun a U g mk q => by obtain ⟨q0, qP, qK, qD⟩ := q; exact ⟨q0, qP, va_K.moved (u := U) (U := U.calling g mk a) (Vm.Alike.refl U.vm) qK, qD⟩, va_recv hKc hPc (ci := 5) (q0 := 0) rfl rfl, fun U hU hW => ⟨rfl, by rw [hU]; exact hPc, va_K.moved hW.alike hKc, hDc.weaken (fun _ _ _ _ => trivial)⟩⟩ rfl rfl hl.1 rfl (lv_room (Nat.le_of_ble_eq_true rfl)) d_M_interrupt_147 (⟨Nat.le_of_ble_eq_true rfl, Nat.le_of_ble_eq_true rfl⟩)) hS hP hD [0, 2, 3, 4] rfl rfl rfl (fun H locs hP hD hS => ?_)
                      have hP : va_P D CLS [(y, .inr (5, [.int 0, .int (nI bi), .int (nI ne), .int (nI li), .int (nI sp), .int (nI q), .ref ms, .ref mw, .ref mu, .ref mc, .ref mn, .int en, .int (nI sz), .ref mr, .int (nI wa), .ref mq, .int (nI (0 + nlen q K M (li - 1 - rw - q - 1))), .ref md, .int at0, .int lk])), (mw, .inl (cI, 2, .inl lw)), (mu, .inl (cI, 4, .inl (upd su 1 (nI (hvd ct (sm + (M + 1 - 1) / 2)))))), (mc, .inl (cI, 4, .inl (upd cu 1 (nI (hvd ct ct + 1))))), (mn, .inl (cI, 4, .inl (upd nu 1 (nI (hvd ct (ng + 1)))))), (mr, .inl (cB, 6000, .inl wr)), (md, .inl (cB, 400, .inl (wnum dr q K M (li - 1 - rw - q - 1) 0)))] H := hP
                      have hD : va_D A [(y, .inr (5, [.int 0, .int (nI bi), .int (nI ne), .int (nI li), .int (nI sp), .int (nI q), .ref ms, .ref mw, .ref mu, .ref mc, .ref mn, .int en, .int (nI sz), .ref mr, .int (nI wa), .ref mq, .int (nI (0 + nlen q K M (li - 1 - rw - q - 1))), .ref md, .int at0, .int lk])), (mw, .inl (cI, 2, .inl lw)), (mu, .inl (cI, 4, .inl (upd su 1 (nI (hvd ct (sm + (M + 1 - 1) / 2)))))), (mc, .inl (cI, 4, .inl (upd cu 1 (nI (hvd ct ct + 1))))), (mn, .inl (cI, 4, .inl (upd nu 1 (nI (hvd ct (ng + 1)))))), (mr, .inl (cB, 6000, .inl wr)), (md, .inl (cB, 400, .inl (wnum dr q K M (li - 1 - rw - q - 1) 0)))] := hD
                      refine lv_aload_n hx hb d_M_interrupt_150 rfl (lv_at hl 2 rfl) ?_
                      have hPc := hP.sub (ws' := [(y, .inr (5, [.int 0, .int (nI bi), .int (nI ne), .int (nI li), .int (nI sp), .int (nI q), .ref ms, .ref mw, .ref mu, .ref mc, .ref mn, .int en, .int (nI sz), .ref mr, .int (nI wa), .ref mq, .int (nI (0 + nlen q K M (li - 1 - rw - q - 1))), .ref md, .int at0, .int lk])), (mr, .inl (cB, 6000, .inl wr)), (md, .inl (cB, 400, .inl (wnum dr q K M (li - 1 - rw - q - 1) 0)))]) [0, 5, 6] rfl
                      have hDc := hD.sub (ws' := [(y, .inr (5, [.int 0, .int (nI bi), .int (nI ne), .int (nI li), .int (nI sp), .int (nI q), .ref ms, .ref mw, .ref mu, .ref mc, .ref mn, .int en, .int (nI sz), .ref mr, .int (nI wa), .ref mq, .int (nI (0 + nlen q K M (li - 1 - rw - q - 1))), .ref md, .int at0, .int lk])), (mr, .inl (cB, 6000, .inl wr)), (md, .inl (cB, 400, .inl (wnum dr q K M (li - 1 - rw - q - 1) 0)))]) [0, 5, 6] (by decide) rfl
                      have hKc := hK.sub (tys' := [(cB, .byte)]) [0] rfl
                      refine mci (va_runV (As := []) (rest := []) ⟨hx, hb, hml, hown, hg⟩ (c_M_write l D y ms mw mu mc mn mr mq md bi ne li sp q sz wa 0 en (nI (0 + nlen q K M (li - 1 - rw - q - 1))) at0 lk cB wr (wnum dr q K M (li - 1 - rw - q - 1) 0) (0 + nlen q K M (li - 1 - rw - q - 1)) (by omega) (by omega) (fun j hj => wnum01 j (Nat.zero_le _) hj)) (cwV 0 hg (gV gw_610 gw_612 gs_17 gw_7 gw_613) rfl rfl rfl (by decide +kernel) ⟨Nat.le_of_ble_eq_true rfl, Nat.le_of_ble_eq_true rfl⟩) ⟨fun a U g mk q => by obtain ⟨q0, qP, qK, qD⟩ := q; exact ⟨q0, qP, va_K.moved (u := U) (U := U.calling g mk a) (Vm.Alike.refl U.vm) qK, qD⟩, va_recv hKc hPc (ci := 5) (q0 := 0) rfl rfl, fun U hU hW => ⟨rfl, by rw [hU]; exact hPc, va_K.moved hW.alike hKc, hDc.weaken (fun _ _ _ _ => trivial)⟩⟩ rfl rfl hl.1 rfl (lv_room (Nat.le_of_ble_eq_true rfl)) d_M_interrupt_151 (⟨Nat.le_of_ble_eq_true rfl, Nat.le_of_ble_eq_true rfl⟩)) hS hP hD [0, 5, 6] rfl rfl rfl (fun H locs hP hD hS => ?_)
                      have hP : va_P D CLS [(y, .inr (5, [.int 0, .int (nI bi), .int (nI ne), .int (nI li), .int (nI sp), .int (nI q), .ref ms, .ref mw, .ref mu, .ref mc, .ref mn, .int en, .int (nI (sz + (0 + nlen q K M (li - 1 - rw - q - 1)))), .ref mr, .int (nI wa), .ref mq, .int (nI (0 + nlen q K M (li - 1 - rw - q - 1))), .ref md, .int at0, .int lk])), (mw, .inl (cI, 2, .inl lw)), (mu, .inl (cI, 4, .inl (upd su 1 (nI (hvd ct (sm + (M + 1 - 1) / 2)))))), (mc, .inl (cI, 4, .inl (upd cu 1 (nI (hvd ct ct + 1))))), (mn, .inl (cI, 4, .inl (upd nu 1 (nI (hvd ct (ng + 1)))))), (mr, .inl (cB, 6000, .inl (cpw wr sz (wnum dr q K M (li - 1 - rw - q - 1) 0) (0 + nlen q K M (li - 1 - rw - q - 1))))), (md, .inl (cB, 400, .inl (wnum dr q K M (li - 1 - rw - q - 1) 0)))] H := hP
                      have hD : va_D A [(y, .inr (5, [.int 0, .int (nI bi), .int (nI ne), .int (nI li), .int (nI sp), .int (nI q), .ref ms, .ref mw, .ref mu, .ref mc, .ref mn, .int en, .int (nI (sz + (0 + nlen q K M (li - 1 - rw - q - 1)))), .ref mr, .int (nI wa), .ref mq, .int (nI (0 + nlen q K M (li - 1 - rw - q - 1))), .ref md, .int at0, .int lk])), (mw, .inl (cI, 2, .inl lw)), (mu, .inl (cI, 4, .inl (upd su 1 (nI (hvd ct (sm + (M + 1 - 1) / 2)))))), (mc, .inl (cI, 4, .inl (upd cu 1 (nI (hvd ct ct + 1))))), (mn, .inl (cI, 4, .inl (upd nu 1 (nI (hvd ct (ng + 1)))))), (mr, .inl (cB, 6000, .inl (cpw wr sz (wnum dr q K M (li - 1 - rw - q - 1) 0) (0 + nlen q K M (li - 1 - rw - q - 1))))), (md, .inl (cB, 400, .inl (wnum dr q K M (li - 1 - rw - q - 1) 0)))] := hD
                      exact W.iret (v := nI (0 + nlen q K M (li - 1 - rw - q - 1))) hx hb hr (fun t ht hW => ⟨rfl, by rw [ht]; exact hP, (hAe ▸ hS).F ht⟩) (hAe ▸ hS).2.2 d_M_interrupt_154
                    · skip
                      exact absurd (by decide) c_15
          · skip
            exact absurd rfl c_10
      · skip
        exact absurd (by decide) c_3
    · skip
      exact absurd c_2 (by decide)
  · skip
    exact absurd c_1 (by decide)
set_option maxHeartbeats 4000000 in
set_option maxRecDepth 100000 in
theorem c_M_interrupt1NU (l : Launch) (D : va_G) (y ms mw mu mc mn mr mq md bi ne li sp q sz wa : Nat) (th en la at0 lk : Int32) (cB cI : ClassId) (lw su cu nu wr dr : Nat → Int32) (rw sm ct ng n K M : Nat) (hlw : lw 0 = nI rw) (hsu : su 1 = nI sm) (hcu : cu 1 = nI ct) (hnu : nu 1 = nI ng) (hc0 : ct ≤ 64) (hn0 : ng ≤ 64) (hs0 : sm < 2 ^ 29) (hKb : K ≤ 29) (hK1 : sm + ct / 2 ≤ ct * 2 ^ K) (hK2 : ∀ j, j < K → ct * 2 ^ j < sm + ct / 2) (hsp : sp ≤ 65536) (hn : n ≤ sp / 2) (hn1 : 0 < n) (hM : M = 2 * n - 1 - (if (K = 0 ∧ 2 * ng < ct) then 0 else 1)) (hq : q ≤ 29) (hli : q + 18 ≤ li) (hlb : li ≤ 200) (hrw : rw ≤ 15) (hsz : sz ≤ 6000) (hu : ¬ sz + nlen q K M (li - 1 - rw - q - 1) ≤ 6000) : Met l y_M_interrupt (WSY y_M_interrupt b_M_interrupt 5 (some .int)) ({ frames := 3, cells := 0, slots := 0, locals := 72 }) (va_Pc [.ref y, .int 1, .int (-nI n)] (fun U => va_P D CLS [(y, .inr (5, [.int th, .int (nI bi), .int (nI ne), .int (nI li), .int (nI sp), .int (nI q), .ref ms, .ref mw, .ref mu, .ref mc, .ref mn, .int en, .int (nI sz), .ref mr, .int (nI wa), .ref mq, .int la, .ref md, .int at0, .int lk])), (mw, .inl (cI, 2, .inl lw)), (mu, .inl (cI, 4, .inl su)), (mc, .inl (cI, 4, .inl cu)), (mn, .inl (cI, 4, .inl nu)), (mr, .inl (cB, 6000, .inl wr)), (md, .inl (cB, 400, .inl dr))] U.heap ∧ va_K D CLS [(cB, .byte), (cI, .int)] U ∧ va_D (fun _ => True) [(y, .inr (5, [.int th, .int (nI bi), .int (nI ne), .int (nI li), .int (nI sp), .int (nI q), .ref ms, .ref mw, .ref mu, .ref mc, .ref mn, .int en, .int (nI sz), .ref mr, .int (nI wa), .ref mq, .int la, .ref md, .int at0, .int lk])), (mw, .inl (cI, 2, .inl lw)), (mu, .inl (cI, 4, .inl su)), (mc, .inl (cI, 4, .inl cu)), (mn, .inl (cI, 4, .inl nu)), (mr, .inl (cB, 6000, .inl wr)), (md, .inl (cB, 400, .inl dr))])) (QM (some (.int (0))) [(y, .inr (5, [.int th, .int (nI bi), .int (nI ne), .int (nI li), .int (nI sp), .int (nI q), .ref ms, .ref mw, .ref mu, .ref mc, .ref mn, .int en, .int (nI sz), .ref mr, .int (nI wa), .ref mq, .int la, .ref md, .int at0, .int lk])), (mw, .inl (cI, 2, .inl lw)), (mu, .inl (cI, 4, .inl su)), (mc, .inl (cI, 4, .inl cu)), (mn, .inl (cI, 4, .inl nu)), (mr, .inl (cB, 6000, .inl wr)), (md, .inl (cB, 400, .inl dr))] [(y, .inr (5, [.int 3, .int (nI bi), .int (nI ne), .int (nI li), .int (nI sp), .int (nI q), .ref ms, .ref mw, .ref mu, .ref mc, .ref mn, .int en, .int (nI sz), .ref mr, .int (nI wa), .ref mq, .int (nI (0 + nlen q K M (li - 1 - rw - q - 1))), .ref md, .int at0, .int lk])), (mw, .inl (cI, 2, .inl lw)), (mu, .inl (cI, 4, .inl su)), (mc, .inl (cI, 4, .inl cu)), (mn, .inl (cI, 4, .inl nu)), (mr, .inl (cB, 6000, .inl wr)), (md, .inl (cB, 400, .inl (wnum dr q K M (li - 1 - rw - q - 1) 0)))] D) 0 0 (ad [(y, .inr (5, [.int th, .int (nI bi), .int (nI ne), .int (nI li), .int (nI sp), .int (nI q), .ref ms, .ref mw, .ref mu, .ref mc, .ref mn, .int en, .int (nI sz), .ref mr, .int (nI wa), .ref mq, .int la, .ref md, .int at0, .int lk])), (mw, .inl (cI, 2, .inl lw)), (mu, .inl (cI, 4, .inl su)), (mc, .inl (cI, 4, .inl cu)), (mn, .inl (cI, 4, .inl nu)), (mr, .inl (cB, 6000, .inl wr)), (md, .inl (cB, 400, .inl dr))]) := by
  refine Met.ofW (cc := b_M_interrupt) (maxL := 5) (ret := (some .int)) (by decide) rfl ?_
  intro p e s m args below meth c s₁ B hml hv
  obtain ⟨rfl, hP, hK, hD0⟩ := hv
  have hx := B.exec
  have hb := B.bytes
  have hr := B.returns
  have hts := atoms_spec (ws := WSY y_M_interrupt b_M_interrupt 5 (some .int)) B.pre
  have hg : ∀ w ∈ GW, w.before _ s = true := fun w h => hts w (List.mem_cons_of_mem _ h)
  have hown : s.vm.findClass "LineGolombModel" = some m.cls := findClass_of_methodNamed B.named
  have hlocks := B.notSynchronized
  obtain ⟨A, hAe⟩ : ∃ A, A = ad [(y, .inr (5, [.int th, .int (nI bi), .int (nI ne), .int (nI li), .int (nI sp), .int (nI q), .ref ms, .ref mw, .ref mu, .ref mc, .ref mn, .int en, .int (nI sz), .ref mr, .int (nI wa), .ref mq, .int la, .ref md, .int at0, .int lk])), (mw, .inl (cI, 2, .inl lw)), (mu, .inl (cI, 4, .inl su)), (mc, .inl (cI, 4, .inl cu)), (mn, .inl (cI, 4, .inl nu)), (mr, .inl (cB, 6000, .inl wr)), (md, .inl (cB, 400, .inl dr))] := ⟨_, rfl⟩
  have hD : va_D A [(y, .inr (5, [.int th, .int (nI bi), .int (nI ne), .int (nI li), .int (nI sp), .int (nI q), .ref ms, .ref mw, .ref mu, .ref mc, .ref mn, .int en, .int (nI sz), .ref mr, .int (nI wa), .ref mq, .int la, .ref md, .int at0, .int lk])), (mw, .inl (cI, 2, .inl lw)), (mu, .inl (cI, 4, .inl su)), (mc, .inl (cI, 4, .inl cu)), (mn, .inl (cI, 4, .inl nu)), (mr, .inl (cB, 6000, .inl wr)), (md, .inl (cB, 400, .inl dr))] := by rw [hAe]; exact va_D_ad hD0
  have hS : va_S A s.heap s.heap [] := va_S.rf
  have hl := lv_entry ([.ref y, .int 1, .int (-nI n)]) (n := 5) (Nat.le_of_ble_eq_true rfl)
  rw [lg_entry_eq]
  generalize (lg_sl ([.ref y, .int 1, .int (-nI n)]) ++ List.replicate (5 - (lg_sl ([.ref y, .int 1, .int (-nI n)])).length) Slot.unset).toArray = ls at hl ⊢
  have hl : lv_has ls 5 [(0, .ref y), (1, .int 1), (2, .int (-nI n))] := hl
  have hMb : M ≤ 2 * n := by rw [hM]; omega
  have hlen : nlen q K M (li - 1 - rw - q - 1) ≤ 400 := by unfold nlen; split <;> omega
  refine lv_aload_n hx hb d_M_interrupt_0 rfl (lv_at hl 0 rfl) ?_
  refine lv_aload_n hx hb d_M_interrupt_1 rfl (lv_at hl 0 rfl) ?_
  refine lv_iload_n hx hb d_M_interrupt_2 rfl (lv_at hl 1 rfl) ?_
  have hPc := hP.sub (ws' := [(y, .inr (5, [.int th, .int (nI bi), .int (nI ne), .int (nI li), .int (nI sp), .int (nI q), .ref ms, .ref mw, .ref mu, .ref mc, .ref mn, .int en, .int (nI sz), .ref mr, .int (nI wa), .ref mq, .int la, .ref md, .int at0, .int lk]))]) [0] rfl
  have hKc := hK.sub (tys' := []) [] rfl
  refine pci (va_runV (As := [.int 1]) (rest := [.ref y]) ⟨hx, hb, hml, hown, hg⟩ (c_M_isKind l D y ms mw mu mc mn mr mq md bi ne li sp q sz wa th en la at0 lk 1) (cwV 1 hg (gV gw_626 gw_628 gs_18 gw_7 gw_629) rfl rfl rfl (by decide +kernel) ⟨Nat.le_of_ble_eq_true rfl, Nat.le_of_ble_eq_true rfl⟩) ⟨fun a U g mk q => by obtain ⟨q0, qP, qK⟩ := q; exact ⟨q0, qP, va_K.moved (u := U) (U := U.calling g mk a) (Vm.Alike.refl U.vm) qK⟩, va_recv hKc hPc (ci := 5) (q0 := 0) rfl rfl, fun U hU hW => ⟨rfl, by rw [hU]; exact hPc, va_K.moved hW.alike hKc⟩⟩ rfl rfl hl.1 rfl (lv_room (Nat.le_of_ble_eq_true rfl)) d_M_interrupt_3 (⟨Nat.le_of_ble_eq_true rfl, Nat.le_of_ble_eq_true rfl⟩)) ?_
  refine tpi (y := 1) (by decide) ?_
  refine lv_if_ne (tgt := 13) hx hb d_M_interrupt_6 (by decide) (fun c_1 => ?_) (fun c_1 => ?_)
  · skip
    refine lv_aload_n hx hb d_M_interrupt_13 rfl (lv_at hl 0 rfl) ?_
    refine lv_iload_n hx hb d_M_interrupt_14 rfl (lv_at hl 1 rfl) ?_
    refine lv_iload_n hx hb d_M_interrupt_15 rfl (lv_at hl 2 rfl) ?_
    have hPc := hP.sub (ws' := [(y, .inr (5, [.int th, .int (nI bi), .int (nI ne), .int (nI li), .int (nI sp), .int (nI q), .ref ms, .ref mw, .ref mu, .ref mc, .ref mn, .int en, .int (nI sz), .ref mr, .int (nI wa), .ref mq, .int la, .ref md, .int at0, .int lk]))]) [0] rfl
    have hKc := hK.sub (tys' := []) [] rfl
    refine pci (va_runV (As := [.int 1, .int (-nI n)]) (rest := [.ref y]) ⟨hx, hb, hml, hown, hg⟩ (c_M_isError l D y ms mw mu mc mn mr mq md bi ne li sp q sz wa th en la at0 lk 1 (-nI n) (by omega)) (cwV 2 hg (gV gw_630 gw_632 gs_19 gw_7 gw_633) rfl rfl rfl (by decide +kernel) ⟨Nat.le_of_ble_eq_true rfl, Nat.le_of_ble_eq_true rfl⟩) ⟨fun a U g mk q => by obtain ⟨q0, qP, qK⟩ := q; exact ⟨q0, qP, va_K.moved (u := U) (U := U.calling g mk a) (Vm.Alike.refl U.vm) qK⟩, va_recv hKc hPc (ci := 5) (q0 := 0) rfl rfl, fun U hU hW => ⟨rfl, by rw [hU]; exact hPc, va_K.moved hW.alike hKc⟩⟩ rfl rfl hl.1 rfl (lv_room (Nat.le_of_ble_eq_true rfl)) d_M_interrupt_16 (⟨Nat.le_of_ble_eq_true rfl, Nat.le_of_ble_eq_true rfl⟩)) ?_
    refine tpi (y := 1) (if_pos ⟨by rw [ngT (by omega)]; omega, by rw [ngT (by omega)]; omega, Or.inl (by rw [eqT, ngT (by omega), zT]; omega)⟩) ?_
    refine lv_if_ne (tgt := 26) hx hb d_M_interrupt_19 (by decide) (fun c_2 => ?_) (fun c_2 => ?_)
    · skip
      refine lv_iconst (v := 0) hx hb d_M_interrupt_26 (by decide) ?_
      refine va_put (D := D) (ci := 5) (v := .int 0) (ty := .int) (C := R_M) (T := T_M) (N := 20) hx hb hg in_M ty_M tok_M nm_M hown hK hP hD hS 0 rfl rfl 0 (by decide) (hg _ gw_524) (fun _ h9 => h9) rfl (by decide +kernel) (rfl) (rfl) (Nat.le_of_ble_eq_true rfl) d_M_interrupt_27 (fun H locs hP hD hS => ?_)
      have hP : va_P D CLS [(y, .inr (5, [.int 0, .int (nI bi), .int (nI ne), .int (nI li), .int (nI sp), .int (nI q), .ref ms, .ref mw, .ref mu, .ref mc, .ref mn, .int en, .int (nI sz), .ref mr, .int (nI wa), .ref mq, .int la, .ref md, .int at0, .int lk])), (mw, .inl (cI, 2, .inl lw)), (mu, .inl (cI, 4, .inl su)), (mc, .inl (cI, 4, .inl cu)), (mn, .inl (cI, 4, .inl nu)), (mr, .inl (cB, 6000, .inl wr)), (md, .inl (cB, 400, .inl dr))] H := hP
      have hD : va_D A [(y, .inr (5, [.int 0, .int (nI bi), .int (nI ne), .int (nI li), .int (nI sp), .int (nI q), .ref ms, .ref mw, .ref mu, .ref mc, .ref mn, .int en, .int (nI sz), .ref mr, .int (nI wa), .ref mq, .int la, .ref md, .int at0, .int lk])), (mw, .inl (cI, 2, .inl lw)), (mu, .inl (cI, 4, .inl su)), (mc, .inl (cI, 4, .inl cu)), (mn, .inl (cI, 4, .inl nu)), (mr, .inl (cB, 6000, .inl wr)), (md, .inl (cB, 400, .inl dr))] := hD
      refine lv_aload_n hx hb d_M_interrupt_30 rfl (lv_at hl 0 rfl) ?_
      refine va_get (D := D) (ci := 5) (v := .int 0) (C := R_M) (T := T_M) (N := 20) hx hb hg in_M hown hK hP 0 rfl rfl 0 (by decide) (hg _ gw_524) (fun _ h9 => h9) rfl d_M_interrupt_31 ?_
      refine lv_if_le (tgt := 39) hx hb d_M_interrupt_34 (by decide) (fun c_3 => ?_) (fun c_3 => ?_)
      · skip
        refine lv_aload_n hx hb d_M_interrupt_39 rfl (lv_at hl 0 rfl) ?_
        refine lv_iload_n hx hb d_M_interrupt_40 rfl (lv_at hl 1 rfl) ?_
        have hPc := hP.sub (ws' := [(y, .inr (5, [.int 0, .int (nI bi), .int (nI ne), .int (nI li), .int (nI sp), .int (nI q), .ref ms, .ref mw, .ref mu, .ref mc, .ref mn, .int en, .int (nI sz), .ref mr, .int (nI wa), .ref mq, .int la, .ref md, .int at0, .int lk])), (mu, .inl (cI, 4, .inl su)), (mc, .inl (cI, 4, .inl cu)), (mn, .inl (cI, 4, .inl nu))]) [0, 2, 3, 4] rfl
        have hKc := hK.sub (tys' := [(cI, .int)]) [1] rfl
        refine pci (va_runV (As := [.int 1]) (rest := []) ⟨hx, hb, hml, hown, hg⟩ (c_M_isUp1 l D y ms mw mu mc mn mr mq md bi ne li sp q sz wa 0 en la at0 lk cI su cu nu sm ct ng K hsu hcu hnu hc0 hn0 (by omega) hKb hK1 hK2) (cwV 1 hg (gV gw_634 gw_636 gs_20 gw_7 gw_637) rfl rfl rfl (by decide +kernel) ⟨Nat.le_of_ble_eq_true rfl, Nat.le_of_ble_eq_true rfl⟩) ⟨fun a U g mk q => by obtain ⟨q0, qP, qK⟩ := q; exact ⟨q0, qP, va_K.moved (u := U) (U := U.calling g mk a) (Vm.Alike.refl U.vm) qK⟩, va_recv hKc hPc (ci := 5) (q0 := 0) rfl rfl, fun U hU hW => ⟨rfl, by rw [hU]; exact hPc, va_K.moved hW.alike hKc⟩⟩ rfl rfl hl.1 rfl (lv_room (Nat.le_of_ble_eq_true rfl)) d_M_interrupt_41 (⟨Nat.le_of_ble_eq_true rfl, Nat.le_of_ble_eq_true rfl⟩)) ?_
        by_cases hup : (K = 0 ∧ 2 * ng < ct)
        · skip
          refine tpi (y := 1) (if_pos hup) ?_
          refine lv_if_eq (tgt := 59) hx hb d_M_interrupt_44 (by decide) (fun c_4 => ?_) (fun c_4 => ?_)
          · skip
            exact absurd c_4 (by decide)
          · skip
            refine lv_iload_n hx hb d_M_interrupt_47 rfl (lv_at hl 2 rfl) ?_
            refine lv_if_le (tgt := 55) hx hb d_M_interrupt_48 (by decide) (fun c_5 => ?_) (fun c_5 => ?_)
            · skip
              have hfl : (if (K = 0 ∧ 2 * ng < ct) then 0 else 1 : Nat) = 0 := if_pos hup
              refine lv_iconst (v := 0) hx hb d_M_interrupt_55 (by decide) ?_
              refine lv_goto (tgt := 68) hx hb d_M_interrupt_56 (by decide) ?_
              refine lv_istore_n (lv' := [(3, .int 0), (0, .ref y), (1, .int 1), (2, .int (-nI n))]) hx hb d_M_interrupt_68 rfl hl (by decide) rfl (fun ls hl => ?_)
              refine lv_iconst (v := 2) hx hb d_M_interrupt_69 (by decide) ?_
              refine lv_iload_n hx hb d_M_interrupt_70 rfl (lv_at hl 3 rfl) ?_
              refine lv_if_ge (tgt := 79) hx hb d_M_interrupt_71 (by decide) (fun c_6 => ?_) (fun c_6 => ?_)
              · skip
                exact absurd c_6 (by rw [leT, ngT (by omega), zT]; omega)
              · skip
                refine lv_iload_n hx hb d_M_interrupt_74 rfl (lv_at hl 3 rfl) ?_
                refine lv_ineg hx hb d_M_interrupt_75 ?_
                refine lv_goto (tgt := 80) hx hb d_M_interrupt_76 (by decide) ?_
                refine tpi (y := nI n) (Int32.neg_neg) ?_
                refine lv_imul hx hb d_M_interrupt_80 ?_
                refine tpi (y := nI (2 * n)) (mul2 n) ?_
                refine lv_iload_n hx hb d_M_interrupt_81 rfl (lv_at hl 2 rfl) ?_
                refine lv_isub hx hb d_M_interrupt_82 ?_
                refine tpi (y := nI (2 * n - 1)) (pk_sub (b := 1) (by omega)) ?_
                refine lv_iload_n hx hb d_M_interrupt_83 rfl (lv_at hl 0 rfl) ?_
                refine lv_if_eq (tgt := 91) hx hb d_M_interrupt_84 (by decide) (fun c_7 => ?_) (fun c_7 => ?_)
                · skip
                  refine lv_iconst (v := 0) hx hb d_M_interrupt_91 (by decide) ?_
                  refine lv_isub hx hb d_M_interrupt_92 ?_
                  refine tpi (y := nI M) ((pk_sub (b := 0) (by omega)).trans (congrArg nI (by rw [hM, hfl]))) ?_
                  refine lv_istore (lv' := [(4, .int (nI M)), (3, .int 0), (0, .ref y), (1, .int 1), (2, .int (-nI n))]) hx hb d_M_interrupt_93 hl (by decide) rfl (fun ls hl => ?_)
                  refine lv_aload_n hx hb d_M_interrupt_95 rfl (lv_at hl 2 rfl) ?_
                  refine lv_iconst (v := 0) hx hb d_M_interrupt_96 (by decide) ?_
                  refine tpi (y := nI 0) (rfl) ?_
                  refine va_put (D := D) (ci := 5) (v := .int (nI 0)) (ty := .int) (C := R_M) (T := T_M) (N := 20) hx hb hg in_M ty_M tok_M nm_M hown hK hP hD hS 0 rfl rfl 16 (by decide) (hg _ gw_540) (fun _ h9 => h9) rfl (by decide +kernel) (rfl) (rfl) (Nat.le_of_ble_eq_true rfl) d_M_interrupt_97 (fun H locs hP hD hS => ?_)
                  have hP : va_P D CLS [(y, .inr (5, [.int 0, .int (nI bi), .int (nI ne), .int (nI li), .int (nI sp), .int (nI q), .ref ms, .ref mw, .ref mu, .ref mc, .ref mn, .int en, .int (nI sz), .ref mr, .int (nI wa), .ref mq, .int (nI 0), .ref md, .int at0, .int lk])), (mw, .inl (cI, 2, .inl lw)), (mu, .inl (cI, 4, .inl su)), (mc, .inl (cI, 4, .inl cu)), (mn, .inl (cI, 4, .inl nu)), (mr, .inl (cB, 6000, .inl wr)), (md, .inl (cB, 400, .inl dr))] H := hP
                  have hD : va_D A [(y, .inr (5, [.int 0, .int (nI bi), .int (nI ne), .int (nI li), .int (nI sp), .int (nI q), .ref ms, .ref mw, .ref mu, .ref mc, .ref mn, .int en, .int (nI sz), .ref mr, .int (nI wa), .ref mq, .int (nI 0), .ref md, .int at0, .int lk])), (mw, .inl (cI, 2, .inl lw)), (mu, .inl (cI, 4, .inl su)), (mc, .inl (cI, 4, .inl cu)), (mn, .inl (cI, 4, .inl nu)), (mr, .inl (cB, 6000, .inl wr)), (md, .inl (cB, 400, .inl dr))] := hD
                  refine lv_aload_n hx hb d_M_interrupt_100 rfl (lv_at hl 2 rfl) ?_
                  refine lv_iload hx hb d_M_interrupt_101 (lv_at hl 0 rfl) ?_
                  refine lv_aload_n hx hb d_M_interrupt_103 rfl (lv_at hl 2 rfl) ?_
                  refine lv_iload_n hx hb d_M_interrupt_104 rfl (lv_at hl 3 rfl) ?_
                  have hPc := hP.sub (ws' := [(y, .inr (5, [.int 0, .int (nI bi), .int (nI ne), .int (nI li), .int (nI sp), .int (nI q), .ref ms, .ref mw, .ref mu, .ref mc, .ref mn, .int en, .int (nI sz), .ref mr, .int (nI wa), .ref mq, .int (nI 0), .ref md, .int at0, .int lk])), (mu, .inl (cI, 4, .inl su)), (mc, .inl (cI, 4, .inl cu)), (mn, .inl (cI, 4, .inl nu))]) [0, 2, 3, 4] rfl
                  have hKc := hK.sub (tys' := [(cI, .int)]) [1] rfl
                  refine pci (va_runV (As := [.int 1]) (rest := [.int (nI M), .ref y]) ⟨hx, hb, hml, hown, hg⟩ (c_M_kOf1 l D y ms mw mu mc mn mr mq md bi ne li sp q sz wa 0 en (nI 0) at0 lk cI su cu nu sm ct ng K hsu hcu hnu hc0 hn0 (by omega) hKb hK1 hK2) (cwV 1 hg (gV gw_638 gw_640 gs_21 gw_7 gw_641) rfl rfl rfl (by decide +kernel) ⟨Nat.le_of_ble_eq_true rfl, Nat.le_of_ble_eq_true rfl⟩) ⟨fun a U g mk q => by obtain ⟨q0, qP, qK⟩ := q; exact ⟨q0, qP, va_K.moved (u := U) (U := U.calling g mk a) (Vm.Alike.refl U.vm) qK⟩, va_recv hKc hPc (ci := 5) (q0 := 0) rfl rfl, fun U hU hW => ⟨rfl, by rw [hU]; exact hPc, va_K.moved hW.alike hKc⟩⟩ rfl rfl hl.1 rfl (lv_room (Nat.le_of_ble_eq_true rfl)) d_M_interrupt_105 (⟨Nat.le_of_ble_eq_true rfl, Nat.le_of_ble_eq_true rfl⟩)) ?_
                  refine lv_aload_n hx hb d_M_interrupt_108 rfl (lv_at hl 2 rfl) ?_
                  refine lv_iconst (v := 0) hx hb d_M_interrupt_109 (by decide) ?_
                  have hPc := hP.sub (ws' := [(y, .inr (5, [.int 0, .int (nI bi), .int (nI ne), .int (nI li), .int (nI sp), .int (nI q), .ref ms, .ref mw, .ref mu, .ref mc, .ref mn, .int en, .int (nI sz), .ref mr, .int (nI wa), .ref mq, .int (nI 0), .ref md, .int at0, .int lk])), (mw, .inl (cI, 2, .inl lw))]) [0, 1] rfl
                  have hKc := hK.sub (tys' := [(cI, .int)]) [1] rfl
                  refine pci (va_runV (As := [.int 0]) (rest := [.int (nI K), .int (nI M), .ref y]) ⟨hx, hb, hml, hown, hg⟩ (c_M_limitFor0 l D y ms mw mu mc mn mr mq md bi ne li sp q sz wa 0 en (nI 0) at0 lk cI lw rw hlw (by omega)) (cwV 1 hg (gV gw_642 gw_644 gs_22 gw_7 gw_645) rfl rfl rfl (by decide +kernel) ⟨Nat.le_of_ble_eq_true rfl, Nat.le_of_ble_eq_true rfl⟩) ⟨fun a U g mk q => by obtain ⟨q0, qP, qK⟩ := q; exact ⟨q0, qP, va_K.moved (u := U) (U := U.calling g mk a) (Vm.Alike.refl U.vm) qK⟩, va_recv hKc hPc (ci := 5) (q0 := 0) rfl rfl, fun U hU hW => ⟨rfl, by rw [hU]; exact hPc, va_K.moved hW.alike hKc⟩⟩ rfl rfl hl.1 rfl (lv_room (Nat.le_of_ble_eq_true rfl)) d_M_interrupt_110 (⟨Nat.le_of_ble_eq_true rfl, Nat.le_of_ble_eq_true rfl⟩)) ?_
                  have hPc := hP.sub (ws' := [(y, .inr (5, [.int 0, .int (nI bi), .int (nI ne), .int (nI li), .int (nI sp), .int (nI q), .ref ms, .ref mw, .ref mu, .ref mc, .ref mn, .int en, .int (nI sz), .ref mr, .int (nI wa), .ref mq, .int (nI 0), .ref md, .int at0, .int lk])), (md, .inl (cB, 400, .inl dr))]) [0, 6] rfl
                  have hDc := hD.sub (ws' := [(y, .inr (5, [.int 0, .int (nI bi), .int (nI ne), .int (nI li), .int (nI sp), .int (nI q), .ref ms, .ref mw, .ref mu, .ref mc, .ref mn, .int en, .int (nI sz), .ref mr, .int (nI wa), .ref mq, .int (nI 0), .ref md, .int at0, .int lk])), (md, .inl (cB, 400, .inl dr))]) [0, 6] (by decide) rfl
                  have hKc := hK.sub (tys' := [(cB, .byte)]) [0] rfl
                  refine mcv (va_runV (As := [.int (nI M), .int (nI K), .int (nI (li - 1 - rw))]) (rest := []) ⟨hx, hb, hml, hown, hg⟩ (c_M_layNumber l D y ms mw mu mc mn mr mq md bi ne li sp q sz wa 0 en (nI 0) at0 lk cB dr 0 M K (li - 1 - rw) (by omega) (by omega) (by omega) (by omega) (by omega) (by omega)) (cwV 3 hg (gV gw_594 gw_596 gs_13 gw_7 gw_597) rfl rfl rfl (by decide +kernel) ⟨Nat.le_of_ble_eq_true rfl, Nat.le_of_ble_eq_true rfl⟩) ⟨fun a U g mk q => by obtain ⟨q0, qP, qK, qD⟩ := q; exact ⟨q0, qP, va_K.moved (u := U) (U := U.calling g mk a) (Vm.Alike.refl U.vm) qK, qD⟩, va_recv hKc hPc (ci := 5) (q0 := 0) rfl rfl, fun U hU hW => ⟨rfl, by rw [hU]; exact hPc, va_K.moved hW.alike hKc, hDc.weaken (fun _ _ _ _ => trivial)⟩⟩ rfl rfl hl.1 rfl (lv_room (Nat.le_of_ble_eq_true rfl)) d_M_interrupt_113 (⟨Nat.le_of_ble_eq_true rfl, Nat.le_of_ble_eq_true rfl⟩)) hS hP hD [0, 6] rfl rfl rfl (fun H locs hP hD hS => ?_)
                  have hP : va_P D CLS [(y, .inr (5, [.int 0, .int (nI bi), .int (nI ne), .int (nI li), .int (nI sp), .int (nI q), .ref ms, .ref mw, .ref mu, .ref mc, .ref mn, .int en, .int (nI sz), .ref mr, .int (nI wa), .ref mq, .int (nI (0 + nlen q K M (li - 1 - rw - q - 1))), .ref md, .int at0, .int lk])), (mw, .inl (cI, 2, .inl lw)), (mu, .inl (cI, 4, .inl su)), (mc, .inl (cI, 4, .inl cu)), (mn, .inl (cI, 4, .inl nu)), (mr, .inl (cB, 6000, .inl wr)), (md, .inl (cB, 400, .inl (wnum dr q K M (li - 1 - rw - q - 1) 0)))] H := hP
                  have hD : va_D A [(y, .inr (5, [.int 0, .int (nI bi), .int (nI ne), .int (nI li), .int (nI sp), .int (nI q), .ref ms, .ref mw, .ref mu, .ref mc, .ref mn, .int en, .int (nI sz), .ref mr, .int (nI wa), .ref mq, .int (nI (0 + nlen q K M (li - 1 - rw - q - 1))), .ref md, .int at0, .int lk])), (mw, .inl (cI, 2, .inl lw)), (mu, .inl (cI, 4, .inl su)), (mc, .inl (cI, 4, .inl cu)), (mn, .inl (cI, 4, .inl nu)), (mr, .inl (cB, 6000, .inl wr)), (md, .inl (cB, 400, .inl (wnum dr q K M (li - 1 - rw - q - 1) 0)))] := hD
                  refine lv_aload_n hx hb d_M_interrupt_116 rfl (lv_at hl 2 rfl) ?_
                  refine lv_aload_n hx hb d_M_interrupt_117 rfl (lv_at hl 2 rfl) ?_
                  have hPc := hP.sub (ws' := [(y, .inr (5, [.int 0, .int (nI bi), .int (nI ne), .int (nI li), .int (nI sp), .int (nI q), .ref ms, .ref mw, .ref mu, .ref mc, .ref mn, .int en, .int (nI sz), .ref mr, .int (nI wa), .ref mq, .int (nI (0 + nlen q K M (li - 1 - rw - q - 1))), .ref md, .int at0, .int lk]))]) [0] rfl
                  have hKc := hK.sub (tys' := []) [] rfl
                  refine pci (va_runV (As := []) (rest := [.ref y]) ⟨hx, hb, hml, hown, hg⟩ (c_M_hasRoom l D y ms mw mu mc mn mr mq md bi ne li sp q sz wa 0 en (nI (0 + nlen q K M (li - 1 - rw - q - 1))) at0 lk (0 + nlen q K M (li - 1 - rw - q - 1)) hsz (by omega)) (cwV 0 hg (gV gw_606 gw_608 gs_16 gw_7 gw_609) rfl rfl rfl (by decide +kernel) ⟨Nat.le_of_ble_eq_true rfl, Nat.le_of_ble_eq_true rfl⟩) ⟨fun a U g mk q => by obtain ⟨q0, qP, qK⟩ := q; exact ⟨q0, qP, va_K.moved (u := U) (U := U.calling g mk a) (Vm.Alike.refl U.vm) qK⟩, va_recv hKc hPc (ci := 5) (q0 := 0) rfl rfl, fun U hU hW => ⟨rfl, by rw [hU]; exact hPc, va_K.moved hW.alike hKc⟩⟩ rfl rfl hl.1 rfl (lv_room (Nat.le_of_ble_eq_true rfl)) d_M_interrupt_118 (⟨Nat.le_of_ble_eq_true rfl, Nat.le_of_ble_eq_true rfl⟩)) ?_
                  refine tpi (y := 0) (if_neg (by omega)) ?_
                  refine lv_if_eq (tgt := 128) hx hb d_M_interrupt_121 (by decide) (fun c_8 => ?_) (fun c_8 => ?_)
                  · skip
                    refine lv_iconst (v := 3) hx hb d_M_interrupt_128 (by decide) ?_
                    refine va_put (D := D) (ci := 5) (v := .int 3) (ty := .int) (C := R_M) (T := T_M) (N := 20) hx hb hg in_M ty_M tok_M nm_M hown hK hP hD hS 0 rfl rfl 0 (by decide) (hg _ gw_524) (fun _ h9 => h9) rfl (by decide +kernel) (rfl) (rfl) (Nat.le_of_ble_eq_true rfl) d_M_interrupt_129 (fun H locs hP hD hS => ?_)
                    have hP : va_P D CLS [(y, .inr (5, [.int 3, .int (nI bi), .int (nI ne), .int (nI li), .int (nI sp), .int (nI q), .ref ms, .ref mw, .ref mu, .ref mc, .ref mn, .int en, .int (nI sz), .ref mr, .int (nI wa), .ref mq, .int (nI (0 + nlen q K M (li - 1 - rw - q - 1))), .ref md, .int at0, .int lk])), (mw, .inl (cI, 2, .inl lw)), (mu, .inl (cI, 4, .inl su)), (mc, .inl (cI, 4, .inl cu)), (mn, .inl (cI, 4, .inl nu)), (mr, .inl (cB, 6000, .inl wr)), (md, .inl (cB, 400, .inl (wnum dr q K M (li - 1 - rw - q - 1) 0)))] H := hP
                    have hD : va_D A [(y, .inr (5, [.int 3, .int (nI bi), .int (nI ne), .int (nI li), .int (nI sp), .int (nI q), .ref ms, .ref mw, .ref mu, .ref mc, .ref mn, .int en, .int (nI sz), .ref mr, .int (nI wa), .ref mq, .int (nI (0 + nlen q K M (li - 1 - rw - q - 1))), .ref md, .int at0, .int lk])), (mw, .inl (cI, 2, .inl lw)), (mu, .inl (cI, 4, .inl su)), (mc, .inl (cI, 4, .inl cu)), (mn, .inl (cI, 4, .inl nu)), (mr, .inl (cB, 6000, .inl wr)), (md, .inl (cB, 400, .inl (wnum dr q K M (li - 1 - rw - q - 1) 0)))] := hD
                    refine lv_aload_n hx hb d_M_interrupt_132 rfl (lv_at hl 2 rfl) ?_
                    refine va_get (D := D) (ci := 5) (v := .int 3) (C := R_M) (T := T_M) (N := 20) hx hb hg in_M hown hK hP 0 rfl rfl 0 (by decide) (hg _ gw_524) (fun _ h9 => h9) rfl d_M_interrupt_133 ?_
                    refine lv_if_le (tgt := 141) hx hb d_M_interrupt_136 (by decide) (fun c_9 => ?_) (fun c_9 => ?_)
                    · skip
                      exact absurd c_9 (by decide)
                    · skip
                      refine lv_iconst (v := 0) hx hb d_M_interrupt_139 (by decide) ?_
                      exact W.iret (v := 0) hx hb hr (fun t ht hW => ⟨rfl, by rw [ht]; exact hP, (hAe ▸ hS).F ht⟩) (hAe ▸ hS).2.2 d_M_interrupt_140
                  · skip
                    exact absurd rfl c_8
                · skip
                  exact absurd rfl c_7
            · skip
              exact absurd (by rw [leT, ngT (by omega), zT]; omega) c_5
        · skip
          refine tpi (y := 0) (if_neg hup) ?_
          refine lv_if_eq (tgt := 59) hx hb d_M_interrupt_44 (by decide) (fun c_10 => ?_) (fun c_10 => ?_)
          · skip
            refine lv_iload_n hx hb d_M_interrupt_59 rfl (lv_at hl 2 rfl) ?_
            refine lv_if_ge (tgt := 67) hx hb d_M_interrupt_60 (by decide) (fun c_11 => ?_) (fun c_11 => ?_)
            · skip
              exact absurd c_11 (by rw [leT, ngT (by omega), zT]; omega)
            · skip
              have hfl : (if (K = 0 ∧ 2 * ng < ct) then 0 else 1 : Nat) = 1 := if_neg hup
              refine lv_iconst (v := 1) hx hb d_M_interrupt_63 (by decide) ?_
              refine lv_goto (tgt := 68) hx hb d_M_interrupt_64 (by decide) ?_
              refine lv_istore_n (lv' := [(3, .int 1), (0, .ref y), (1, .int 1), (2, .int (-nI n))]) hx hb d_M_interrupt_68 rfl hl (by decide) rfl (fun ls hl => ?_)
              refine lv_iconst (v := 2) hx hb d_M_interrupt_69 (by decide) ?_
              refine lv_iload_n hx hb d_M_interrupt_70 rfl (lv_at hl 3 rfl) ?_
              refine lv_if_ge (tgt := 79) hx hb d_M_interrupt_71 (by decide) (fun c_12 => ?_) (fun c_12 => ?_)
              · skip
                exact absurd c_12 (by rw [leT, ngT (by omega), zT]; omega)
              · skip
                refine lv_iload_n hx hb d_M_interrupt_74 rfl (lv_at hl 3 rfl) ?_
                refine lv_ineg hx hb d_M_interrupt_75 ?_
                refine lv_goto (tgt := 80) hx hb d_M_interrupt_76 (by decide) ?_
                refine tpi (y := nI n) (Int32.neg_neg) ?_
                refine lv_imul hx hb d_M_interrupt_80 ?_
                refine tpi (y := nI (2 * n)) (mul2 n) ?_
                refine lv_iload_n hx hb d_M_interrupt_81 rfl (lv_at hl 2 rfl) ?_
                refine lv_isub hx hb d_M_interrupt_82 ?_
                refine tpi (y := nI (2 * n - 1)) (pk_sub (b := 1) (by omega)) ?_
                refine lv_iload_n hx hb d_M_interrupt_83 rfl (lv_at hl 0 rfl) ?_
                refine lv_if_eq (tgt := 91) hx hb d_M_interrupt_84 (by decide) (fun c_13 => ?_) (fun c_13 => ?_)
                · skip
                  exact absurd c_13 (by decide)
                · skip
                  refine lv_iconst (v := 1) hx hb d_M_interrupt_87 (by decide) ?_
                  refine lv_goto (tgt := 92) hx hb d_M_interrupt_88 (by decide) ?_
                  refine lv_isub hx hb d_M_interrupt_92 ?_
                  refine tpi (y := nI M) ((pk_sub (b := 1) (by omega)).trans (congrArg nI (by rw [hM, hfl]))) ?_
                  refine lv_istore (lv' := [(4, .int (nI M)), (3, .int 1), (0, .ref y), (1, .int 1), (2, .int (-nI n))]) hx hb d_M_interrupt_93 hl (by decide) rfl (fun ls hl => ?_)
                  refine lv_aload_n hx hb d_M_interrupt_95 rfl (lv_at hl 2 rfl) ?_
                  refine lv_iconst (v := 0) hx hb d_M_interrupt_96 (by decide) ?_
                  refine tpi (y := nI 0) (rfl) ?_
                  refine va_put (D := D) (ci := 5) (v := .int (nI 0)) (ty := .int) (C := R_M) (T := T_M) (N := 20) hx hb hg in_M ty_M tok_M nm_M hown hK hP hD hS 0 rfl rfl 16 (by decide) (hg _ gw_540) (fun _ h9 => h9) rfl (by decide +kernel) (rfl) (rfl) (Nat.le_of_ble_eq_true rfl) d_M_interrupt_97 (fun H locs hP hD hS => ?_)
                  have hP : va_P D CLS [(y, .inr (5, [.int 0, .int (nI bi), .int (nI ne), .int (nI li), .int (nI sp), .int (nI q), .ref ms, .ref mw, .ref mu, .ref mc, .ref mn, .int en, .int (nI sz), .ref mr, .int (nI wa), .ref mq, .int (nI 0), .ref md, .int at0, .int lk])), (mw, .inl (cI, 2, .inl lw)), (mu, .inl (cI, 4, .inl su)), (mc, .inl (cI, 4, .inl cu)), (mn, .inl (cI, 4, .inl nu)), (mr, .inl (cB, 6000, .inl wr)), (md, .inl (cB, 400, .inl dr))] H := hP
                  have hD : va_D A [(y, .inr (5, [.int 0, .int (nI bi), .int (nI ne), .int (nI li), .int (nI sp), .int (nI q), .ref ms, .ref mw, .ref mu, .ref mc, .ref mn, .int en, .int (nI sz), .ref mr, .int (nI wa), .ref mq, .int (nI 0), .ref md, .int at0, .int lk])), (mw, .inl (cI, 2, .inl lw)), (mu, .inl (cI, 4, .inl su)), (mc, .inl (cI, 4, .inl cu)), (mn, .inl (cI, 4, .inl nu)), (mr, .inl (cB, 6000, .inl wr)), (md, .inl (cB, 400, .inl dr))] := hD
                  refine lv_aload_n hx hb d_M_interrupt_100 rfl (lv_at hl 2 rfl) ?_
                  refine lv_iload hx hb d_M_interrupt_101 (lv_at hl 0 rfl) ?_
                  refine lv_aload_n hx hb d_M_interrupt_103 rfl (lv_at hl 2 rfl) ?_
                  refine lv_iload_n hx hb d_M_interrupt_104 rfl (lv_at hl 3 rfl) ?_
                  have hPc := hP.sub (ws' := [(y, .inr (5, [.int 0, .int (nI bi), .int (nI ne), .int (nI li), .int (nI sp), .int (nI q), .ref ms, .ref mw, .ref mu, .ref mc, .ref mn, .int en, .int (nI sz), .ref mr, .int (nI wa), .ref mq, .int (nI 0), .ref md, .int at0, .int lk])), (mu, .inl (cI, 4, .inl su)), (mc, .inl (cI, 4, .inl cu)), (mn, .inl (cI, 4, .inl nu))]) [0, 2, 3, 4] rfl
                  have hKc := hK.sub (tys' := [(cI, .int)]) [1] rfl
                  refine pci (va_runV (As := [.int 1]) (rest := [.int (nI M), .ref y]) ⟨hx, hb, hml, hown, hg⟩ (c_M_kOf1 l D y ms mw mu mc mn mr mq md bi ne li sp q sz wa 0 en (nI 0) at0 lk cI su cu nu sm ct ng K hsu hcu hnu hc0 hn0 (by omega) hKb hK1 hK2) (cwV 1 hg (gV gw_638 gw_640 gs_21 gw_7 gw_641) rfl rfl rfl (by decide +kernel) ⟨Nat.le_of_ble_eq_true rfl, Nat.le_of_ble_eq_true rfl⟩) ⟨fun a U g mk q => by obtain ⟨q0, qP, qK⟩ := q; exact ⟨q0, qP, va_K.moved (u := U) (U := U.calling g mk a) (Vm.Alike.refl U.vm) qK⟩, va_recv hKc hPc (ci := 5) (q0 := 0) rfl rfl, fun U hU hW => ⟨rfl, by rw [hU]; exact hPc, va_K.moved hW.alike hKc⟩⟩ rfl rfl hl.1 rfl (lv_room (Nat.le_of_ble_eq_true rfl)) d_M_interrupt_105 (⟨Nat.le_of_ble_eq_true rfl, Nat.le_of_ble_eq_true rfl⟩)) ?_
                  refine lv_aload_n hx hb d_M_interrupt_108 rfl (lv_at hl 2 rfl) ?_
                  refine lv_iconst (v := 0) hx hb d_M_interrupt_109 (by decide) ?_
                  have hPc := hP.sub (ws' := [(y, .inr (5, [.int 0, .int (nI bi), .int (nI ne), .int (nI li), .int (nI sp), .int (nI q), .ref ms, .ref mw, .ref mu, .ref mc, .ref mn, .int en, .int (nI sz), .ref mr, .int (nI wa), .ref mq, .int (nI 0), .ref md, .int at0, .int lk])), (mw, .inl (cI, 2, .inl lw))]) [0, 1] rfl
                  have hKc := hK.sub (tys' := [(cI, .int)]) [1] rfl
                  refine pci (va_runV (As := [.int 0]) (rest := [.int (nI K), .int (nI M), .ref y]) ⟨hx, hb, hml, hown, hg⟩ (c_M_limitFor0 l D y ms mw mu mc mn mr mq md bi ne li sp q sz wa 0 en (nI 0) at0 lk cI lw rw hlw (by omega)) (cwV 1 hg (gV gw_642 gw_644 gs_22 gw_7 gw_645) rfl rfl rfl (by decide +kernel) ⟨Nat.le_of_ble_eq_true rfl, Nat.le_of_ble_eq_true rfl⟩) ⟨fun a U g mk q => by obtain ⟨q0, qP, qK⟩ := q; exact ⟨q0, qP, va_K.moved (u := U) (U := U.calling g mk a) (Vm.Alike.refl U.vm) qK⟩, va_recv hKc hPc (ci := 5) (q0 := 0) rfl rfl, fun U hU hW => ⟨rfl, by rw [hU]; exact hPc, va_K.moved hW.alike hKc⟩⟩ rfl rfl hl.1 rfl (lv_room (Nat.le_of_ble_eq_true rfl)) d_M_interrupt_110 (⟨Nat.le_of_ble_eq_true rfl, Nat.le_of_ble_eq_true rfl⟩)) ?_
                  have hPc := hP.sub (ws' := [(y, .inr (5, [.int 0, .int (nI bi), .int (nI ne), .int (nI li), .int (nI sp), .int (nI q), .ref ms, .ref mw, .ref mu, .ref mc, .ref mn, .int en, .int (nI sz), .ref mr, .int (nI wa), .ref mq, .int (nI 0), .ref md, .int at0, .int lk])), (md, .inl (cB, 400, .inl dr))]) [0, 6] rfl
                  have hDc := hD.sub (ws' := [(y, .inr (5, [.int 0, .int (nI bi), .int (nI ne), .int (nI li), .int (nI sp), .int (nI q), .ref ms, .ref mw, .ref mu, .ref mc, .ref mn, .int en, .int (nI sz), .ref mr, .int (nI wa), .ref mq, .int (nI 0), .ref md, .int at0, .int lk])), (md, .inl (cB, 400, .inl dr))]) [0, 6] (by decide) rfl
                  have hKc := hK.sub (tys' := [(cB, .byte)]) [0] rfl
                  refine mcv (va_runV (As := [.int (nI M), .int (nI K), .int (nI (li - 1 - rw))]) (rest := []) ⟨hx, hb, hml, hown, hg⟩ (c_M_layNumber l D y ms mw mu mc mn mr mq md bi ne li sp q sz wa 0 en (nI 0) at0 lk cB dr 0 M K (li - 1 - rw) (by omega) (by omega) (by omega) (by omega) (by omega) (by omega)) (cwV 3 hg (gV gw_594 gw_596 gs_13 gw_7 gw_597) rfl rfl rfl (by decide +kernel) ⟨Nat.le_of_ble_eq_true rfl, Nat.le_of_ble_eq_true rfl⟩) ⟨fun a U g mk q => by obtain ⟨q0, qP, qK, qD⟩ := q; exact ⟨q0, qP, va_K.moved (u := U) (U := U.calling g mk a) (Vm.Alike.refl U.vm) qK, qD⟩, va_recv hKc hPc (ci := 5) (q0 := 0) rfl rfl, fun U hU hW => ⟨rfl, by rw [hU]; exact hPc, va_K.moved hW.alike hKc, hDc.weaken (fun _ _ _ _ => trivial)⟩⟩ rfl rfl hl.1 rfl (lv_room (Nat.le_of_ble_eq_true rfl)) d_M_interrupt_113 (⟨Nat.le_of_ble_eq_true rfl, Nat.le_of_ble_eq_true rfl⟩)) hS hP hD [0, 6] rfl rfl rfl (fun H locs hP hD hS => ?_)
                  have hP : va_P D CLS [(y, .inr (5, [.int 0, .int (nI bi), .int (nI ne), .int (nI li), .int (nI sp), .int (nI q), .ref ms, .ref mw, .ref mu, .ref mc, .ref mn, .int en, .int (nI sz), .ref mr, .int (nI wa), .ref mq, .int (nI (0 + nlen q K M (li - 1 - rw - q - 1))), .ref md, .int at0, .int lk])), (mw, .inl (cI, 2, .inl lw)), (mu, .inl (cI, 4, .inl su)), (mc, .inl (cI, 4, .inl cu)), (mn, .inl (cI, 4, .inl nu)), (mr, .inl (cB, 6000, .inl wr)), (md, .inl (cB, 400, .inl (wnum dr q K M (li - 1 - rw - q - 1) 0)))] H := hP
                  have hD : va_D A [(y, .inr (5, [.int 0, .int (nI bi), .int (nI ne), .int (nI li), .int (nI sp), .int (nI q), .ref ms, .ref mw, .ref mu, .ref mc, .ref mn, .int en, .int (nI sz), .ref mr, .int (nI wa), .ref mq, .int (nI (0 + nlen q K M (li - 1 - rw - q - 1))), .ref md, .int at0, .int lk])), (mw, .inl (cI, 2, .inl lw)), (mu, .inl (cI, 4, .inl su)), (mc, .inl (cI, 4, .inl cu)), (mn, .inl (cI, 4, .inl nu)), (mr, .inl (cB, 6000, .inl wr)), (md, .inl (cB, 400, .inl (wnum dr q K M (li - 1 - rw - q - 1) 0)))] := hD
                  refine lv_aload_n hx hb d_M_interrupt_116 rfl (lv_at hl 2 rfl) ?_
                  refine lv_aload_n hx hb d_M_interrupt_117 rfl (lv_at hl 2 rfl) ?_
                  have hPc := hP.sub (ws' := [(y, .inr (5, [.int 0, .int (nI bi), .int (nI ne), .int (nI li), .int (nI sp), .int (nI q), .ref ms, .ref mw, .ref mu, .ref mc, .ref mn, .int en, .int (nI sz), .ref mr, .int (nI wa), .ref mq, .int (nI (0 + nlen q K M (li - 1 - rw - q - 1))), .ref md, .int at0, .int lk]))]) [0] rfl
                  have hKc := hK.sub (tys' := []) [] rfl
                  refine pci (va_runV (As := []) (rest := [.ref y]) ⟨hx, hb, hml, hown, hg⟩ (c_M_hasRoom l D y ms mw mu mc mn mr mq md bi ne li sp q sz wa 0 en (nI (0 + nlen q K M (li - 1 - rw - q - 1))) at0 lk (0 + nlen q K M (li - 1 - rw - q - 1)) hsz (by omega)) (cwV 0 hg (gV gw_606 gw_608 gs_16 gw_7 gw_609) rfl rfl rfl (by decide +kernel) ⟨Nat.le_of_ble_eq_true rfl, Nat.le_of_ble_eq_true rfl⟩) ⟨fun a U g mk q => by obtain ⟨q0, qP, qK⟩ := q; exact ⟨q0, qP, va_K.moved (u := U) (U := U.calling g mk a) (Vm.Alike.refl U.vm) qK⟩, va_recv hKc hPc (ci := 5) (q0 := 0) rfl rfl, fun U hU hW => ⟨rfl, by rw [hU]; exact hPc, va_K.moved hW.alike hKc⟩⟩ rfl rfl hl.1 rfl (lv_room (Nat.le_of_ble_eq_true rfl)) d_M_interrupt_118 (⟨Nat.le_of_ble_eq_true rfl, Nat.le_of_ble_eq_true rfl⟩)) ?_
                  refine tpi (y := 0) (if_neg (by omega)) ?_
                  refine lv_if_eq (tgt := 128) hx hb d_M_interrupt_121 (by decide) (fun c_14 => ?_) (fun c_14 => ?_)
                  · skip
                    refine lv_iconst (v := 3) hx hb d_M_interrupt_128 (by decide) ?_
                    refine va_put (D := D) (ci := 5) (v := .int 3) (ty := .int) (C := R_M) (T := T_M) (N := 20) hx hb hg in_M ty_M tok_M nm_M hown hK hP hD hS 0 rfl rfl 0 (by decide) (hg _ gw_524) (fun _ h9 => h9) rfl (by decide +kernel) (rfl) (rfl) (Nat.le_of_ble_eq_true rfl) d_M_interrupt_129 (fun H locs hP hD hS => ?_)
                    have hP : va_P D CLS [(y, .inr (5, [.int 3, .int (nI bi), .int (nI ne), .int (nI li), .int (nI sp), .int (nI q), .ref ms, .ref mw, .ref mu, .ref mc, .ref mn, .int en, .int (nI sz), .ref mr, .int (nI wa), .ref mq, .int (nI (0 + nlen q K M (li - 1 - rw - q - 1))), .ref md, .int at0, .int lk])), (mw, .inl (cI, 2, .inl lw)), (mu, .inl (cI, 4, .inl su)), (mc, .inl (cI, 4, .inl cu)), (mn, .inl (cI, 4, .inl nu)), (mr, .inl (cB, 6000, .inl wr)), (md, .inl (cB, 400, .inl (wnum dr q K M (li - 1 - rw - q - 1) 0)))] H := hP
                    have hD : va_D A [(y, .inr (5, [.int 3, .int (nI bi), .int (nI ne), .int (nI li), .int (nI sp), .int (nI q), .ref ms, .ref mw, .ref mu, .ref mc, .ref mn, .int en, .int (nI sz), .ref mr, .int (nI wa), .ref mq, .int (nI (0 + nlen q K M (li - 1 - rw - q - 1))), .ref md, .int at0, .int lk])), (mw, .inl (cI, 2, .inl lw)), (mu, .inl (cI, 4, .inl su)), (mc, .inl (cI, 4, .inl cu)), (mn, .inl (cI, 4, .inl nu)), (mr, .inl (cB, 6000, .inl wr)), (md, .inl (cB, 400, .inl (wnum dr q K M (li - 1 - rw - q - 1) 0)))] := hD
                    refine lv_aload_n hx hb d_M_interrupt_132 rfl (lv_at hl 2 rfl) ?_
                    refine va_get (D := D) (ci := 5) (v := .int 3) (C := R_M) (T := T_M) (N := 20) hx hb hg in_M hown hK hP 0 rfl rfl 0 (by decide) (hg _ gw_524) (fun _ h9 => h9) rfl d_M_interrupt_133 ?_
                    refine lv_if_le (tgt := 141) hx hb d_M_interrupt_136 (by decide) (fun c_15 => ?_) (fun c_15 => ?_)
                    · skip
                      exact absurd c_15 (by decide)
                    · skip
                      refine lv_iconst (v := 0) hx hb d_M_interrupt_139 (by decide) ?_
                      exact W.iret (v := 0) hx hb hr (fun t ht hW => ⟨rfl, by rw [ht]; exact hP, (hAe ▸ hS).F ht⟩) (hAe ▸ hS).2.2 d_M_interrupt_140
                  · skip
                    exact absurd rfl c_14
          · skip
            exact absurd rfl c_10
      · skip
        exact absurd (by decide) c_3
    · skip
      exact absurd c_2 (by decide)
  · skip
    exact absurd c_1 (by decide)
set_option maxHeartbeats 4000000 in
set_option maxRecDepth 100000 in
theorem c_M_interruptK (l : Launch) (D : va_G) (y ms mw mu mc mn mr mq md bi ne li sp q sz wa : Nat) (th en la at0 lk : Int32) (v0 v1 : Int32) (hbad : ¬ (v0 = 0 ∨ v0 = 1)) : Met l y_M_interrupt (WSY y_M_interrupt b_M_interrupt 5 (some .int)) ({ frames := 3, cells := 0, slots := 0, locals := 72 }) (va_Pc [.ref y, .int v0, .int v1] (fun U => va_P D CLS [(y, .inr (5, [.int th, .int (nI bi), .int (nI ne), .int (nI li), .int (nI sp), .int (nI q), .ref ms, .ref mw, .ref mu, .ref mc, .ref mn, .int en, .int (nI sz), .ref mr, .int (nI wa), .ref mq, .int la, .ref md, .int at0, .int lk]))] U.heap ∧ va_K D CLS [] U ∧ va_D (fun _ => True) [(y, .inr (5, [.int th, .int (nI bi), .int (nI ne), .int (nI li), .int (nI sp), .int (nI q), .ref ms, .ref mw, .ref mu, .ref mc, .ref mn, .int en, .int (nI sz), .ref mr, .int (nI wa), .ref mq, .int la, .ref md, .int at0, .int lk]))])) (QM (some (.int 0)) [(y, .inr (5, [.int th, .int (nI bi), .int (nI ne), .int (nI li), .int (nI sp), .int (nI q), .ref ms, .ref mw, .ref mu, .ref mc, .ref mn, .int en, .int (nI sz), .ref mr, .int (nI wa), .ref mq, .int la, .ref md, .int at0, .int lk]))] [(y, .inr (5, [.int 1, .int (nI bi), .int (nI ne), .int (nI li), .int (nI sp), .int (nI q), .ref ms, .ref mw, .ref mu, .ref mc, .ref mn, .int en, .int (nI sz), .ref mr, .int (nI wa), .ref mq, .int la, .ref md, .int at0, .int lk]))] D) 0 0 (ad [(y, .inr (5, [.int th, .int (nI bi), .int (nI ne), .int (nI li), .int (nI sp), .int (nI q), .ref ms, .ref mw, .ref mu, .ref mc, .ref mn, .int en, .int (nI sz), .ref mr, .int (nI wa), .ref mq, .int la, .ref md, .int at0, .int lk]))]) := by
  refine Met.ofW (cc := b_M_interrupt) (maxL := 5) (ret := (some .int)) (by decide) rfl ?_
  intro p e s m args below meth c s₁ B hml hv
  obtain ⟨rfl, hP, hK, hD0⟩ := hv
  have hx := B.exec
  have hb := B.bytes
  have hr := B.returns
  have hts := atoms_spec (ws := WSY y_M_interrupt b_M_interrupt 5 (some .int)) B.pre
  have hg : ∀ w ∈ GW, w.before _ s = true := fun w h => hts w (List.mem_cons_of_mem _ h)
  have hown : s.vm.findClass "LineGolombModel" = some m.cls := findClass_of_methodNamed B.named
  have hlocks := B.notSynchronized
  obtain ⟨A, hAe⟩ : ∃ A, A = ad [(y, .inr (5, [.int th, .int (nI bi), .int (nI ne), .int (nI li), .int (nI sp), .int (nI q), .ref ms, .ref mw, .ref mu, .ref mc, .ref mn, .int en, .int (nI sz), .ref mr, .int (nI wa), .ref mq, .int la, .ref md, .int at0, .int lk]))] := ⟨_, rfl⟩
  have hD : va_D A [(y, .inr (5, [.int th, .int (nI bi), .int (nI ne), .int (nI li), .int (nI sp), .int (nI q), .ref ms, .ref mw, .ref mu, .ref mc, .ref mn, .int en, .int (nI sz), .ref mr, .int (nI wa), .ref mq, .int la, .ref md, .int at0, .int lk]))] := by rw [hAe]; exact va_D_ad hD0
  have hS : va_S A s.heap s.heap [] := va_S.rf
  have hl := lv_entry ([.ref y, .int v0, .int v1]) (n := 5) (Nat.le_of_ble_eq_true rfl)
  rw [lg_entry_eq]
  generalize (lg_sl ([.ref y, .int v0, .int v1]) ++ List.replicate (5 - (lg_sl ([.ref y, .int v0, .int v1])).length) Slot.unset).toArray = ls at hl ⊢
  have hl : lv_has ls 5 [(0, .ref y), (1, .int v0), (2, .int v1)] := hl
  refine lv_aload_n hx hb d_M_interrupt_0 rfl (lv_at hl 0 rfl) ?_
  refine lv_aload_n hx hb d_M_interrupt_1 rfl (lv_at hl 0 rfl) ?_
  refine lv_iload_n hx hb d_M_interrupt_2 rfl (lv_at hl 1 rfl) ?_
  have hPc := hP.sub (ws' := [(y, .inr (5, [.int th, .int (nI bi), .int (nI ne), .int (nI li), .int (nI sp), .int (nI q), .ref ms, .ref mw, .ref mu, .ref mc, .ref mn, .int en, .int (nI sz), .ref mr, .int (nI wa), .ref mq, .int la, .ref md, .int at0, .int lk]))]) [0] rfl
  have hKc := hK.sub (tys' := []) [] rfl
  refine pci (va_runV (As := [.int v0]) (rest := [.ref y]) ⟨hx, hb, hml, hown, hg⟩ (c_M_isKind l D y ms mw mu mc mn mr mq md bi ne li sp q sz wa th en la at0 lk v0) (cwV 1 hg (gV gw_626 gw_628 gs_18 gw_7 gw_629) rfl rfl rfl (by decide +kernel) ⟨Nat.le_of_ble_eq_true rfl, Nat.le_of_ble_eq_true rfl⟩) ⟨fun a U g mk q => by obtain ⟨q0, qP, qK⟩ := q; exact ⟨q0, qP, va_K.moved (u := U) (U := U.calling g mk a) (Vm.Alike.refl U.vm) qK⟩, va_recv hKc hPc (ci := 5) (q0 := 0) rfl rfl, fun U hU hW => ⟨rfl, by rw [hU]; exact hPc, va_K.moved hW.alike hKc⟩⟩ rfl rfl hl.1 rfl (lv_room (Nat.le_of_ble_eq_true rfl)) d_M_interrupt_3 (⟨Nat.le_of_ble_eq_true rfl, Nat.le_of_ble_eq_true rfl⟩)) ?_
  refine tpi (y := 0) (if_neg hbad) ?_
  refine lv_if_ne (tgt := 13) hx hb d_M_interrupt_6 (by decide) (fun c_1 => ?_) (fun c_1 => ?_)
  · skip
    exact absurd rfl c_1
  · skip
    refine lv_iconst (v := 1) hx hb d_M_interrupt_9 (by decide) ?_
    refine lv_goto (tgt := 27) hx hb d_M_interrupt_10 (by decide) ?_
    refine va_put (D := D) (ci := 5) (v := .int 1) (ty := .int) (C := R_M) (T := T_M) (N := 20) hx hb hg in_M ty_M tok_M nm_M hown hK hP hD hS 0 rfl rfl 0 (by decide) (hg _ gw_524) (fun _ h9 => h9) rfl (by decide +kernel) (rfl) (rfl) (Nat.le_of_ble_eq_true rfl) d_M_interrupt_27 (fun H locs hP hD hS => ?_)
    have hP : va_P D CLS [(y, .inr (5, [.int 1, .int (nI bi), .int (nI ne), .int (nI li), .int (nI sp), .int (nI q), .ref ms, .ref mw, .ref mu, .ref mc, .ref mn, .int en, .int (nI sz), .ref mr, .int (nI wa), .ref mq, .int la, .ref md, .int at0, .int lk]))] H := hP
    have hD : va_D A [(y, .inr (5, [.int 1, .int (nI bi), .int (nI ne), .int (nI li), .int (nI sp), .int (nI q), .ref ms, .ref mw, .ref mu, .ref mc, .ref mn, .int en, .int (nI sz), .ref mr, .int (nI wa), .ref mq, .int la, .ref md, .int at0, .int lk]))] := hD
    refine lv_aload_n hx hb d_M_interrupt_30 rfl (lv_at hl 0 rfl) ?_
    refine va_get (D := D) (ci := 5) (v := .int 1) (C := R_M) (T := T_M) (N := 20) hx hb hg in_M hown hK hP 0 rfl rfl 0 (by decide) (hg _ gw_524) (fun _ h9 => h9) rfl d_M_interrupt_31 ?_
    refine lv_if_le (tgt := 39) hx hb d_M_interrupt_34 (by decide) (fun c_2 => ?_) (fun c_2 => ?_)
    · skip
      exact absurd c_2 (by decide)
    · skip
      refine lv_iconst (v := 0) hx hb d_M_interrupt_37 (by decide) ?_
      exact W.iret (v := 0) hx hb hr (fun t ht hW => ⟨rfl, by rw [ht]; exact hP, (hAe ▸ hS).F ht⟩) (hAe ▸ hS).2.2 d_M_interrupt_38
set_option maxHeartbeats 4000000 in
set_option maxRecDepth 100000 in
theorem c_M_interruptE0 (l : Launch) (D : va_G) (y ms mw mu mc mn mr mq md bi ne li sp q sz wa : Nat) (th en la at0 lk : Int32) (v1 : Int32) (hsp : sp ≤ 65536) (hbad : ¬ (-((sp / 2 : Nat) : Int) ≤ v1.toInt ∧ v1.toInt ≤ ((sp / 2 : Nat) : Int) ∧ (¬ v1 = 0 ∨ (0 : Int32) = 0))) : Met l y_M_interrupt (WSY y_M_interrupt b_M_interrupt 5 (some .int)) ({ frames := 3, cells := 0, slots := 0, locals := 72 }) (va_Pc [.ref y, .int 0, .int v1] (fun U => va_P D CLS [(y, .inr (5, [.int th, .int (nI bi), .int (nI ne), .int (nI li), .int (nI sp), .int (nI q), .ref ms, .ref mw, .ref mu, .ref mc, .ref mn, .int en, .int (nI sz), .ref mr, .int (nI wa), .ref mq, .int la, .ref md, .int at0, .int lk]))] U.heap ∧ va_K D CLS [] U ∧ va_D (fun _ => True) [(y, .inr (5, [.int th, .int (nI bi), .int (nI ne), .int (nI li), .int (nI sp), .int (nI q), .ref ms, .ref mw, .ref mu, .ref mc, .ref mn, .int en, .int (nI sz), .ref mr, .int (nI wa), .ref mq, .int la, .ref md, .int at0, .int lk]))])) (QM (some (.int 0)) [(y, .inr (5, [.int th, .int (nI bi), .int (nI ne), .int (nI li), .int (nI sp), .int (nI q), .ref ms, .ref mw, .ref mu, .ref mc, .ref mn, .int en, .int (nI sz), .ref mr, .int (nI wa), .ref mq, .int la, .ref md, .int at0, .int lk]))] [(y, .inr (5, [.int 2, .int (nI bi), .int (nI ne), .int (nI li), .int (nI sp), .int (nI q), .ref ms, .ref mw, .ref mu, .ref mc, .ref mn, .int en, .int (nI sz), .ref mr, .int (nI wa), .ref mq, .int la, .ref md, .int at0, .int lk]))] D) 0 0 (ad [(y, .inr (5, [.int th, .int (nI bi), .int (nI ne), .int (nI li), .int (nI sp), .int (nI q), .ref ms, .ref mw, .ref mu, .ref mc, .ref mn, .int en, .int (nI sz), .ref mr, .int (nI wa), .ref mq, .int la, .ref md, .int at0, .int lk]))]) := by
  refine Met.ofW (cc := b_M_interrupt) (maxL := 5) (ret := (some .int)) (by decide) rfl ?_
  intro p e s m args below meth c s₁ B hml hv
  obtain ⟨rfl, hP, hK, hD0⟩ := hv
  have hx := B.exec
  have hb := B.bytes
  have hr := B.returns
  have hts := atoms_spec (ws := WSY y_M_interrupt b_M_interrupt 5 (some .int)) B.pre
  have hg : ∀ w ∈ GW, w.before _ s = true := fun w h => hts w (List.mem_cons_of_mem _ h)
  have hown : s.vm.findClass "LineGolombModel" = some m.cls := findClass_of_methodNamed B.named
  have hlocks := B.notSynchronized
  obtain ⟨A, hAe⟩ : ∃ A, A = ad [(y, .inr (5, [.int th, .int (nI bi), .int (nI ne), .int (nI li), .int (nI sp), .int (nI q), .ref ms, .ref mw, .ref mu, .ref mc, .ref mn, .int en, .int (nI sz), .ref mr, .int (nI wa), .ref mq, .int la, .ref md, .int at0, .int lk]))] := ⟨_, rfl⟩
  have hD : va_D A [(y, .inr (5, [.int th, .int (nI bi), .int (nI ne), .int (nI li), .int (nI sp), .int (nI q), .ref ms, .ref mw, .ref mu, .ref mc, .ref mn, .int en, .int (nI sz), .ref mr, .int (nI wa), .ref mq, .int la, .ref md, .int at0, .int lk]))] := by rw [hAe]; exact va_D_ad hD0
  have hS : va_S A s.heap s.heap [] := va_S.rf
  have hl := lv_entry ([.ref y, .int 0, .int v1]) (n := 5) (Nat.le_of_ble_eq_true rfl)
  rw [lg_entry_eq]
  generalize (lg_sl ([.ref y, .int 0, .int v1]) ++ List.replicate (5 - (lg_sl ([.ref y, .int 0, .int v1])).length) Slot.unset).toArray = ls at hl ⊢
  have hl : lv_has ls 5 [(0, .ref y), (1, .int 0), (2, .int v1)] := hl
  refine lv_aload_n hx hb d_M_interrupt_0 rfl (lv_at hl 0 rfl) ?_
  refine lv_aload_n hx hb d_M_interrupt_1 rfl (lv_at hl 0 rfl) ?_
  refine lv_iload_n hx hb d_M_interrupt_2 rfl (lv_at hl 1 rfl) ?_
  have hPc := hP.sub (ws' := [(y, .inr (5, [.int th, .int (nI bi), .int (nI ne), .int (nI li), .int (nI sp), .int (nI q), .ref ms, .ref mw, .ref mu, .ref mc, .ref mn, .int en, .int (nI sz), .ref mr, .int (nI wa), .ref mq, .int la, .ref md, .int at0, .int lk]))]) [0] rfl
  have hKc := hK.sub (tys' := []) [] rfl
  refine pci (va_runV (As := [.int 0]) (rest := [.ref y]) ⟨hx, hb, hml, hown, hg⟩ (c_M_isKind l D y ms mw mu mc mn mr mq md bi ne li sp q sz wa th en la at0 lk 0) (cwV 1 hg (gV gw_626 gw_628 gs_18 gw_7 gw_629) rfl rfl rfl (by decide +kernel) ⟨Nat.le_of_ble_eq_true rfl, Nat.le_of_ble_eq_true rfl⟩) ⟨fun a U g mk q => by obtain ⟨q0, qP, qK⟩ := q; exact ⟨q0, qP, va_K.moved (u := U) (U := U.calling g mk a) (Vm.Alike.refl U.vm) qK⟩, va_recv hKc hPc (ci := 5) (q0 := 0) rfl rfl, fun U hU hW => ⟨rfl, by rw [hU]; exact hPc, va_K.moved hW.alike hKc⟩⟩ rfl rfl hl.1 rfl (lv_room (Nat.le_of_ble_eq_true rfl)) d_M_interrupt_3 (⟨Nat.le_of_ble_eq_true rfl, Nat.le_of_ble_eq_true rfl⟩)) ?_
  refine tpi (y := 1) (by decide) ?_
  refine lv_if_ne (tgt := 13) hx hb d_M_interrupt_6 (by decide) (fun c_1 => ?_) (fun c_1 => ?_)
  · skip
    refine lv_aload_n hx hb d_M_interrupt_13 rfl (lv_at hl 0 rfl) ?_
    refine lv_iload_n hx hb d_M_interrupt_14 rfl (lv_at hl 1 rfl) ?_
    refine lv_iload_n hx hb d_M_interrupt_15 rfl (lv_at hl 2 rfl) ?_
    have hPc := hP.sub (ws' := [(y, .inr (5, [.int th, .int (nI bi), .int (nI ne), .int (nI li), .int (nI sp), .int (nI q), .ref ms, .ref mw, .ref mu, .ref mc, .ref mn, .int en, .int (nI sz), .ref mr, .int (nI wa), .ref mq, .int la, .ref md, .int at0, .int lk]))]) [0] rfl
    have hKc := hK.sub (tys' := []) [] rfl
    refine pci (va_runV (As := [.int 0, .int v1]) (rest := [.ref y]) ⟨hx, hb, hml, hown, hg⟩ (c_M_isError l D y ms mw mu mc mn mr mq md bi ne li sp q sz wa th en la at0 lk 0 v1 (by omega)) (cwV 2 hg (gV gw_630 gw_632 gs_19 gw_7 gw_633) rfl rfl rfl (by decide +kernel) ⟨Nat.le_of_ble_eq_true rfl, Nat.le_of_ble_eq_true rfl⟩) ⟨fun a U g mk q => by obtain ⟨q0, qP, qK⟩ := q; exact ⟨q0, qP, va_K.moved (u := U) (U := U.calling g mk a) (Vm.Alike.refl U.vm) qK⟩, va_recv hKc hPc (ci := 5) (q0 := 0) rfl rfl, fun U hU hW => ⟨rfl, by rw [hU]; exact hPc, va_K.moved hW.alike hKc⟩⟩ rfl rfl hl.1 rfl (lv_room (Nat.le_of_ble_eq_true rfl)) d_M_interrupt_16 (⟨Nat.le_of_ble_eq_true rfl, Nat.le_of_ble_eq_true rfl⟩)) ?_
    refine tpi (y := 0) (if_neg hbad) ?_
    refine lv_if_ne (tgt := 26) hx hb d_M_interrupt_19 (by decide) (fun c_2 => ?_) (fun c_2 => ?_)
    · skip
      exact absurd rfl c_2
    · skip
      refine lv_iconst (v := 2) hx hb d_M_interrupt_22 (by decide) ?_
      refine lv_goto (tgt := 27) hx hb d_M_interrupt_23 (by decide) ?_
      refine va_put (D := D) (ci := 5) (v := .int 2) (ty := .int) (C := R_M) (T := T_M) (N := 20) hx hb hg in_M ty_M tok_M nm_M hown hK hP hD hS 0 rfl rfl 0 (by decide) (hg _ gw_524) (fun _ h9 => h9) rfl (by decide +kernel) (rfl) (rfl) (Nat.le_of_ble_eq_true rfl) d_M_interrupt_27 (fun H locs hP hD hS => ?_)
      have hP : va_P D CLS [(y, .inr (5, [.int 2, .int (nI bi), .int (nI ne), .int (nI li), .int (nI sp), .int (nI q), .ref ms, .ref mw, .ref mu, .ref mc, .ref mn, .int en, .int (nI sz), .ref mr, .int (nI wa), .ref mq, .int la, .ref md, .int at0, .int lk]))] H := hP
      have hD : va_D A [(y, .inr (5, [.int 2, .int (nI bi), .int (nI ne), .int (nI li), .int (nI sp), .int (nI q), .ref ms, .ref mw, .ref mu, .ref mc, .ref mn, .int en, .int (nI sz), .ref mr, .int (nI wa), .ref mq, .int la, .ref md, .int at0, .int lk]))] := hD
      refine lv_aload_n hx hb d_M_interrupt_30 rfl (lv_at hl 0 rfl) ?_
      refine va_get (D := D) (ci := 5) (v := .int 2) (C := R_M) (T := T_M) (N := 20) hx hb hg in_M hown hK hP 0 rfl rfl 0 (by decide) (hg _ gw_524) (fun _ h9 => h9) rfl d_M_interrupt_31 ?_
      refine lv_if_le (tgt := 39) hx hb d_M_interrupt_34 (by decide) (fun c_3 => ?_) (fun c_3 => ?_)
      · skip
        exact absurd c_3 (by decide)
      · skip
        refine lv_iconst (v := 0) hx hb d_M_interrupt_37 (by decide) ?_
        exact W.iret (v := 0) hx hb hr (fun t ht hW => ⟨rfl, by rw [ht]; exact hP, (hAe ▸ hS).F ht⟩) (hAe ▸ hS).2.2 d_M_interrupt_38
  · skip
    exact absurd c_1 (by decide)
set_option maxHeartbeats 4000000 in
set_option maxRecDepth 100000 in
theorem c_M_interruptE1 (l : Launch) (D : va_G) (y ms mw mu mc mn mr mq md bi ne li sp q sz wa : Nat) (th en la at0 lk : Int32) (v1 : Int32) (hsp : sp ≤ 65536) (hbad : ¬ (-((sp / 2 : Nat) : Int) ≤ v1.toInt ∧ v1.toInt ≤ ((sp / 2 : Nat) : Int) ∧ (¬ v1 = 0 ∨ (1 : Int32) = 0))) : Met l y_M_interrupt (WSY y_M_interrupt b_M_interrupt 5 (some .int)) ({ frames := 3, cells := 0, slots := 0, locals := 72 }) (va_Pc [.ref y, .int 1, .int v1] (fun U => va_P D CLS [(y, .inr (5, [.int th, .int (nI bi), .int (nI ne), .int (nI li), .int (nI sp), .int (nI q), .ref ms, .ref mw, .ref mu, .ref mc, .ref mn, .int en, .int (nI sz), .ref mr, .int (nI wa), .ref mq, .int la, .ref md, .int at0, .int lk]))] U.heap ∧ va_K D CLS [] U ∧ va_D (fun _ => True) [(y, .inr (5, [.int th, .int (nI bi), .int (nI ne), .int (nI li), .int (nI sp), .int (nI q), .ref ms, .ref mw, .ref mu, .ref mc, .ref mn, .int en, .int (nI sz), .ref mr, .int (nI wa), .ref mq, .int la, .ref md, .int at0, .int lk]))])) (QM (some (.int 0)) [(y, .inr (5, [.int th, .int (nI bi), .int (nI ne), .int (nI li), .int (nI sp), .int (nI q), .ref ms, .ref mw, .ref mu, .ref mc, .ref mn, .int en, .int (nI sz), .ref mr, .int (nI wa), .ref mq, .int la, .ref md, .int at0, .int lk]))] [(y, .inr (5, [.int 2, .int (nI bi), .int (nI ne), .int (nI li), .int (nI sp), .int (nI q), .ref ms, .ref mw, .ref mu, .ref mc, .ref mn, .int en, .int (nI sz), .ref mr, .int (nI wa), .ref mq, .int la, .ref md, .int at0, .int lk]))] D) 0 0 (ad [(y, .inr (5, [.int th, .int (nI bi), .int (nI ne), .int (nI li), .int (nI sp), .int (nI q), .ref ms, .ref mw, .ref mu, .ref mc, .ref mn, .int en, .int (nI sz), .ref mr, .int (nI wa), .ref mq, .int la, .ref md, .int at0, .int lk]))]) := by
  refine Met.ofW (cc := b_M_interrupt) (maxL := 5) (ret := (some .int)) (by decide) rfl ?_
  intro p e s m args below meth c s₁ B hml hv
  obtain ⟨rfl, hP, hK, hD0⟩ := hv
  have hx := B.exec
  have hb := B.bytes
  have hr := B.returns
  have hts := atoms_spec (ws := WSY y_M_interrupt b_M_interrupt 5 (some .int)) B.pre
  have hg : ∀ w ∈ GW, w.before _ s = true := fun w h => hts w (List.mem_cons_of_mem _ h)
  have hown : s.vm.findClass "LineGolombModel" = some m.cls := findClass_of_methodNamed B.named
  have hlocks := B.notSynchronized
  obtain ⟨A, hAe⟩ : ∃ A, A = ad [(y, .inr (5, [.int th, .int (nI bi), .int (nI ne), .int (nI li), .int (nI sp), .int (nI q), .ref ms, .ref mw, .ref mu, .ref mc, .ref mn, .int en, .int (nI sz), .ref mr, .int (nI wa), .ref mq, .int la, .ref md, .int at0, .int lk]))] := ⟨_, rfl⟩
  have hD : va_D A [(y, .inr (5, [.int th, .int (nI bi), .int (nI ne), .int (nI li), .int (nI sp), .int (nI q), .ref ms, .ref mw, .ref mu, .ref mc, .ref mn, .int en, .int (nI sz), .ref mr, .int (nI wa), .ref mq, .int la, .ref md, .int at0, .int lk]))] := by rw [hAe]; exact va_D_ad hD0
  have hS : va_S A s.heap s.heap [] := va_S.rf
  have hl := lv_entry ([.ref y, .int 1, .int v1]) (n := 5) (Nat.le_of_ble_eq_true rfl)
  rw [lg_entry_eq]
  generalize (lg_sl ([.ref y, .int 1, .int v1]) ++ List.replicate (5 - (lg_sl ([.ref y, .int 1, .int v1])).length) Slot.unset).toArray = ls at hl ⊢
  have hl : lv_has ls 5 [(0, .ref y), (1, .int 1), (2, .int v1)] := hl
  refine lv_aload_n hx hb d_M_interrupt_0 rfl (lv_at hl 0 rfl) ?_
  refine lv_aload_n hx hb d_M_interrupt_1 rfl (lv_at hl 0 rfl) ?_
  refine lv_iload_n hx hb d_M_interrupt_2 rfl (lv_at hl 1 rfl) ?_
  have hPc := hP.sub (ws' := [(y, .inr (5, [.int th, .int (nI bi), .int (nI ne), .int (nI li), .int (nI sp), .int (nI q), .ref ms, .ref mw, .ref mu, .ref mc, .ref mn, .int en, .int (nI sz), .ref mr, .int (nI wa), .ref mq, .int la, .ref md, .int at0, .int lk]))]) [0] rfl
  have hKc := hK.sub (tys' := []) [] rfl
  refine pci (va_runV (As := [.int 1]) (rest := [.ref y]) ⟨hx, hb, hml, hown, hg⟩ (c_M_isKind l D y ms mw mu mc mn mr mq md bi ne li sp q sz wa th en la at0 lk 1) (cwV 1 hg (gV gw_626 gw_628 gs_18 gw_7 gw_629) rfl rfl rfl (by decide +kernel) ⟨Nat.le_of_ble_eq_true rfl, Nat.le_of_ble_eq_true rfl⟩) ⟨fun a U g mk q => by obtain ⟨q0, qP, qK⟩ := q; exact ⟨q0, qP, va_K.moved (u := U) (U := U.calling g mk a) (Vm.Alike.refl U.vm) qK⟩, va_recv hKc hPc (ci := 5) (q0 := 0) rfl rfl, fun U hU hW => ⟨rfl, by rw [hU]; exact hPc, va_K.moved hW.alike hKc⟩⟩ rfl rfl hl.1 rfl (lv_room (Nat.le_of_ble_eq_true rfl)) d_M_interrupt_3 (⟨Nat.le_of_ble_eq_true rfl, Nat.le_of_ble_eq_true rfl⟩)) ?_
  refine tpi (y := 1) (by decide) ?_
  refine lv_if_ne (tgt := 13) hx hb d_M_interrupt_6 (by decide) (fun c_1 => ?_) (fun c_1 => ?_)
  · skip
    refine lv_aload_n hx hb d_M_interrupt_13 rfl (lv_at hl 0 rfl) ?_
    refine lv_iload_n hx hb d_M_interrupt_14 rfl (lv_at hl 1 rfl) ?_
    refine lv_iload_n hx hb d_M_interrupt_15 rfl (lv_at hl 2 rfl) ?_
    have hPc := hP.sub (ws' := [(y, .inr (5, [.int th, .int (nI bi), .int (nI ne), .int (nI li), .int (nI sp), .int (nI q), .ref ms, .ref mw, .ref mu, .ref mc, .ref mn, .int en, .int (nI sz), .ref mr, .int (nI wa), .ref mq, .int la, .ref md, .int at0, .int lk]))]) [0] rfl
    have hKc := hK.sub (tys' := []) [] rfl
    refine pci (va_runV (As := [.int 1, .int v1]) (rest := [.ref y]) ⟨hx, hb, hml, hown, hg⟩ (c_M_isError l D y ms mw mu mc mn mr mq md bi ne li sp q sz wa th en la at0 lk 1 v1 (by omega)) (cwV 2 hg (gV gw_630 gw_632 gs_19 gw_7 gw_633) rfl rfl rfl (by decide +kernel) ⟨Nat.le_of_ble_eq_true rfl, Nat.le_of_ble_eq_true rfl⟩) ⟨fun a U g mk q => by obtain ⟨q0, qP, qK⟩ := q; exact ⟨q0, qP, va_K.moved (u := U) (U := U.calling g mk a) (Vm.Alike.refl U.vm) qK⟩, va_recv hKc hPc (ci := 5) (q0 := 0) rfl rfl, fun U hU hW => ⟨rfl, by rw [hU]; exact hPc, va_K.moved hW.alike hKc⟩⟩ rfl rfl hl.1 rfl (lv_room (Nat.le_of_ble_eq_true rfl)) d_M_interrupt_16 (⟨Nat.le_of_ble_eq_true rfl, Nat.le_of_ble_eq_true rfl⟩)) ?_
    refine tpi (y := 0) (if_neg hbad) ?_
    refine lv_if_ne (tgt := 26) hx hb d_M_interrupt_19 (by decide) (fun c_2 => ?_) (fun c_2 => ?_)
    · skip
      exact absurd rfl c_2
    · skip
      refine lv_iconst (v := 2) hx hb d_M_interrupt_22 (by decide) ?_
      refine lv_goto (tgt := 27) hx hb d_M_interrupt_23 (by decide) ?_
      refine va_put (D := D) (ci := 5) (v := .int 2) (ty := .int) (C := R_M) (T := T_M) (N := 20) hx hb hg in_M ty_M tok_M nm_M hown hK hP hD hS 0 rfl rfl 0 (by decide) (hg _ gw_524) (fun _ h9 => h9) rfl (by decide +kernel) (rfl) (rfl) (Nat.le_of_ble_eq_true rfl) d_M_interrupt_27 (fun H locs hP hD hS => ?_)
      have hP : va_P D CLS [(y, .inr (5, [.int 2, .int (nI bi), .int (nI ne), .int (nI li), .int (nI sp), .int (nI q), .ref ms, .ref mw, .ref mu, .ref mc, .ref mn, .int en, .int (nI sz), .ref mr, .int (nI wa), .ref mq, .int la, .ref md, .int at0, .int lk]))] H := hP
      have hD : va_D A [(y, .inr (5, [.int 2, .int (nI bi), .int (nI ne), .int (nI li), .int (nI sp), .int (nI q), .ref ms, .ref mw, .ref mu, .ref mc, .ref mn, .int en, .int (nI sz), .ref mr, .int (nI wa), .ref mq, .int la, .ref md, .int at0, .int lk]))] := hD
      refine lv_aload_n hx hb d_M_interrupt_30 rfl (lv_at hl 0 rfl) ?_
      refine va_get (D := D) (ci := 5) (v := .int 2) (C := R_M) (T := T_M) (N := 20) hx hb hg in_M hown hK hP 0 rfl rfl 0 (by decide) (hg _ gw_524) (fun _ h9 => h9) rfl d_M_interrupt_31 ?_
      refine lv_if_le (tgt := 39) hx hb d_M_interrupt_34 (by decide) (fun c_3 => ?_) (fun c_3 => ?_)
      · skip
        exact absurd c_3 (by decide)
      · skip
        refine lv_iconst (v := 0) hx hb d_M_interrupt_37 (by decide) ?_
        exact W.iret (v := 0) hx hb hr (fun t ht hW => ⟨rfl, by rw [ht]; exact hP, (hAe ▸ hS).F ht⟩) (hAe ▸ hS).2.2 d_M_interrupt_38
  · skip
    exact absurd c_1 (by decide)
set_option maxHeartbeats 4000000 in
set_option maxRecDepth 100000 in
theorem c_M_pass (l : Launch) (D : va_G) (y ms mw mu mc mn mr mq md bi ne li sp q sz wa : Nat) (th en la at0 lk : Int32) (cB : ClassId) (wr wq : Nat → Int32) (i0 mx : Nat) (hsz : sz ≤ 6000) (hwa : wa ≤ 1000) (hrb : ∀ j, j < sz → wr j = 0 ∨ wr j = 1) (hi : i0 ≤ sz) (hmx : mx < 2 ^ 31) : Met l y_M_pass (WSY y_M_pass b_M_pass 5 (some .int)) ({ frames := 1, cells := 0, slots := 0, locals := 25 }) (va_Pc [.ref y, .int (nI i0), .int (nI mx)] (fun U => va_P D CLS [(y, .inr (5, [.int th, .int (nI bi), .int (nI ne), .int (nI li), .int (nI sp), .int (nI q), .ref ms, .ref mw, .ref mu, .ref mc, .ref mn, .int en, .int (nI sz), .ref mr, .int (nI wa), .ref mq, .int la, .ref md, .int at0, .int lk])), (mr, .inl (cB, 6000, .inl wr)), (mq, .inl (cB, 1000, .inl wq))] U.heap ∧ va_K D CLS [(cB, .byte)] U ∧ va_D (fun _ => True) [(y, .inr (5, [.int th, .int (nI bi), .int (nI ne), .int (nI li), .int (nI sp), .int (nI q), .ref ms, .ref mw, .ref mu, .ref mc, .ref mn, .int en, .int (nI sz), .ref mr, .int (nI wa), .ref mq, .int la, .ref md, .int at0, .int lk])), (mr, .inl (cB, 6000, .inl wr)), (mq, .inl (cB, 1000, .inl wq))])) (QM (some (.int (nI (min mx (min (sz - i0) (1000 - wa)))))) [(y, .inr (5, [.int th, .int (nI bi), .int (nI ne), .int (nI li), .int (nI sp), .int (nI q), .ref ms, .ref mw, .ref mu, .ref mc, .ref mn, .int en, .int (nI sz), .ref mr, .int (nI wa), .ref mq, .int la, .ref md, .int at0, .int lk])), (mr, .inl (cB, 6000, .inl wr)), (mq, .inl (cB, 1000, .inl wq))] [(y, .inr (5, [.int 0, .int (nI bi), .int (nI ne), .int (nI li), .int (nI sp), .int (nI q), .ref ms, .ref mw, .ref mu, .ref mc, .ref mn, .int en, .int (nI sz), .ref mr, .int (nI (wa + (min mx (min (sz - i0) (1000 - wa))))), .ref mq, .int la, .ref md, .int at0, .int lk])), (mr, .inl (cB, 6000, .inl wr)), (mq, .inl (cB, 1000, .inl (mpq wq wa wr i0 (min mx (min (sz - i0) (1000 - wa))))))] D) 0 0 (ad [(y, .inr (5, [.int th, .int (nI bi), .int (nI ne), .int (nI li), .int (nI sp), .int (nI q), .ref ms, .ref mw, .ref mu, .ref mc, .ref mn, .int en, .int (nI sz), .ref mr, .int (nI wa), .ref mq, .int la, .ref md, .int at0, .int lk])), (mr, .inl (cB, 6000, .inl wr)), (mq, .inl (cB, 1000, .inl wq))]) := by
  refine Met.ofW (cc := b_M_pass) (maxL := 5) (ret := (some .int)) (by decide) rfl ?_
  intro p e s m args below meth c s₁ B hml hv
  obtain ⟨rfl, hP, hK, hD0⟩ := hv
  have hx := B.exec
  have hb := B.bytes
  have hr := B.returns
  have hts := atoms_spec (ws := WSY y_M_pass b_M_pass 5 (some .int)) B.pre
  have hg : ∀ w ∈ GW, w.before _ s = true := fun w h => hts w (List.mem_cons_of_mem _ h)
  have hown : s.vm.findClass "LineGolombModel" = some m.cls := findClass_of_methodNamed B.named
  have hlocks := B.notSynchronized
  obtain ⟨A, hAe⟩ : ∃ A, A = ad [(y, .inr (5, [.int th, .int (nI bi), .int (nI ne), .int (nI li), .int (nI sp), .int (nI q), .ref ms, .ref mw, .ref mu, .ref mc, .ref mn, .int en, .int (nI sz), .ref mr, .int (nI wa), .ref mq, .int la, .ref md, .int at0, .int lk])), (mr, .inl (cB, 6000, .inl wr)), (mq, .inl (cB, 1000, .inl wq))] := ⟨_, rfl⟩
  have hD : va_D A [(y, .inr (5, [.int th, .int (nI bi), .int (nI ne), .int (nI li), .int (nI sp), .int (nI q), .ref ms, .ref mw, .ref mu, .ref mc, .ref mn, .int en, .int (nI sz), .ref mr, .int (nI wa), .ref mq, .int la, .ref md, .int at0, .int lk])), (mr, .inl (cB, 6000, .inl wr)), (mq, .inl (cB, 1000, .inl wq))] := by rw [hAe]; exact va_D_ad hD0
  have hS : va_S A s.heap s.heap [] := va_S.rf
  have hl := lv_entry ([.ref y, .int (nI i0), .int (nI mx)]) (n := 5) (Nat.le_of_ble_eq_true rfl)
  rw [lg_entry_eq]
  generalize (lg_sl ([.ref y, .int (nI i0), .int (nI mx)]) ++ List.replicate (5 - (lg_sl ([.ref y, .int (nI i0), .int (nI mx)])).length) Slot.unset).toArray = ls at hl ⊢
  have hl : lv_has ls 5 [(0, .ref y), (1, .int (nI i0)), (2, .int (nI mx))] := hl
  refine lv_aload_n hx hb d_M_pass_0 rfl (lv_at hl 0 rfl) ?_
  refine lv_iload_n hx hb d_M_pass_1 rfl (lv_at hl 1 rfl) ?_
  refine lv_if_lt (tgt := 13) hx hb d_M_pass_2 (by decide) (fun c_1 => ?_) (fun c_1 => ?_)
  · skip
    exact absurd c_1 (nI_pos (by omega))
  · skip
    refine lv_iload_n hx hb d_M_pass_5 rfl (lv_at hl 1 rfl) ?_
    refine lv_aload_n hx hb d_M_pass_6 rfl (lv_at hl 0 rfl) ?_
    refine va_get (D := D) (ci := 5) (v := .int (nI sz)) (C := R_M) (T := T_M) (N := 20) hx hb hg in_M hown hK hP 0 rfl rfl 12 (by decide) (hg _ gw_536) (fun _ h9 => h9) rfl d_M_pass_7 ?_
    refine lv_icmp_le (tgt := 17) hx hb d_M_pass_10 (by decide) (fun c_2 => ?_) (fun c_2 => ?_)
    · skip
      refine lv_iload_n hx hb d_M_pass_17 rfl (lv_at hl 2 rfl) ?_
      refine lv_if_ge (tgt := 25) hx hb d_M_pass_18 (by decide) (fun c_3 => ?_) (fun c_3 => ?_)
      · skip
        refine lv_iconst (v := 0) hx hb d_M_pass_25 (by decide) ?_
        refine va_put (D := D) (ci := 5) (v := .int 0) (ty := .int) (C := R_M) (T := T_M) (N := 20) hx hb hg in_M ty_M tok_M nm_M hown hK hP hD hS 0 rfl rfl 0 (by decide) (hg _ gw_524) (fun _ h9 => h9) rfl (by decide +kernel) (rfl) (rfl) (Nat.le_of_ble_eq_true rfl) d_M_pass_26 (fun H locs hP hD hS => ?_)
        have hP : va_P D CLS [(y, .inr (5, [.int 0, .int (nI bi), .int (nI ne), .int (nI li), .int (nI sp), .int (nI q), .ref ms, .ref mw, .ref mu, .ref mc, .ref mn, .int en, .int (nI sz), .ref mr, .int (nI wa), .ref mq, .int la, .ref md, .int at0, .int lk])), (mr, .inl (cB, 6000, .inl wr)), (mq, .inl (cB, 1000, .inl wq))] H := hP
        have hD : va_D A [(y, .inr (5, [.int 0, .int (nI bi), .int (nI ne), .int (nI li), .int (nI sp), .int (nI q), .ref ms, .ref mw, .ref mu, .ref mc, .ref mn, .int en, .int (nI sz), .ref mr, .int (nI wa), .ref mq, .int la, .ref md, .int at0, .int lk])), (mr, .inl (cB, 6000, .inl wr)), (mq, .inl (cB, 1000, .inl wq))] := hD
        refine lv_aload_n hx hb d_M_pass_29 rfl (lv_at hl 0 rfl) ?_
        refine va_get (D := D) (ci := 5) (v := .int 0) (C := R_M) (T := T_M) (N := 20) hx hb hg in_M hown hK hP 0 rfl rfl 0 (by decide) (hg _ gw_524) (fun _ h9 => h9) rfl d_M_pass_30 ?_
        refine lv_if_le (tgt := 38) hx hb d_M_pass_33 (by decide) (fun c_4 => ?_) (fun c_4 => ?_)
        · skip
          have hpp : (min mx (min (sz - i0) (1000 - wa))) ≤ mx ∧ (min mx (min (sz - i0) (1000 - wa))) ≤ sz - i0 ∧ (min mx (min (sz - i0) (1000 - wa))) ≤ 1000 - wa ∧ ((min mx (min (sz - i0) (1000 - wa))) = mx ∨ (min mx (min (sz - i0) (1000 - wa))) = sz - i0 ∨ (min mx (min (sz - i0) (1000 - wa))) = 1000 - wa) := by omega
          generalize (min mx (min (sz - i0) (1000 - wa))) = pp at hpp ⊢
          refine lv_iconst (v := 0) hx hb d_M_pass_38 (by decide) ?_
          refine tpi (y := nI 0) (rfl) ?_
          refine lv_istore_n (lv' := [(3, .int (nI 0)), (0, .ref y), (1, .int (nI i0)), (2, .int (nI mx))]) hx hb d_M_pass_39 rfl hl (by decide) rfl (fun ls hl => ?_)
          have loop : ∀ (d k : Nat), k + d = pp → ∀ (H : Heap) (locs : List Loc), va_P D CLS [(y, .inr (5, [.int 0, .int (nI bi), .int (nI ne), .int (nI li), .int (nI sp), .int (nI q), .ref ms, .ref mw, .ref mu, .ref mc, .ref mn, .int en, .int (nI sz), .ref mr, .int (nI (wa + k)), .ref mq, .int la, .ref md, .int at0, .int lk])), (mr, .inl (cB, 6000, .inl wr)), (mq, .inl (cB, 1000, .inl (mpq wq wa wr i0 k)))] H → va_D A [(y, .inr (5, [.int 0, .int (nI bi), .int (nI ne), .int (nI li), .int (nI sp), .int (nI q), .ref ms, .ref mw, .ref mu, .ref mc, .ref mn, .int en, .int (nI sz), .ref mr, .int (nI (wa + k)), .ref mq, .int la, .ref md, .int at0, .int lk])), (mr, .inl (cB, 6000, .inl wr)), (mq, .inl (cB, 1000, .inl (mpq wq wa wr i0 k)))] → va_S A s.heap H locs → ∀ (ls : Array Slot), lv_has ls 5 [(3, .int (nI k)), (0, .ref y), (1, .int (nI i0)), (2, .int (nI mx))] → W p l e (headSpec (WSY y_M_pass b_M_pass 5 (some .int)) ({ frames := 1, cells := 0, slots := 0, locals := 25 })).room s m ([.ref y, .int (nI i0), .int (nI mx)] : List Value).toArray below meth c H locs 0 0 (MQ below (QM (some (.int (nI pp))) [(y, .inr (5, [.int th, .int (nI bi), .int (nI ne), .int (nI li), .int (nI sp), .int (nI q), .ref ms, .ref mw, .ref mu, .ref mc, .ref mn, .int en, .int (nI sz), .ref mr, .int (nI wa), .ref mq, .int la, .ref md, .int at0, .int lk])), (mr, .inl (cB, 6000, .inl wr)), (mq, .inl (cB, 1000, .inl wq))] [(y, .inr (5, [.int 0, .int (nI bi), .int (nI ne), .int (nI li), .int (nI sp), .int (nI q), .ref ms, .ref mw, .ref mu, .ref mc, .ref mn, .int en, .int (nI sz), .ref mr, .int (nI (wa + pp)), .ref mq, .int la, .ref md, .int at0, .int lk])), (mr, .inl (cB, 6000, .inl wr)), (mq, .inl (cB, 1000, .inl (mpq wq wa wr i0 pp)))] D) ([.ref y, .int (nI i0), .int (nI mx)] : List Value).toArray s 0 0 (ad [(y, .inr (5, [.int th, .int (nI bi), .int (nI ne), .int (nI li), .int (nI sp), .int (nI q), .ref ms, .ref mw, .ref mu, .ref mc, .ref mn, .int en, .int (nI sz), .ref mr, .int (nI wa), .ref mq, .int la, .ref md, .int at0, .int lk])), (mr, .inl (cB, 6000, .inl wr)), (mq, .inl (cB, 1000, .inl wq))])) (F0 m 40 ls []) := by
            intro d
            induction d with
            | zero =>
              intro k hk H locs hP hD hS ls hl
              obtain rfl : pp = k := by omega
              refine lv_iload_n hx hb d_M_pass_40 rfl (lv_at hl 0 rfl) ?_
              refine lv_iload_n hx hb d_M_pass_41 rfl (lv_at hl 3 rfl) ?_
              refine lv_icmp_ge (tgt := 85) hx hb d_M_pass_42 (by decide) (fun c_5 => ?_) (fun c_5 => ?_)
              · skip
                refine lv_iload_n hx hb d_M_pass_85 rfl (lv_at hl 0 rfl) ?_
                exact W.iret (v := nI pp) hx hb hr (fun t ht hW => ⟨rfl, by rw [ht]; exact hP, (hAe ▸ hS).F ht⟩) (hAe ▸ hS).2.2 d_M_pass_86
              · skip
                have g3 : ¬ mx ≤ pp := fun q9 => c_5 (nI_le q9 (by omega))
                refine lv_iload_n hx hb d_M_pass_45 rfl (lv_at hl 2 rfl) ?_
                refine lv_iload_n hx hb d_M_pass_46 rfl (lv_at hl 0 rfl) ?_
                refine lv_iadd hx hb d_M_pass_47 ?_
                refine tpi (y := nI (i0 + pp)) (nI_add _ _) ?_
                refine lv_aload_n hx hb d_M_pass_48 rfl (lv_at hl 1 rfl) ?_
                refine va_get (D := D) (ci := 5) (v := .int (nI sz)) (C := R_M) (T := T_M) (N := 20) hx hb hg in_M hown hK hP 0 rfl rfl 12 (by decide) (hg _ gw_536) (fun _ h9 => h9) rfl d_M_pass_49 ?_
                refine lv_icmp_ge (tgt := 85) hx hb d_M_pass_52 (by decide) (fun c_6 => ?_) (fun c_6 => ?_)
                · skip
                  refine lv_iload_n hx hb d_M_pass_85 rfl (lv_at hl 0 rfl) ?_
                  exact W.iret (v := nI pp) hx hb hr (fun t ht hW => ⟨rfl, by rw [ht]; exact hP, (hAe ▸ hS).F ht⟩) (hAe ▸ hS).2.2 d_M_pass_86
                · skip
                  have g4 : ¬ sz ≤ i0 + pp := fun q9 => c_6 (nI_le q9 (by omega))
                  refine lv_aload_n hx hb d_M_pass_55 rfl (lv_at hl 1 rfl) ?_
                  refine va_get (D := D) (ci := 5) (v := .int (nI (wa + pp))) (C := R_M) (T := T_M) (N := 20) hx hb hg in_M hown hK hP 0 rfl rfl 14 (by decide) (hg _ gw_538) (fun _ h9 => h9) rfl d_M_pass_56 ?_
                  refine lv_sipush (v := 1000) hx hb d_M_pass_59 (by decide) ?_
                  refine lv_icmp_ge (tgt := 85) hx hb d_M_pass_62 (by decide) (fun c_7 => ?_) (fun c_7 => ?_)
                  · skip
                    refine lv_iload_n hx hb d_M_pass_85 rfl (lv_at hl 0 rfl) ?_
                    exact W.iret (v := nI pp) hx hb hr (fun t ht hW => ⟨rfl, by rw [ht]; exact hP, (hAe ▸ hS).F ht⟩) (hAe ▸ hS).2.2 d_M_pass_86
                  · skip
                    exact absurd (nI_le (a := 1000) (by omega) (by omega)) c_7
            | succ d ih =>
              intro k hk H locs hP hD hS ls hl
              refine lv_iload_n hx hb d_M_pass_40 rfl (lv_at hl 0 rfl) ?_
              refine lv_iload_n hx hb d_M_pass_41 rfl (lv_at hl 3 rfl) ?_
              refine lv_icmp_ge (tgt := 85) hx hb d_M_pass_42 (by decide) (fun c_8 => ?_) (fun c_8 => ?_)
              · skip
                exact absurd ((nI_leI (by omega) (by omega)).mp c_8) (by omega)
              · skip
                refine lv_iload_n hx hb d_M_pass_45 rfl (lv_at hl 2 rfl) ?_
                refine lv_iload_n hx hb d_M_pass_46 rfl (lv_at hl 0 rfl) ?_
                refine lv_iadd hx hb d_M_pass_47 ?_
                refine tpi (y := nI (i0 + k)) (nI_add _ _) ?_
                refine lv_aload_n hx hb d_M_pass_48 rfl (lv_at hl 1 rfl) ?_
                refine va_get (D := D) (ci := 5) (v := .int (nI sz)) (C := R_M) (T := T_M) (N := 20) hx hb hg in_M hown hK hP 0 rfl rfl 12 (by decide) (hg _ gw_536) (fun _ h9 => h9) rfl d_M_pass_49 ?_
                refine lv_icmp_ge (tgt := 85) hx hb d_M_pass_52 (by decide) (fun c_9 => ?_) (fun c_9 => ?_)
                · skip
                  exact absurd ((nI_leI (by omega) (by omega)).mp c_9) (by omega)
                · skip
                  refine lv_aload_n hx hb d_M_pass_55 rfl (lv_at hl 1 rfl) ?_
                  refine va_get (D := D) (ci := 5) (v := .int (nI (wa + k))) (C := R_M) (T := T_M) (N := 20) hx hb hg in_M hown hK hP 0 rfl rfl 14 (by decide) (hg _ gw_538) (fun _ h9 => h9) rfl d_M_pass_56 ?_
                  refine lv_sipush (v := 1000) hx hb d_M_pass_59 (by decide) ?_
                  refine lv_icmp_ge (tgt := 85) hx hb d_M_pass_62 (by decide) (fun c_10 => ?_) (fun c_10 => ?_)
                  · skip
                    exact absurd ((nI_leI (a := 1000) (by omega) (by omega)).mp c_10) (by omega)
                  · skip
                    refine lv_aload_n hx hb d_M_pass_65 rfl (lv_at hl 1 rfl) ?_
                    refine lv_aload_n hx hb d_M_pass_66 rfl (lv_at hl 1 rfl) ?_
                    refine va_get (D := D) (ci := 5) (v := .ref mr) (C := R_M) (T := T_M) (N := 20) hx hb hg in_M hown hK hP 0 rfl rfl 13 (by decide) (hg _ gw_537) (fun _ h9 => h9) rfl d_M_pass_67 ?_
                    refine lv_iload_n hx hb d_M_pass_70 rfl (lv_at hl 2 rfl) ?_
                    refine lv_iload_n hx hb d_M_pass_71 rfl (lv_at hl 0 rfl) ?_
                    refine lv_iadd hx hb d_M_pass_72 ?_
                    refine tpi (y := nI (i0 + k)) (nI_add _ _) ?_
                    refine va_bald hx hb hK hP 1 0 rfl rfl (vp_in_nI (by omega) (by omega)) d_M_pass_73 ?_
                    refine tpi (y := wr (i0 + k)) (by rw [nI_clamp (by omega)]) ?_
                    have hPc := hP.sub (ws' := [(y, .inr (5, [.int 0, .int (nI bi), .int (nI ne), .int (nI li), .int (nI sp), .int (nI q), .ref ms, .ref mw, .ref mu, .ref mc, .ref mn, .int en, .int (nI sz), .ref mr, .int (nI (wa + k)), .ref mq, .int la, .ref md, .int at0, .int lk])), (mq, .inl (cB, 1000, .inl (mpq wq wa wr i0 k)))]) [0, 2] rfl
                    have hDc := hD.sub (ws' := [(y, .inr (5, [.int 0, .int (nI bi), .int (nI ne), .int (nI li), .int (nI sp), .int (nI q), .ref ms, .ref mw, .ref mu, .ref mc, .ref mn, .int en, .int (nI sz), .ref mr, .int (nI (wa + k)), .ref mq, .int la, .ref md, .int at0, .int lk])), (mq, .inl (cB, 1000, .inl (mpq wq wa wr i0 k)))]) [0, 2] (by decide) rfl
                    have hKc := hK.sub (tys' := [(cB, .byte)]) [0] rfl
                    refine mci (va_runV (As := [.int (wr (i0 + k))]) (rest := []) ⟨hx, hb, hml, hown, hg⟩ (c_M_comes l D y ms mw mu mc mn mr mq md bi ne li sp q sz (wa + k) 0 en la at0 lk cB (mpq wq wa wr i0 k) (wr (i0 + k)) (hrb _ (by omega)) (by omega)) (cwV 1 hg (gV gw_662 gw_664 gs_24 gw_7 gw_665) rfl rfl rfl (by decide +kernel) ⟨Nat.le_of_ble_eq_true rfl, Nat.le_of_ble_eq_true rfl⟩) ⟨fun a U g mk q => by obtain ⟨q0, qP, qK, qD⟩ := q; exact ⟨q0, qP, va_K.moved (u := U) (U := U.calling g mk a) (Vm.Alike.refl U.vm) qK, qD⟩, va_recv hKc hPc (ci := 5) (q0 := 0) rfl rfl, fun U hU hW => ⟨rfl, by rw [hU]; exact hPc, va_K.moved hW.alike hKc, hDc.weaken (fun _ _ _ _ => trivial)⟩⟩ rfl rfl hl.1 rfl (lv_room (Nat.le_of_ble_eq_true rfl)) d_M_pass_74 (⟨Nat.le_of_ble_eq_true rfl, Nat.le_of_ble_eq_true rfl⟩)) hS hP hD [0, 2] rfl rfl rfl (fun H locs hP hD hS => ?_)
                    have hP : va_P D CLS [(y, .inr (5, [.int 0, .int (nI bi), .int (nI ne), .int (nI li), .int (nI sp), .int (nI q), .ref ms, .ref mw, .ref mu, .ref mc, .ref mn, .int en, .int (nI sz), .ref mr, .int (nI (wa + (k + 1))), .ref mq, .int la, .ref md, .int at0, .int lk])), (mr, .inl (cB, 6000, .inl wr)), (mq, .inl (cB, 1000, .inl (mpq wq wa wr i0 (k + 1))))] H := hP
                    have hD : va_D A [(y, .inr (5, [.int 0, .int (nI bi), .int (nI ne), .int (nI li), .int (nI sp), .int (nI q), .ref ms, .ref mw, .ref mu, .ref mc, .ref mn, .int en, .int (nI sz), .ref mr, .int (nI (wa + (k + 1))), .ref mq, .int la, .ref md, .int at0, .int lk])), (mr, .inl (cB, 6000, .inl wr)), (mq, .inl (cB, 1000, .inl (mpq wq wa wr i0 (k + 1))))] := hD
                    refine lv_istore (lv' := [(4, .int 1), (3, .int (nI k)), (0, .ref y), (1, .int (nI i0)), (2, .int (nI mx))]) hx hb d_M_pass_77 hl (by decide) rfl (fun ls hl => ?_)
                    refine lv_iinc (v := nI (k + 1)) (lv' := [(3, .int (nI (k + 1))), (4, .int 1), (0, .ref y), (1, .int (nI i0)), (2, .int (nI mx))]) hx hb d_M_pass_79 hl (k := 1) rfl (nI_1 k) (by decide) rfl (fun ls hl => ?_)
                    refine lv_goto (tgt := 40) hx hb d_M_pass_82 (by decide) ?_
                    exact ih (k + 1) (by omega) H locs hP hD hS ls (lv_sub hl [0, 2, 3, 4] rfl)
          exact loop pp 0 (by omega) H locs hP hD hS ls hl
        · skip
          exact absurd (by decide) c_4
      · skip
        exact absurd (nI_pos' hmx) c_3
    · skip
      exact absurd (nI_le hi (by omega)) c_2
set_option maxHeartbeats 4000000 in
set_option maxRecDepth 100000 in
theorem c_M_passI (l : Launch) (D : va_G) (y ms mw mu mc mn mr mq md bi ne li sp q sz wa : Nat) (th en la at0 lk : Int32) (v0 v1 : Int32) (hbad : v0 < 0 ∨ nI sz < v0) : Met l y_M_pass (WSY y_M_pass b_M_pass 5 (some .int)) ({ frames := 1, cells := 0, slots := 0, locals := 25 }) (va_Pc [.ref y, .int v0, .int v1] (fun U => va_P D CLS [(y, .inr (5, [.int th, .int (nI bi), .int (nI ne), .int (nI li), .int (nI sp), .int (nI q), .ref ms, .ref mw, .ref mu, .ref mc, .ref mn, .int en, .int (nI sz), .ref mr, .int (nI wa), .ref mq, .int la, .ref md, .int at0, .int lk]))] U.heap ∧ va_K D CLS [] U ∧ va_D (fun _ => True) [(y, .inr (5, [.int th, .int (nI bi), .int (nI ne), .int (nI li), .int (nI sp), .int (nI q), .ref ms, .ref mw, .ref mu, .ref mc, .ref mn, .int en, .int (nI sz), .ref mr, .int (nI wa), .ref mq, .int la, .ref md, .int at0, .int lk]))])) (QM (some (.int 0)) [(y, .inr (5, [.int th, .int (nI bi), .int (nI ne), .int (nI li), .int (nI sp), .int (nI q), .ref ms, .ref mw, .ref mu, .ref mc, .ref mn, .int en, .int (nI sz), .ref mr, .int (nI wa), .ref mq, .int la, .ref md, .int at0, .int lk]))] [(y, .inr (5, [.int 1, .int (nI bi), .int (nI ne), .int (nI li), .int (nI sp), .int (nI q), .ref ms, .ref mw, .ref mu, .ref mc, .ref mn, .int en, .int (nI sz), .ref mr, .int (nI wa), .ref mq, .int la, .ref md, .int at0, .int lk]))] D) 0 0 (ad [(y, .inr (5, [.int th, .int (nI bi), .int (nI ne), .int (nI li), .int (nI sp), .int (nI q), .ref ms, .ref mw, .ref mu, .ref mc, .ref mn, .int en, .int (nI sz), .ref mr, .int (nI wa), .ref mq, .int la, .ref md, .int at0, .int lk]))]) := by
  refine Met.ofW (cc := b_M_pass) (maxL := 5) (ret := (some .int)) (by decide) rfl ?_
  intro p e s m args below meth c s₁ B hml hv
  obtain ⟨rfl, hP, hK, hD0⟩ := hv
  have hx := B.exec
  have hb := B.bytes
  have hr := B.returns
  have hts := atoms_spec (ws := WSY y_M_pass b_M_pass 5 (some .int)) B.pre
  have hg : ∀ w ∈ GW, w.before _ s = true := fun w h => hts w (List.mem_cons_of_mem _ h)
  have hown : s.vm.findClass "LineGolombModel" = some m.cls := findClass_of_methodNamed B.named
  have hlocks := B.notSynchronized
  obtain ⟨A, hAe⟩ : ∃ A, A = ad [(y, .inr (5, [.int th, .int (nI bi), .int (nI ne), .int (nI li), .int (nI sp), .int (nI q), .ref ms, .ref mw, .ref mu, .ref mc, .ref mn, .int en, .int (nI sz), .ref mr, .int (nI wa), .ref mq, .int la, .ref md, .int at0, .int lk]))] := ⟨_, rfl⟩
  have hD : va_D A [(y, .inr (5, [.int th, .int (nI bi), .int (nI ne), .int (nI li), .int (nI sp), .int (nI q), .ref ms, .ref mw, .ref mu, .ref mc, .ref mn, .int en, .int (nI sz), .ref mr, .int (nI wa), .ref mq, .int la, .ref md, .int at0, .int lk]))] := by rw [hAe]; exact va_D_ad hD0
  have hS : va_S A s.heap s.heap [] := va_S.rf
  have hl := lv_entry ([.ref y, .int v0, .int v1]) (n := 5) (Nat.le_of_ble_eq_true rfl)
  rw [lg_entry_eq]
  generalize (lg_sl ([.ref y, .int v0, .int v1]) ++ List.replicate (5 - (lg_sl ([.ref y, .int v0, .int v1])).length) Slot.unset).toArray = ls at hl ⊢
  have hl : lv_has ls 5 [(0, .ref y), (1, .int v0), (2, .int v1)] := hl
  refine lv_aload_n hx hb d_M_pass_0 rfl (lv_at hl 0 rfl) ?_
  refine lv_iload_n hx hb d_M_pass_1 rfl (lv_at hl 1 rfl) ?_
  refine lv_if_lt (tgt := 13) hx hb d_M_pass_2 (by decide) (fun c_1 => ?_) (fun c_1 => ?_)
  · skip
    refine lv_iconst (v := 1) hx hb d_M_pass_13 (by decide) ?_
    refine lv_goto (tgt := 26) hx hb d_M_pass_14 (by decide) ?_
    refine va_put (D := D) (ci := 5) (v := .int 1) (ty := .int) (C := R_M) (T := T_M) (N := 20) hx hb hg in_M ty_M tok_M nm_M hown hK hP hD hS 0 rfl rfl 0 (by decide) (hg _ gw_524) (fun _ h9 => h9) rfl (by decide +kernel) (rfl) (rfl) (Nat.le_of_ble_eq_true rfl) d_M_pass_26 (fun H locs hP hD hS => ?_)
    have hP : va_P D CLS [(y, .inr (5, [.int 1, .int (nI bi), .int (nI ne), .int (nI li), .int (nI sp), .int (nI q), .ref ms, .ref mw, .ref mu, .ref mc, .ref mn, .int en, .int (nI sz), .ref mr, .int (nI wa), .ref mq, .int la, .ref md, .int at0, .int lk]))] H := hP
    have hD : va_D A [(y, .inr (5, [.int 1, .int (nI bi), .int (nI ne), .int (nI li), .int (nI sp), .int (nI q), .ref ms, .ref mw, .ref mu, .ref mc, .ref mn, .int en, .int (nI sz), .ref mr, .int (nI wa), .ref mq, .int la, .ref md, .int at0, .int lk]))] := hD
    refine lv_aload_n hx hb d_M_pass_29 rfl (lv_at hl 0 rfl) ?_
    refine va_get (D := D) (ci := 5) (v := .int 1) (C := R_M) (T := T_M) (N := 20) hx hb hg in_M hown hK hP 0 rfl rfl 0 (by decide) (hg _ gw_524) (fun _ h9 => h9) rfl d_M_pass_30 ?_
    refine lv_if_le (tgt := 38) hx hb d_M_pass_33 (by decide) (fun c_2 => ?_) (fun c_2 => ?_)
    · skip
      exact absurd c_2 (by decide)
    · skip
      refine lv_iconst (v := 0) hx hb d_M_pass_36 (by decide) ?_
      exact W.iret (v := 0) hx hb hr (fun t ht hW => ⟨rfl, by rw [ht]; exact hP, (hAe ▸ hS).F ht⟩) (hAe ▸ hS).2.2 d_M_pass_37
  · skip
    refine lv_iload_n hx hb d_M_pass_5 rfl (lv_at hl 1 rfl) ?_
    refine lv_aload_n hx hb d_M_pass_6 rfl (lv_at hl 0 rfl) ?_
    refine va_get (D := D) (ci := 5) (v := .int (nI sz)) (C := R_M) (T := T_M) (N := 20) hx hb hg in_M hown hK hP 0 rfl rfl 12 (by decide) (hg _ gw_536) (fun _ h9 => h9) rfl d_M_pass_7 ?_
    refine lv_icmp_le (tgt := 17) hx hb d_M_pass_10 (by decide) (fun c_3 => ?_) (fun c_3 => ?_)
    · skip
      exact absurd hbad (fun q9 => q9.elim c_1 (Int32.not_lt.mpr c_3))
    · skip
      refine lv_iconst (v := 1) hx hb d_M_pass_13 (by decide) ?_
      refine lv_goto (tgt := 26) hx hb d_M_pass_14 (by decide) ?_
      refine va_put (D := D) (ci := 5) (v := .int 1) (ty := .int) (C := R_M) (T := T_M) (N := 20) hx hb hg in_M ty_M tok_M nm_M hown hK hP hD hS 0 rfl rfl 0 (by decide) (hg _ gw_524) (fun _ h9 => h9) rfl (by decide +kernel) (rfl) (rfl) (Nat.le_of_ble_eq_true rfl) d_M_pass_26 (fun H locs hP hD hS => ?_)
      have hP : va_P D CLS [(y, .inr (5, [.int 1, .int (nI bi), .int (nI ne), .int (nI li), .int (nI sp), .int (nI q), .ref ms, .ref mw, .ref mu, .ref mc, .ref mn, .int en, .int (nI sz), .ref mr, .int (nI wa), .ref mq, .int la, .ref md, .int at0, .int lk]))] H := hP
      have hD : va_D A [(y, .inr (5, [.int 1, .int (nI bi), .int (nI ne), .int (nI li), .int (nI sp), .int (nI q), .ref ms, .ref mw, .ref mu, .ref mc, .ref mn, .int en, .int (nI sz), .ref mr, .int (nI wa), .ref mq, .int la, .ref md, .int at0, .int lk]))] := hD
      refine lv_aload_n hx hb d_M_pass_29 rfl (lv_at hl 0 rfl) ?_
      refine va_get (D := D) (ci := 5) (v := .int 1) (C := R_M) (T := T_M) (N := 20) hx hb hg in_M hown hK hP 0 rfl rfl 0 (by decide) (hg _ gw_524) (fun _ h9 => h9) rfl d_M_pass_30 ?_
      refine lv_if_le (tgt := 38) hx hb d_M_pass_33 (by decide) (fun c_4 => ?_) (fun c_4 => ?_)
      · skip
        exact absurd c_4 (by decide)
      · skip
        refine lv_iconst (v := 0) hx hb d_M_pass_36 (by decide) ?_
        exact W.iret (v := 0) hx hb hr (fun t ht hW => ⟨rfl, by rw [ht]; exact hP, (hAe ▸ hS).F ht⟩) (hAe ▸ hS).2.2 d_M_pass_37
set_option maxHeartbeats 4000000 in
set_option maxRecDepth 100000 in
theorem c_M_passA (l : Launch) (D : va_G) (y ms mw mu mc mn mr mq md bi ne li sp q sz wa : Nat) (th en la at0 lk : Int32) (i0 : Nat) (v1 : Int32) (hsz : sz ≤ 6000) (hi : i0 ≤ sz) (hbad : v1 < 0) : Met l y_M_pass (WSY y_M_pass b_M_pass 5 (some .int)) ({ frames := 1, cells := 0, slots := 0, locals := 25 }) (va_Pc [.ref y, .int (nI i0), .int v1] (fun U => va_P D CLS [(y, .inr (5, [.int th, .int (nI bi), .int (nI ne), .int (nI li), .int (nI sp), .int (nI q), .ref ms, .ref mw, .ref mu, .ref mc, .ref mn, .int en, .int (nI sz), .ref mr, .int (nI wa), .ref mq, .int la, .ref md, .int at0, .int lk]))] U.heap ∧ va_K D CLS [] U ∧ va_D (fun _ => True) [(y, .inr (5, [.int th, .int (nI bi), .int (nI ne), .int (nI li), .int (nI sp), .int (nI q), .ref ms, .ref mw, .ref mu, .ref mc, .ref mn, .int en, .int (nI sz), .ref mr, .int (nI wa), .ref mq, .int la, .ref md, .int at0, .int lk]))])) (QM (some (.int 0)) [(y, .inr (5, [.int th, .int (nI bi), .int (nI ne), .int (nI li), .int (nI sp), .int (nI q), .ref ms, .ref mw, .ref mu, .ref mc, .ref mn, .int en, .int (nI sz), .ref mr, .int (nI wa), .ref mq, .int la, .ref md, .int at0, .int lk]))] [(y, .inr (5, [.int 2, .int (nI bi), .int (nI ne), .int (nI li), .int (nI sp), .int (nI q), .ref ms, .ref mw, .ref mu, .ref mc, .ref mn, .int en, .int (nI sz), .ref mr, .int (nI wa), .ref mq, .int la, .ref md, .int at0, .int lk]))] D) 0 0 (ad [(y, .inr (5, [.int th, .int (nI bi), .int (nI ne), .int (nI li), .int (nI sp), .int (nI q), .ref ms, .ref mw, .ref mu, .ref mc, .ref mn, .int en, .int (nI sz), .ref mr, .int (nI wa), .ref mq, .int la, .ref md, .int at0, .int lk]))]) := by
  refine Met.ofW (cc := b_M_pass) (maxL := 5) (ret := (some .int)) (by decide) rfl ?_
  intro p e s m args below meth c s₁ B hml hv
  obtain ⟨rfl, hP, hK, hD0⟩ := hv
  have hx := B.exec
  have hb := B.bytes
  have hr := B.returns
  have hts := atoms_spec (ws := WSY y_M_pass b_M_pass 5 (some .int)) B.pre
  have hg : ∀ w ∈ GW, w.before _ s = true := fun w h => hts w (List.mem_cons_of_mem _ h)
  have hown : s.vm.findClass "LineGolombModel" = some m.cls := findClass_of_methodNamed B.named
  have hlocks := B.notSynchronized
  obtain ⟨A, hAe⟩ : ∃ A, A = ad [(y, .inr (5, [.int th, .int (nI bi), .int (nI ne), .int (nI li), .int (nI sp), .int (nI q), .ref ms, .ref mw, .ref mu, .ref mc, .ref mn, .int en, .int (nI sz), .ref mr, .int (nI wa), .ref mq, .int la, .ref md, .int at0, .int lk]))] := ⟨_, rfl⟩
  have hD : va_D A [(y, .inr (5, [.int th, .int (nI bi), .int (nI ne), .int (nI li), .int (nI sp), .int (nI q), .ref ms, .ref mw, .ref mu, .ref mc, .ref mn, .int en, .int (nI sz), .ref mr, .int (nI wa), .ref mq, .int la, .ref md, .int at0, .int lk]))] := by rw [hAe]; exact va_D_ad hD0
  have hS : va_S A s.heap s.heap [] := va_S.rf
  have hl := lv_entry ([.ref y, .int (nI i0), .int v1]) (n := 5) (Nat.le_of_ble_eq_true rfl)
  rw [lg_entry_eq]
  generalize (lg_sl ([.ref y, .int (nI i0), .int v1]) ++ List.replicate (5 - (lg_sl ([.ref y, .int (nI i0), .int v1])).length) Slot.unset).toArray = ls at hl ⊢
  have hl : lv_has ls 5 [(0, .ref y), (1, .int (nI i0)), (2, .int v1)] := hl
  refine lv_aload_n hx hb d_M_pass_0 rfl (lv_at hl 0 rfl) ?_
  refine lv_iload_n hx hb d_M_pass_1 rfl (lv_at hl 1 rfl) ?_
  refine lv_if_lt (tgt := 13) hx hb d_M_pass_2 (by decide) (fun c_1 => ?_) (fun c_1 => ?_)
  · skip
    exact absurd c_1 (nI_pos (by omega))
  · skip
    refine lv_iload_n hx hb d_M_pass_5 rfl (lv_at hl 1 rfl) ?_
    refine lv_aload_n hx hb d_M_pass_6 rfl (lv_at hl 0 rfl) ?_
    refine va_get (D := D) (ci := 5) (v := .int (nI sz)) (C := R_M) (T := T_M) (N := 20) hx hb hg in_M hown hK hP 0 rfl rfl 12 (by decide) (hg _ gw_536) (fun _ h9 => h9) rfl d_M_pass_7 ?_
    refine lv_icmp_le (tgt := 17) hx hb d_M_pass_10 (by decide) (fun c_2 => ?_) (fun c_2 => ?_)
    · skip
      refine lv_iload_n hx hb d_M_pass_17 rfl (lv_at hl 2 rfl) ?_
      refine lv_if_ge (tgt := 25) hx hb d_M_pass_18 (by decide) (fun c_3 => ?_) (fun c_3 => ?_)
      · skip
        exact absurd hbad (Int32.not_lt.mpr c_3)
      · skip
        refine lv_iconst (v := 2) hx hb d_M_pass_21 (by decide) ?_
        refine lv_goto (tgt := 26) hx hb d_M_pass_22 (by decide) ?_
        refine va_put (D := D) (ci := 5) (v := .int 2) (ty := .int) (C := R_M) (T := T_M) (N := 20) hx hb hg in_M ty_M tok_M nm_M hown hK hP hD hS 0 rfl rfl 0 (by decide) (hg _ gw_524) (fun _ h9 => h9) rfl (by decide +kernel) (rfl) (rfl) (Nat.le_of_ble_eq_true rfl) d_M_pass_26 (fun H locs hP hD hS => ?_)
        have hP : va_P D CLS [(y, .inr (5, [.int 2, .int (nI bi), .int (nI ne), .int (nI li), .int (nI sp), .int (nI q), .ref ms, .ref mw, .ref mu, .ref mc, .ref mn, .int en, .int (nI sz), .ref mr, .int (nI wa), .ref mq, .int la, .ref md, .int at0, .int lk]))] H := hP
        have hD : va_D A [(y, .inr (5, [.int 2, .int (nI bi), .int (nI ne), .int (nI li), .int (nI sp), .int (nI q), .ref ms, .ref mw, .ref mu, .ref mc, .ref mn, .int en, .int (nI sz), .ref mr, .int (nI wa), .ref mq, .int la, .ref md, .int at0, .int lk]))] := hD
        refine lv_aload_n hx hb d_M_pass_29 rfl (lv_at hl 0 rfl) ?_
        refine va_get (D := D) (ci := 5) (v := .int 2) (C := R_M) (T := T_M) (N := 20) hx hb hg in_M hown hK hP 0 rfl rfl 0 (by decide) (hg _ gw_524) (fun _ h9 => h9) rfl d_M_pass_30 ?_
        refine lv_if_le (tgt := 38) hx hb d_M_pass_33 (by decide) (fun c_4 => ?_) (fun c_4 => ?_)
        · skip
          exact absurd c_4 (by decide)
        · skip
          refine lv_iconst (v := 0) hx hb d_M_pass_36 (by decide) ?_
          exact W.iret (v := 0) hx hb hr (fun t ht hW => ⟨rfl, by rw [ht]; exact hP, (hAe ▸ hS).F ht⟩) (hAe ▸ hS).2.2 d_M_pass_37
    · skip
      exact absurd (nI_le hi (by omega)) c_2
set_option maxHeartbeats 4000000 in
set_option maxRecDepth 100000 in
theorem c_M_unmapG0 (l : Launch) (D : va_G) (y ms mw mu mc mn mr mq md bi ne li sp q sz wa : Nat) (th en la at0 lk : Int32) (N : Nat) (hN : N < 2 ^ 31) (hsz : (N / 2 + (if (¬ N % 2 = 0) then 1 else 0)) ≤ 65536) : Met l y_M_unmap (WSY y_M_unmap b_M_unmap 5 (some .int)) ({ frames := 0, cells := 0, slots := 0, locals := 0 }) (va_Pc [.ref y, .int (nI N), .int 0] (fun U => va_P D CLS [(y, .inr (5, [.int th, .int (nI bi), .int (nI ne), .int (nI li), .int (nI sp), .int (nI q), .ref ms, .ref mw, .ref mu, .ref mc, .ref mn, .int en, .int (nI sz), .ref mr, .int (nI wa), .ref mq, .int la, .ref md, .int at0, .int lk]))] U.heap ∧ va_K D CLS [] U ∧ va_D (fun _ => True) [(y, .inr (5, [.int th, .int (nI bi), .int (nI ne), .int (nI li), .int (nI sp), .int (nI q), .ref ms, .ref mw, .ref mu, .ref mc, .ref mn, .int en, .int (nI sz), .ref mr, .int (nI wa), .ref mq, .int la, .ref md, .int at0, .int lk]))])) (QM (some (.int (if (¬ N % 2 = 0) then -nI (N / 2 + (if (¬ N % 2 = 0) then 1 else 0)) else nI (N / 2 + (if (¬ N % 2 = 0) then 1 else 0))))) [(y, .inr (5, [.int th, .int (nI bi), .int (nI ne), .int (nI li), .int (nI sp), .int (nI q), .ref ms, .ref mw, .ref mu, .ref mc, .ref mn, .int en, .int (nI sz), .ref mr, .int (nI wa), .ref mq, .int la, .ref md, .int at0, .int lk]))] [(y, .inr (5, [.int 0, .int (nI bi), .int (nI ne), .int (nI li), .int (nI sp), .int (nI q), .ref ms, .ref mw, .ref mu, .ref mc, .ref mn, .int en, .int (nI sz), .ref mr, .int (nI wa), .ref mq, .int la, .ref md, .int at0, .int lk]))] D) 0 0 (ad [(y, .inr (5, [.int th, .int (nI bi), .int (nI ne), .int (nI li), .int (nI sp), .int (nI q), .ref ms, .ref mw, .ref mu, .ref mc, .ref mn, .int en, .int (nI sz), .ref mr, .int (nI wa), .ref mq, .int la, .ref md, .int at0, .int lk]))]) := by
  refine Met.ofW (cc := b_M_unmap) (maxL := 5) (ret := (some .int)) (by decide) rfl ?_
  intro p e s m args below meth c s₁ B hml hv
  obtain ⟨rfl, hP, hK, hD0⟩ := hv
  have hx := B.exec
  have hb := B.bytes
  have hr := B.returns
  have hts := atoms_spec (ws := WSY y_M_unmap b_M_unmap 5 (some .int)) B.pre
  have hg : ∀ w ∈ GW, w.before _ s = true := fun w h => hts w (List.mem_cons_of_mem _ h)
  have hown : s.vm.findClass "LineGolombModel" = some m.cls := findClass_of_methodNamed B.named
  have hlocks := B.notSynchronized
  obtain ⟨A, hAe⟩ : ∃ A, A = ad [(y, .inr (5, [.int th, .int (nI bi), .int (nI ne), .int (nI li), .int (nI sp), .int (nI q), .ref ms, .ref mw, .ref mu, .ref mc, .ref mn, .int en, .int (nI sz), .ref mr, .int (nI wa), .ref mq, .int la, .ref md, .int at0, .int lk]))] := ⟨_, rfl⟩
  have hD : va_D A [(y, .inr (5, [.int th, .int (nI bi), .int (nI ne), .int (nI li), .int (nI sp), .int (nI q), .ref ms, .ref mw, .ref mu, .ref mc, .ref mn, .int en, .int (nI sz), .ref mr, .int (nI wa), .ref mq, .int la, .ref md, .int at0, .int lk]))] := by rw [hAe]; exact va_D_ad hD0
  have hS : va_S A s.heap s.heap [] := va_S.rf
  have hl := lv_entry ([.ref y, .int (nI N), .int 0]) (n := 5) (Nat.le_of_ble_eq_true rfl)
  rw [lg_entry_eq]
  generalize (lg_sl ([.ref y, .int (nI N), .int 0]) ++ List.replicate (5 - (lg_sl ([.ref y, .int (nI N), .int 0])).length) Slot.unset).toArray = ls at hl ⊢
  have hl : lv_has ls 5 [(0, .ref y), (1, .int (nI N)), (2, .int 0)] := hl
  have hbd : N ≤ 131072 := by split at hsz <;> omega
  refine lv_iload_n hx hb d_M_unmap_0 rfl (lv_at hl 2 rfl) ?_
  refine lv_if_eq (tgt := 9) hx hb d_M_unmap_1 (by decide) (fun c_1 => ?_) (fun c_1 => ?_)
  · skip
    refine lv_ldc (v := 131072) hx hb hown (hg _ gw_718) d_M_unmap_9 ?_
    refine lv_istore_n (lv' := [(3, .int 131072), (0, .ref y), (1, .int (nI N)), (2, .int 0)]) hx hb d_M_unmap_11 rfl hl (by decide) rfl (fun ls hl => ?_)
    refine lv_aload_n hx hb d_M_unmap_12 rfl (lv_at hl 1 rfl) ?_
    refine lv_iload_n hx hb d_M_unmap_13 rfl (lv_at hl 2 rfl) ?_
    refine lv_if_lt (tgt := 32) hx hb d_M_unmap_14 (by decide) (fun c_2 => ?_) (fun c_2 => ?_)
    · skip
      exact absurd c_2 (nI_pos (by omega))
    · skip
      refine lv_iload_n hx hb d_M_unmap_17 rfl (lv_at hl 2 rfl) ?_
      refine lv_iload_n hx hb d_M_unmap_18 rfl (lv_at hl 0 rfl) ?_
      refine lv_icmp_gt (tgt := 32) hx hb d_M_unmap_19 (by decide) (fun c_3 => ?_) (fun c_3 => ?_)
      · skip
        exact absurd ((nI_ltI (a := 131072) (by omega) (by omega)).mp c_3) (by omega)
      · skip
        have g2 : ¬ 131072 < N := fun q9 => c_3 ((nI_ltI (a := 131072) (by omega) (by omega)).mpr q9)
        refine lv_iload_n hx hb d_M_unmap_22 rfl (lv_at hl 3 rfl) ?_
        refine lv_if_eq (tgt := 36) hx hb d_M_unmap_23 (by decide) (fun c_4 => ?_) (fun c_4 => ?_)
        · skip
          refine lv_iconst (v := 0) hx hb d_M_unmap_36 (by decide) ?_
          refine va_put (D := D) (ci := 5) (v := .int 0) (ty := .int) (C := R_M) (T := T_M) (N := 20) hx hb hg in_M ty_M tok_M nm_M hown hK hP hD hS 0 rfl rfl 0 (by decide) (hg _ gw_524) (fun _ h9 => h9) rfl (by decide +kernel) (rfl) (rfl) (Nat.le_of_ble_eq_true rfl) d_M_unmap_37 (fun H locs hP hD hS => ?_)
          have hP : va_P D CLS [(y, .inr (5, [.int 0, .int (nI bi), .int (nI ne), .int (nI li), .int (nI sp), .int (nI q), .ref ms, .ref mw, .ref mu, .ref mc, .ref mn, .int en, .int (nI sz), .ref mr, .int (nI wa), .ref mq, .int la, .ref md, .int at0, .int lk]))] H := hP
          have hD : va_D A [(y, .inr (5, [.int 0, .int (nI bi), .int (nI ne), .int (nI li), .int (nI sp), .int (nI q), .ref ms, .ref mw, .ref mu, .ref mc, .ref mn, .int en, .int (nI sz), .ref mr, .int (nI wa), .ref mq, .int la, .ref md, .int at0, .int lk]))] := hD
          refine lv_aload_n hx hb d_M_unmap_40 rfl (lv_at hl 1 rfl) ?_
          refine va_get (D := D) (ci := 5) (v := .int 0) (C := R_M) (T := T_M) (N := 20) hx hb hg in_M hown hK hP 0 rfl rfl 0 (by decide) (hg _ gw_524) (fun _ h9 => h9) rfl d_M_unmap_41 ?_
          refine lv_if_le (tgt := 49) hx hb d_M_unmap_44 (by decide) (fun c_5 => ?_) (fun c_5 => ?_)
          · skip
            refine lv_iload_n hx hb d_M_unmap_49 rfl (lv_at hl 2 rfl) ?_
            refine lv_iconst (v := 2) hx hb d_M_unmap_50 (by decide) ?_
            refine lv_irem hx hb d_M_unmap_51 (by decide) ?_
            refine tpi (y := nI (N % 2)) (rem2 (by omega)) ?_
            refine lv_if_ne (tgt := 59) hx hb d_M_unmap_52 (by decide) (fun c_6 => ?_) (fun c_6 => ?_)
            · skip
              have he : ¬ N % 2 = 0 := fun q9 => c_6 (by rw [q9]; rfl)
              refine lv_iconst (v := 0) hx hb d_M_unmap_59 (by decide) ?_
              refine lv_iload_n hx hb d_M_unmap_60 rfl (lv_at hl 3 rfl) ?_
              refine lv_icmp_eq (tgt := 68) hx hb d_M_unmap_61 (by decide) (fun c_7 => ?_) (fun c_7 => ?_)
              · skip
                refine lv_iconst (v := 0) hx hb d_M_unmap_68 (by decide) ?_
                refine lv_istore (lv' := [(4, .int 0), (3, .int 131072), (0, .ref y), (1, .int (nI N)), (2, .int 0)]) hx hb d_M_unmap_69 hl (by decide) rfl (fun ls hl => ?_)
                refine lv_iload hx hb d_M_unmap_71 (lv_at hl 0 rfl) ?_
                refine lv_if_eq (tgt := 82) hx hb d_M_unmap_73 (by decide) (fun c_8 => ?_) (fun c_8 => ?_)
                · skip
                  refine lv_iload_n hx hb d_M_unmap_82 rfl (lv_at hl 3 rfl) ?_
                  refine lv_iload_n hx hb d_M_unmap_83 rfl (lv_at hl 4 rfl) ?_
                  refine lv_if_eq (tgt := 91) hx hb d_M_unmap_84 (by decide) (fun c_9 => ?_) (fun c_9 => ?_)
                  · skip
                    refine lv_iconst (v := 1) hx hb d_M_unmap_91 (by decide) ?_
                    refine lv_iadd hx hb d_M_unmap_92 ?_
                    refine tpi (y := nI (N + 1)) (nI_add _ 1) ?_
                    refine lv_iconst (v := 2) hx hb d_M_unmap_93 (by decide) ?_
                    refine lv_idiv hx hb d_M_unmap_94 (by decide) ?_
                    refine tpi (y := nI (N / 2 + (if (¬ N % 2 = 0) then 1 else 0))) ((div2 (by omega)).trans (congrArg nI (by rw [if_pos he]; omega))) ?_
                    refine lv_ineg hx hb d_M_unmap_95 ?_
                    refine tpi (y := if (¬ N % 2 = 0) then -nI (N / 2 + (if (¬ N % 2 = 0) then 1 else 0)) else nI (N / 2 + (if (¬ N % 2 = 0) then 1 else 0))) ((if_pos he).symm) ?_
                    exact W.iret (v := if (¬ N % 2 = 0) then -nI (N / 2 + (if (¬ N % 2 = 0) then 1 else 0)) else nI (N / 2 + (if (¬ N % 2 = 0) then 1 else 0))) hx hb hr (fun t ht hW => ⟨rfl, by rw [ht]; exact hP, (hAe ▸ hS).F ht⟩) (hAe ▸ hS).2.2 d_M_unmap_96
                  · skip
                    exact absurd rfl c_9
                · skip
                  exact absurd rfl c_8
              · skip
                exact absurd rfl c_7
            · skip
              have he : N % 2 = 0 := (nI_eq (b := 0) (by omega) (by omega)).mp c_6
              refine lv_iconst (v := 1) hx hb d_M_unmap_55 (by decide) ?_
              refine lv_goto (tgt := 60) hx hb d_M_unmap_56 (by decide) ?_
              refine lv_iload_n hx hb d_M_unmap_60 rfl (lv_at hl 3 rfl) ?_
              refine lv_icmp_eq (tgt := 68) hx hb d_M_unmap_61 (by decide) (fun c_10 => ?_) (fun c_10 => ?_)
              · skip
                exact absurd c_10 (by decide)
              · skip
                refine lv_iconst (v := 1) hx hb d_M_unmap_64 (by decide) ?_
                refine lv_goto (tgt := 69) hx hb d_M_unmap_65 (by decide) ?_
                refine lv_istore (lv' := [(4, .int 1), (3, .int 131072), (0, .ref y), (1, .int (nI N)), (2, .int 0)]) hx hb d_M_unmap_69 hl (by decide) rfl (fun ls hl => ?_)
                refine lv_iload hx hb d_M_unmap_71 (lv_at hl 0 rfl) ?_
                refine lv_if_eq (tgt := 82) hx hb d_M_unmap_73 (by decide) (fun c_11 => ?_) (fun c_11 => ?_)
                · skip
                  exact absurd c_11 (by decide)
                · skip
                  refine lv_iload_n hx hb d_M_unmap_76 rfl (lv_at hl 3 rfl) ?_
                  refine lv_iconst (v := 2) hx hb d_M_unmap_77 (by decide) ?_
                  refine lv_idiv hx hb d_M_unmap_78 (by decide) ?_
                  refine tpi (y := if (¬ N % 2 = 0) then -nI (N / 2 + (if (¬ N % 2 = 0) then 1 else 0)) else nI (N / 2 + (if (¬ N % 2 = 0) then 1 else 0))) (by rw [if_neg (fun q9 => q9 he), if_neg (fun q9 => q9 he)]; exact div2 (by omega)) ?_
                  refine lv_goto (tgt := 96) hx hb d_M_unmap_79 (by decide) ?_
                  exact W.iret (v := if (¬ N % 2 = 0) then -nI (N / 2 + (if (¬ N % 2 = 0) then 1 else 0)) else nI (N / 2 + (if (¬ N % 2 = 0) then 1 else 0))) hx hb hr (fun t ht hW => ⟨rfl, by rw [ht]; exact hP, (hAe ▸ hS).F ht⟩) (hAe ▸ hS).2.2 d_M_unmap_96
          · skip
            exact absurd (by decide) c_5
        · skip
          exact absurd rfl c_4
  · skip
    exact absurd rfl c_1
set_option maxHeartbeats 4000000 in
set_option maxRecDepth 100000 in
theorem c_M_unmapT0 (l : Launch) (D : va_G) (y ms mw mu mc mn mr mq md bi ne li sp q sz wa : Nat) (th en la at0 lk : Int32) (N : Nat) (hN : N < 2 ^ 31) (hsz : ¬ (N / 2 + (if (¬ N % 2 = 0) then 1 else 0)) ≤ 65536) : Met l y_M_unmap (WSY y_M_unmap b_M_unmap 5 (some .int)) ({ frames := 0, cells := 0, slots := 0, locals := 0 }) (va_Pc [.ref y, .int (nI N), .int 0] (fun U => va_P D CLS [(y, .inr (5, [.int th, .int (nI bi), .int (nI ne), .int (nI li), .int (nI sp), .int (nI q), .ref ms, .ref mw, .ref mu, .ref mc, .ref mn, .int en, .int (nI sz), .ref mr, .int (nI wa), .ref mq, .int la, .ref md, .int at0, .int lk]))] U.heap ∧ va_K D CLS [] U ∧ va_D (fun _ => True) [(y, .inr (5, [.int th, .int (nI bi), .int (nI ne), .int (nI li), .int (nI sp), .int (nI q), .ref ms, .ref mw, .ref mu, .ref mc, .ref mn, .int en, .int (nI sz), .ref mr, .int (nI wa), .ref mq, .int la, .ref md, .int at0, .int lk]))])) (QM (some (.int 0)) [(y, .inr (5, [.int th, .int (nI bi), .int (nI ne), .int (nI li), .int (nI sp), .int (nI q), .ref ms, .ref mw, .ref mu, .ref mc, .ref mn, .int en, .int (nI sz), .ref mr, .int (nI wa), .ref mq, .int la, .ref md, .int at0, .int lk]))] [(y, .inr (5, [.int 1, .int (nI bi), .int (nI ne), .int (nI li), .int (nI sp), .int (nI q), .ref ms, .ref mw, .ref mu, .ref mc, .ref mn, .int en, .int (nI sz), .ref mr, .int (nI wa), .ref mq, .int la, .ref md, .int at0, .int lk]))] D) 0 0 (ad [(y, .inr (5, [.int th, .int (nI bi), .int (nI ne), .int (nI li), .int (nI sp), .int (nI q), .ref ms, .ref mw, .ref mu, .ref mc, .ref mn, .int en, .int (nI sz), .ref mr, .int (nI wa), .ref mq, .int la, .ref md, .int at0, .int lk]))]) := by
  refine Met.ofW (cc := b_M_unmap) (maxL := 5) (ret := (some .int)) (by decide) rfl ?_
  intro p e s m args below meth c s₁ B hml hv
  obtain ⟨rfl, hP, hK, hD0⟩ := hv
  have hx := B.exec
  have hb := B.bytes
  have hr := B.returns
  have hts := atoms_spec (ws := WSY y_M_unmap b_M_unmap 5 (some .int)) B.pre
  have hg : ∀ w ∈ GW, w.before _ s = true := fun w h => hts w (List.mem_cons_of_mem _ h)
  have hown : s.vm.findClass "LineGolombModel" = some m.cls := findClass_of_methodNamed B.named
  have hlocks := B.notSynchronized
  obtain ⟨A, hAe⟩ : ∃ A, A = ad [(y, .inr (5, [.int th, .int (nI bi), .int (nI ne), .int (nI li), .int (nI sp), .int (nI q), .ref ms, .ref mw, .ref mu, .ref mc, .ref mn, .int en, .int (nI sz), .ref mr, .int (nI wa), .ref mq, .int la, .ref md, .int at0, .int lk]))] := ⟨_, rfl⟩
  have hD : va_D A [(y, .inr (5, [.int th, .int (nI bi), .int (nI ne), .int (nI li), .int (nI sp), .int (nI q), .ref ms, .ref mw, .ref mu, .ref mc, .ref mn, .int en, .int (nI sz), .ref mr, .int (nI wa), .ref mq, .int la, .ref md, .int at0, .int lk]))] := by rw [hAe]; exact va_D_ad hD0
  have hS : va_S A s.heap s.heap [] := va_S.rf
  have hl := lv_entry ([.ref y, .int (nI N), .int 0]) (n := 5) (Nat.le_of_ble_eq_true rfl)
  rw [lg_entry_eq]
  generalize (lg_sl ([.ref y, .int (nI N), .int 0]) ++ List.replicate (5 - (lg_sl ([.ref y, .int (nI N), .int 0])).length) Slot.unset).toArray = ls at hl ⊢
  have hl : lv_has ls 5 [(0, .ref y), (1, .int (nI N)), (2, .int 0)] := hl
  have hbd : ¬ (N ≤ 131072) := by split at hsz <;> omega
  refine lv_iload_n hx hb d_M_unmap_0 rfl (lv_at hl 2 rfl) ?_
  refine lv_if_eq (tgt := 9) hx hb d_M_unmap_1 (by decide) (fun c_1 => ?_) (fun c_1 => ?_)
  · skip
    refine lv_ldc (v := 131072) hx hb hown (hg _ gw_718) d_M_unmap_9 ?_
    refine lv_istore_n (lv' := [(3, .int 131072), (0, .ref y), (1, .int (nI N)), (2, .int 0)]) hx hb d_M_unmap_11 rfl hl (by decide) rfl (fun ls hl => ?_)
    refine lv_aload_n hx hb d_M_unmap_12 rfl (lv_at hl 1 rfl) ?_
    refine lv_iload_n hx hb d_M_unmap_13 rfl (lv_at hl 2 rfl) ?_
    refine lv_if_lt (tgt := 32) hx hb d_M_unmap_14 (by decide) (fun c_2 => ?_) (fun c_2 => ?_)
    · skip
      exact absurd c_2 (nI_pos (by omega))
    · skip
      refine lv_iload_n hx hb d_M_unmap_17 rfl (lv_at hl 2 rfl) ?_
      refine lv_iload_n hx hb d_M_unmap_18 rfl (lv_at hl 0 rfl) ?_
      refine lv_icmp_gt (tgt := 32) hx hb d_M_unmap_19 (by decide) (fun c_3 => ?_) (fun c_3 => ?_)
      · skip
        refine lv_iconst (v := 1) hx hb d_M_unmap_32 (by decide) ?_
        refine lv_goto (tgt := 37) hx hb d_M_unmap_33 (by decide) ?_
        refine va_put (D := D) (ci := 5) (v := .int 1) (ty := .int) (C := R_M) (T := T_M) (N := 20) hx hb hg in_M ty_M tok_M nm_M hown hK hP hD hS 0 rfl rfl 0 (by decide) (hg _ gw_524) (fun _ h9 => h9) rfl (by decide +kernel) (rfl) (rfl) (Nat.le_of_ble_eq_true rfl) d_M_unmap_37 (fun H locs hP hD hS => ?_)
        have hP : va_P D CLS [(y, .inr (5, [.int 1, .int (nI bi), .int (nI ne), .int (nI li), .int (nI sp), .int (nI q), .ref ms, .ref mw, .ref mu, .ref mc, .ref mn, .int en, .int (nI sz), .ref mr, .int (nI wa), .ref mq, .int la, .ref md, .int at0, .int lk]))] H := hP
        have hD : va_D A [(y, .inr (5, [.int 1, .int (nI bi), .int (nI ne), .int (nI li), .int (nI sp), .int (nI q), .ref ms, .ref mw, .ref mu, .ref mc, .ref mn, .int en, .int (nI sz), .ref mr, .int (nI wa), .ref mq, .int la, .ref md, .int at0, .int lk]))] := hD
        refine lv_aload_n hx hb d_M_unmap_40 rfl (lv_at hl 1 rfl) ?_
        refine va_get (D := D) (ci := 5) (v := .int 1) (C := R_M) (T := T_M) (N := 20) hx hb hg in_M hown hK hP 0 rfl rfl 0 (by decide) (hg _ gw_524) (fun _ h9 => h9) rfl d_M_unmap_41 ?_
        refine lv_if_le (tgt := 49) hx hb d_M_unmap_44 (by decide) (fun c_4 => ?_) (fun c_4 => ?_)
        · skip
          exact absurd c_4 (by decide)
        · skip
          refine lv_iconst (v := 0) hx hb d_M_unmap_47 (by decide) ?_
          exact W.iret (v := 0) hx hb hr (fun t ht hW => ⟨rfl, by rw [ht]; exact hP, (hAe ▸ hS).F ht⟩) (hAe ▸ hS).2.2 d_M_unmap_48
      · skip
        have g2 : ¬ 131072 < N := fun q9 => c_3 ((nI_ltI (a := 131072) (by omega) (by omega)).mpr q9)
        refine lv_iload_n hx hb d_M_unmap_22 rfl (lv_at hl 3 rfl) ?_
        refine lv_if_eq (tgt := 36) hx hb d_M_unmap_23 (by decide) (fun c_5 => ?_) (fun c_5 => ?_)
        · skip
          exact absurd (by omega) hbd
        · skip
          exact absurd rfl c_5
  · skip
    exact absurd rfl c_1
set_option maxHeartbeats 4000000 in
set_option maxRecDepth 100000 in
theorem c_M_unmapG1 (l : Launch) (D : va_G) (y ms mw mu mc mn mr mq md bi ne li sp q sz wa : Nat) (th en la at0 lk : Int32) (N : Nat) (hN : N < 2 ^ 31) (hsz : (N / 2 + (if (N % 2 = 0) then 1 else 0)) ≤ 65536) : Met l y_M_unmap (WSY y_M_unmap b_M_unmap 5 (some .int)) ({ frames := 0, cells := 0, slots := 0, locals := 0 }) (va_Pc [.ref y, .int (nI N), .int 1] (fun U => va_P D CLS [(y, .inr (5, [.int th, .int (nI bi), .int (nI ne), .int (nI li), .int (nI sp), .int (nI q), .ref ms, .ref mw, .ref mu, .ref mc, .ref mn, .int en, .int (nI sz), .ref mr, .int (nI wa), .ref mq, .int la, .ref md, .int at0, .int lk]))] U.heap ∧ va_K D CLS [] U ∧ va_D (fun _ => True) [(y, .inr (5, [.int th, .int (nI bi), .int (nI ne), .int (nI li), .int (nI sp), .int (nI q), .ref ms, .ref mw, .ref mu, .ref mc, .ref mn, .int en, .int (nI sz), .ref mr, .int (nI wa), .ref mq, .int la, .ref md, .int at0, .int lk]))])) (QM (some (.int (if (N % 2 = 0) then -nI (N / 2 + (if (N % 2 = 0) then 1 else 0)) else nI (N / 2 + (if (N % 2 = 0) then 1 else 0))))) [(y, .inr (5, [.int th, .int (nI bi), .int (nI ne), .int (nI li), .int (nI sp), .int (nI q), .ref ms, .ref mw, .ref mu, .ref mc, .ref mn, .int en, .int (nI sz), .ref mr, .int (nI wa), .ref mq, .int la, .ref md, .int at0, .int lk]))] [(y, .inr (5, [.int 0, .int (nI bi), .int (nI ne), .int (nI li), .int (nI sp), .int (nI q), .ref ms, .ref mw, .ref mu, .ref mc, .ref mn, .int en, .int (nI sz), .ref mr, .int (nI wa), .ref mq, .int la, .ref md, .int at0, .int lk]))] D) 0 0 (ad [(y, .inr (5, [.int th, .int (nI bi), .int (nI ne), .int (nI li), .int (nI sp), .int (nI q), .ref ms, .ref mw, .ref mu, .ref mc, .ref mn, .int en, .int (nI sz), .ref mr, .int (nI wa), .ref mq, .int la, .ref md, .int at0, .int lk]))]) := by
  refine Met.ofW (cc := b_M_unmap) (maxL := 5) (ret := (some .int)) (by decide) rfl ?_
  intro p e s m args below meth c s₁ B hml hv
  obtain ⟨rfl, hP, hK, hD0⟩ := hv
  have hx := B.exec
  have hb := B.bytes
  have hr := B.returns
  have hts := atoms_spec (ws := WSY y_M_unmap b_M_unmap 5 (some .int)) B.pre
  have hg : ∀ w ∈ GW, w.before _ s = true := fun w h => hts w (List.mem_cons_of_mem _ h)
  have hown : s.vm.findClass "LineGolombModel" = some m.cls := findClass_of_methodNamed B.named
  have hlocks := B.notSynchronized
  obtain ⟨A, hAe⟩ : ∃ A, A = ad [(y, .inr (5, [.int th, .int (nI bi), .int (nI ne), .int (nI li), .int (nI sp), .int (nI q), .ref ms, .ref mw, .ref mu, .ref mc, .ref mn, .int en, .int (nI sz), .ref mr, .int (nI wa), .ref mq, .int la, .ref md, .int at0, .int lk]))] := ⟨_, rfl⟩
  have hD : va_D A [(y, .inr (5, [.int th, .int (nI bi), .int (nI ne), .int (nI li), .int (nI sp), .int (nI q), .ref ms, .ref mw, .ref mu, .ref mc, .ref mn, .int en, .int (nI sz), .ref mr, .int (nI wa), .ref mq, .int la, .ref md, .int at0, .int lk]))] := by rw [hAe]; exact va_D_ad hD0
  have hS : va_S A s.heap s.heap [] := va_S.rf
  have hl := lv_entry ([.ref y, .int (nI N), .int 1]) (n := 5) (Nat.le_of_ble_eq_true rfl)
  rw [lg_entry_eq]
  generalize (lg_sl ([.ref y, .int (nI N), .int 1]) ++ List.replicate (5 - (lg_sl ([.ref y, .int (nI N), .int 1])).length) Slot.unset).toArray = ls at hl ⊢
  have hl : lv_has ls 5 [(0, .ref y), (1, .int (nI N)), (2, .int 1)] := hl
  have hbd : N ≤ 131073 ∧ ¬ N = 131072 := by split at hsz <;> omega
  refine lv_iload_n hx hb d_M_unmap_0 rfl (lv_at hl 2 rfl) ?_
  refine lv_if_eq (tgt := 9) hx hb d_M_unmap_1 (by decide) (fun c_1 => ?_) (fun c_1 => ?_)
  · skip
    exact absurd c_1 (by decide)
  · skip
    refine lv_ldc (v := 131073) hx hb hown (hg _ gw_717) d_M_unmap_4 ?_
    refine lv_goto (tgt := 11) hx hb d_M_unmap_6 (by decide) ?_
    refine lv_istore_n (lv' := [(3, .int 131073), (0, .ref y), (1, .int (nI N)), (2, .int 1)]) hx hb d_M_unmap_11 rfl hl (by decide) rfl (fun ls hl => ?_)
    refine lv_aload_n hx hb d_M_unmap_12 rfl (lv_at hl 1 rfl) ?_
    refine lv_iload_n hx hb d_M_unmap_13 rfl (lv_at hl 2 rfl) ?_
    refine lv_if_lt (tgt := 32) hx hb d_M_unmap_14 (by decide) (fun c_2 => ?_) (fun c_2 => ?_)
    · skip
      exact absurd c_2 (nI_pos (by omega))
    · skip
      refine lv_iload_n hx hb d_M_unmap_17 rfl (lv_at hl 2 rfl) ?_
      refine lv_iload_n hx hb d_M_unmap_18 rfl (lv_at hl 0 rfl) ?_
      refine lv_icmp_gt (tgt := 32) hx hb d_M_unmap_19 (by decide) (fun c_3 => ?_) (fun c_3 => ?_)
      · skip
        exact absurd ((nI_ltI (a := 131073) (by omega) (by omega)).mp c_3) (by omega)
      · skip
        have g2 : ¬ 131073 < N := fun q9 => c_3 ((nI_ltI (a := 131073) (by omega) (by omega)).mpr q9)
        refine lv_iload_n hx hb d_M_unmap_22 rfl (lv_at hl 3 rfl) ?_
        refine lv_if_eq (tgt := 36) hx hb d_M_unmap_23 (by decide) (fun c_4 => ?_) (fun c_4 => ?_)
        · skip
          exact absurd c_4 (by decide)
        · skip
          refine lv_iload_n hx hb d_M_unmap_26 rfl (lv_at hl 2 rfl) ?_
          refine lv_ldc (v := 131072) hx hb hown (hg _ gw_718) d_M_unmap_27 ?_
          refine lv_icmp_ne (tgt := 36) hx hb d_M_unmap_29 (by decide) (fun c_5 => ?_) (fun c_5 => ?_)
          · skip
            refine lv_iconst (v := 0) hx hb d_M_unmap_36 (by decide) ?_
            refine va_put (D := D) (ci := 5) (v := .int 0) (ty := .int) (C := R_M) (T := T_M) (N := 20) hx hb hg in_M ty_M tok_M nm_M hown hK hP hD hS 0 rfl rfl 0 (by decide) (hg _ gw_524) (fun _ h9 => h9) rfl (by decide +kernel) (rfl) (rfl) (Nat.le_of_ble_eq_true rfl) d_M_unmap_37 (fun H locs hP hD hS => ?_)
            have hP : va_P D CLS [(y, .inr (5, [.int 0, .int (nI bi), .int (nI ne), .int (nI li), .int (nI sp), .int (nI q), .ref ms, .ref mw, .ref mu, .ref mc, .ref mn, .int en, .int (nI sz), .ref mr, .int (nI wa), .ref mq, .int la, .ref md, .int at0, .int lk]))] H := hP
            have hD : va_D A [(y, .inr (5, [.int 0, .int (nI bi), .int (nI ne), .int (nI li), .int (nI sp), .int (nI q), .ref ms, .ref mw, .ref mu, .ref mc, .ref mn, .int en, .int (nI sz), .ref mr, .int (nI wa), .ref mq, .int la, .ref md, .int at0, .int lk]))] := hD
            refine lv_aload_n hx hb d_M_unmap_40 rfl (lv_at hl 1 rfl) ?_
            refine va_get (D := D) (ci := 5) (v := .int 0) (C := R_M) (T := T_M) (N := 20) hx hb hg in_M hown hK hP 0 rfl rfl 0 (by decide) (hg _ gw_524) (fun _ h9 => h9) rfl d_M_unmap_41 ?_
            refine lv_if_le (tgt := 49) hx hb d_M_unmap_44 (by decide) (fun c_6 => ?_) (fun c_6 => ?_)
            · skip
              refine lv_iload_n hx hb d_M_unmap_49 rfl (lv_at hl 2 rfl) ?_
              refine lv_iconst (v := 2) hx hb d_M_unmap_50 (by decide) ?_
              refine lv_irem hx hb d_M_unmap_51 (by decide) ?_
              refine tpi (y := nI (N % 2)) (rem2 (by omega)) ?_
              refine lv_if_ne (tgt := 59) hx hb d_M_unmap_52 (by decide) (fun c_7 => ?_) (fun c_7 => ?_)
              · skip
                have he : ¬ N % 2 = 0 := fun q9 => c_7 (by rw [q9]; rfl)
                refine lv_iconst (v := 0) hx hb d_M_unmap_59 (by decide) ?_
                refine lv_iload_n hx hb d_M_unmap_60 rfl (lv_at hl 3 rfl) ?_
                refine lv_icmp_eq (tgt := 68) hx hb d_M_unmap_61 (by decide) (fun c_8 => ?_) (fun c_8 => ?_)
                · skip
                  exact absurd c_8 (by decide)
                · skip
                  refine lv_iconst (v := 1) hx hb d_M_unmap_64 (by decide) ?_
                  refine lv_goto (tgt := 69) hx hb d_M_unmap_65 (by decide) ?_
                  refine lv_istore (lv' := [(4, .int 1), (3, .int 131073), (0, .ref y), (1, .int (nI N)), (2, .int 1)]) hx hb d_M_unmap_69 hl (by decide) rfl (fun ls hl => ?_)
                  refine lv_iload hx hb d_M_unmap_71 (lv_at hl 0 rfl) ?_
                  refine lv_if_eq (tgt := 82) hx hb d_M_unmap_73 (by decide) (fun c_9 => ?_) (fun c_9 => ?_)
                  · skip
                    exact absurd c_9 (by decide)
                  · skip
                    refine lv_iload_n hx hb d_M_unmap_76 rfl (lv_at hl 3 rfl) ?_
                    refine lv_iconst (v := 2) hx hb d_M_unmap_77 (by decide) ?_
                    refine lv_idiv hx hb d_M_unmap_78 (by decide) ?_
                    refine tpi (y := if (N % 2 = 0) then -nI (N / 2 + (if (N % 2 = 0) then 1 else 0)) else nI (N / 2 + (if (N % 2 = 0) then 1 else 0))) (by rw [if_neg (fun q9 => he q9), if_neg (fun q9 => he q9)]; exact div2 (by omega)) ?_
                    refine lv_goto (tgt := 96) hx hb d_M_unmap_79 (by decide) ?_
                    exact W.iret (v := if (N % 2 = 0) then -nI (N / 2 + (if (N % 2 = 0) then 1 else 0)) else nI (N / 2 + (if (N % 2 = 0) then 1 else 0))) hx hb hr (fun t ht hW => ⟨rfl, by rw [ht]; exact hP, (hAe ▸ hS).F ht⟩) (hAe ▸ hS).2.2 d_M_unmap_96
              · skip
                have he : N % 2 = 0 := (nI_eq (b := 0) (by omega) (by omega)).mp c_7
                refine lv_iconst (v := 1) hx hb d_M_unmap_55 (by decide) ?_
                refine lv_goto (tgt := 60) hx hb d_M_unmap_56 (by decide) ?_
                refine lv_iload_n hx hb d_M_unmap_60 rfl (lv_at hl 3 rfl) ?_
                refine lv_icmp_eq (tgt := 68) hx hb d_M_unmap_61 (by decide) (fun c_10 => ?_) (fun c_10 => ?_)
                · skip
                  refine lv_iconst (v := 0) hx hb d_M_unmap_68 (by decide) ?_
                  refine lv_istore (lv' := [(4, .int 0), (3, .int 131073), (0, .ref y), (1, .int (nI N)), (2, .int 1)]) hx hb d_M_unmap_69 hl (by decide) rfl (fun ls hl => ?_)
                  refine lv_iload hx hb d_M_unmap_71 (lv_at hl 0 rfl) ?_
                  refine lv_if_eq (tgt := 82) hx hb d_M_unmap_73 (by decide) (fun c_11 => ?_) (fun c_11 => ?_)
                  · skip
                    refine lv_iload_n hx hb d_M_unmap_82 rfl (lv_at hl 3 rfl) ?_
                    refine lv_iload_n hx hb d_M_unmap_83 rfl (lv_at hl 4 rfl) ?_
                    refine lv_if_eq (tgt := 91) hx hb d_M_unmap_84 (by decide) (fun c_12 => ?_) (fun c_12 => ?_)
                    · skip
                      exact absurd c_12 (by decide)
                    · skip
                      refine lv_iconst (v := 2) hx hb d_M_unmap_87 (by decide) ?_
                      refine lv_goto (tgt := 92) hx hb d_M_unmap_88 (by decide) ?_
                      refine lv_iadd hx hb d_M_unmap_92 ?_
                      refine tpi (y := nI (N + 2)) (nI_add _ 2) ?_
                      refine lv_iconst (v := 2) hx hb d_M_unmap_93 (by decide) ?_
                      refine lv_idiv hx hb d_M_unmap_94 (by decide) ?_
                      refine tpi (y := nI (N / 2 + (if (N % 2 = 0) then 1 else 0))) ((div2 (by omega)).trans (congrArg nI (by rw [if_pos he]; omega))) ?_
                      refine lv_ineg hx hb d_M_unmap_95 ?_
                      refine tpi (y := if (N % 2 = 0) then -nI (N / 2 + (if (N % 2 = 0) then 1 else 0)) else nI (N / 2 + (if (N % 2 = 0) then 1 else 0))) ((if_pos he).symm) ?_
                      exact W.iret (v := if (N % 2 = 0) then -nI (N / 2 + (if (N % 2 = 0) then 1 else 0)) else nI (N / 2 + (if (N % 2 = 0) then 1 else 0))) hx hb hr (fun t ht hW => ⟨rfl, by rw [ht]; exact hP, (hAe ▸ hS).F ht⟩) (hAe ▸ hS).2.2 d_M_unmap_96
                  · skip
                    exact absurd rfl c_11
                · skip
                  exact absurd rfl c_10
            · skip
              exact absurd (by decide) c_6
          · skip
            exact absurd ((nI_eq (b := 131072) (by omega) (by omega)).mp c_5) (by omega)
set_option maxHeartbeats 4000000 in
set_option maxRecDepth 100000 in
theorem c_M_unmapT1 (l : Launch) (D : va_G) (y ms mw mu mc mn mr mq md bi ne li sp q sz wa : Nat) (th en la at0 lk : Int32) (N : Nat) (hN : N < 2 ^ 31) (hsz : ¬ (N / 2 + (if (N % 2 = 0) then 1 else 0)) ≤ 65536) : Met l y_M_unmap (WSY y_M_unmap b_M_unmap 5 (some .int)) ({ frames := 0, cells := 0, slots := 0, locals := 0 }) (va_Pc [.ref y, .int (nI N), .int 1] (fun U => va_P D CLS [(y, .inr (5, [.int th, .int (nI bi), .int (nI ne), .int (nI li), .int (nI sp), .int (nI q), .ref ms, .ref mw, .ref mu, .ref mc, .ref mn, .int en, .int (nI sz), .ref mr, .int (nI wa), .ref mq, .int la, .ref md, .int at0, .int lk]))] U.heap ∧ va_K D CLS [] U ∧ va_D (fun _ => True) [(y, .inr (5, [.int th, .int (nI bi), .int (nI ne), .int (nI li), .int (nI sp), .int (nI q), .ref ms, .ref mw, .ref mu, .ref mc, .ref mn, .int en, .int (nI sz), .ref mr, .int (nI wa), .ref mq, .int la, .ref md, .int at0, .int lk]))])) (QM (some (.int 0)) [(y, .inr (5, [.int th, .int (nI bi), .int (nI ne), .int (nI li), .int (nI sp), .int (nI q), .ref ms, .ref mw, .ref mu, .ref mc, .ref mn, .int en, .int (nI sz), .ref mr, .int (nI wa), .ref mq, .int la, .ref md, .int at0, .int lk]))] [(y, .inr (5, [.int 1, .int (nI bi), .int (nI ne), .int (nI li), .int (nI sp), .int (nI q), .ref ms, .ref mw, .ref mu, .ref mc, .ref mn, .int en, .int (nI sz), .ref mr, .int (nI wa), .ref mq, .int la, .ref md, .int at0, .int lk]))] D) 0 0 (ad [(y, .inr (5, [.int th, .int (nI bi), .int (nI ne), .int (nI li), .int (nI sp), .int (nI q), .ref ms, .ref mw, .ref mu, .ref mc, .ref mn, .int en, .int (nI sz), .ref mr, .int (nI wa), .ref mq, .int la, .ref md, .int at0, .int lk]))]) := by
  refine Met.ofW (cc := b_M_unmap) (maxL := 5) (ret := (some .int)) (by decide) rfl ?_
  intro p e s m args below meth c s₁ B hml hv
  obtain ⟨rfl, hP, hK, hD0⟩ := hv
  have hx := B.exec
  have hb := B.bytes
  have hr := B.returns
  have hts := atoms_spec (ws := WSY y_M_unmap b_M_unmap 5 (some .int)) B.pre
  have hg : ∀ w ∈ GW, w.before _ s = true := fun w h => hts w (List.mem_cons_of_mem _ h)
  have hown : s.vm.findClass "LineGolombModel" = some m.cls := findClass_of_methodNamed B.named
  have hlocks := B.notSynchronized
  obtain ⟨A, hAe⟩ : ∃ A, A = ad [(y, .inr (5, [.int th, .int (nI bi), .int (nI ne), .int (nI li), .int (nI sp), .int (nI q), .ref ms, .ref mw, .ref mu, .ref mc, .ref mn, .int en, .int (nI sz), .ref mr, .int (nI wa), .ref mq, .int la, .ref md, .int at0, .int lk]))] := ⟨_, rfl⟩
  have hD : va_D A [(y, .inr (5, [.int th, .int (nI bi), .int (nI ne), .int (nI li), .int (nI sp), .int (nI q), .ref ms, .ref mw, .ref mu, .ref mc, .ref mn, .int en, .int (nI sz), .ref mr, .int (nI wa), .ref mq, .int la, .ref md, .int at0, .int lk]))] := by rw [hAe]; exact va_D_ad hD0
  have hS : va_S A s.heap s.heap [] := va_S.rf
  have hl := lv_entry ([.ref y, .int (nI N), .int 1]) (n := 5) (Nat.le_of_ble_eq_true rfl)
  rw [lg_entry_eq]
  generalize (lg_sl ([.ref y, .int (nI N), .int 1]) ++ List.replicate (5 - (lg_sl ([.ref y, .int (nI N), .int 1])).length) Slot.unset).toArray = ls at hl ⊢
  have hl : lv_has ls 5 [(0, .ref y), (1, .int (nI N)), (2, .int 1)] := hl
  have hbd : ¬ (N ≤ 131073 ∧ ¬ N = 131072) := by split at hsz <;> omega
  refine lv_iload_n hx hb d_M_unmap_0 rfl (lv_at hl 2 rfl) ?_
  refine lv_if_eq (tgt := 9) hx hb d_M_unmap_1 (by decide) (fun c_1 => ?_) (fun c_1 => ?_)
  · skip
    exact absurd c_1 (by decide)
  · skip
    refine lv_ldc (v := 131073) hx hb hown (hg _ gw_717) d_M_unmap_4 ?_
    refine lv_goto (tgt := 11) hx hb d_M_unmap_6 (by decide) ?_
    refine lv_istore_n (lv' := [(3, .int 131073), (0, .ref y), (1, .int (nI N)), (2, .int 1)]) hx hb d_M_unmap_11 rfl hl (by decide) rfl (fun ls hl => ?_)
    refine lv_aload_n hx hb d_M_unmap_12 rfl (lv_at hl 1 rfl) ?_
    refine lv_iload_n hx hb d_M_unmap_13 rfl (lv_at hl 2 rfl) ?_
    refine lv_if_lt (tgt := 32) hx hb d_M_unmap_14 (by decide) (fun c_2 => ?_) (fun c_2 => ?_)
    · skip
      exact absurd c_2 (nI_pos (by omega))
    · skip
      refine lv_iload_n hx hb d_M_unmap_17 rfl (lv_at hl 2 rfl) ?_
      refine lv_iload_n hx hb d_M_unmap_18 rfl (lv_at hl 0 rfl) ?_
      refine lv_icmp_gt (tgt := 32) hx hb d_M_unmap_19 (by decide) (fun c_3 => ?_) (fun c_3 => ?_)
      · skip
        refine lv_iconst (v := 1) hx hb d_M_unmap_32 (by decide) ?_
        refine lv_goto (tgt := 37) hx hb d_M_unmap_33 (by decide) ?_
        refine va_put (D := D) (ci := 5) (v := .int 1) (ty := .int) (C := R_M) (T := T_M) (N := 20) hx hb hg in_M ty_M tok_M nm_M hown hK hP hD hS 0 rfl rfl 0 (by decide) (hg _ gw_524) (fun _ h9 => h9) rfl (by decide +kernel) (rfl) (rfl) (Nat.le_of_ble_eq_true rfl) d_M_unmap_37 (fun H locs hP hD hS => ?_)
        have hP : va_P D CLS [(y, .inr (5, [.int 1, .int (nI bi), .int (nI ne), .int (nI li), .int (nI sp), .int (nI q), .ref ms, .ref mw, .ref mu, .ref mc, .ref mn, .int en, .int (nI sz), .ref mr, .int (nI wa), .ref mq, .int la, .ref md, .int at0, .int lk]))] H := hP
        have hD : va_D A [(y, .inr (5, [.int 1, .int (nI bi), .int (nI ne), .int (nI li), .int (nI sp), .int (nI q), .ref ms, .ref mw, .ref mu, .ref mc, .ref mn, .int en, .int (nI sz), .ref mr, .int (nI wa), .ref mq, .int la, .ref md, .int at0, .int lk]))] := hD
        refine lv_aload_n hx hb d_M_unmap_40 rfl (lv_at hl 1 rfl) ?_
        refine va_get (D := D) (ci := 5) (v := .int 1) (C := R_M) (T := T_M) (N := 20) hx hb hg in_M hown hK hP 0 rfl rfl 0 (by decide) (hg _ gw_524) (fun _ h9 => h9) rfl d_M_unmap_41 ?_
        refine lv_if_le (tgt := 49) hx hb d_M_unmap_44 (by decide) (fun c_4 => ?_) (fun c_4 => ?_)
        · skip
          exact absurd c_4 (by decide)
        · skip
          refine lv_iconst (v := 0) hx hb d_M_unmap_47 (by decide) ?_
          exact W.iret (v := 0) hx hb hr (fun t ht hW => ⟨rfl, by rw [ht]; exact hP, (hAe ▸ hS).F ht⟩) (hAe ▸ hS).2.2 d_M_unmap_48
      · skip
        have g2 : ¬ 131073 < N := fun q9 => c_3 ((nI_ltI (a := 131073) (by omega) (by omega)).mpr q9)
        refine lv_iload_n hx hb d_M_unmap_22 rfl (lv_at hl 3 rfl) ?_
        refine lv_if_eq (tgt := 36) hx hb d_M_unmap_23 (by decide) (fun c_5 => ?_) (fun c_5 => ?_)
        · skip
          exact absurd c_5 (by decide)
        · skip
          refine lv_iload_n hx hb d_M_unmap_26 rfl (lv_at hl 2 rfl) ?_
          refine lv_ldc (v := 131072) hx hb hown (hg _ gw_718) d_M_unmap_27 ?_
          refine lv_icmp_ne (tgt := 36) hx hb d_M_unmap_29 (by decide) (fun c_6 => ?_) (fun c_6 => ?_)
          · skip
            exact absurd (show nI N = 131072 from congrArg nI (show N = 131072 by omega)) c_6
          · skip
            refine lv_iconst (v := 1) hx hb d_M_unmap_32 (by decide) ?_
            refine lv_goto (tgt := 37) hx hb d_M_unmap_33 (by decide) ?_
            refine va_put (D := D) (ci := 5) (v := .int 1) (ty := .int) (C := R_M) (T := T_M) (N := 20) hx hb hg in_M ty_M tok_M nm_M hown hK hP hD hS 0 rfl rfl 0 (by decide) (hg _ gw_524) (fun _ h9 => h9) rfl (by decide +kernel) (rfl) (rfl) (Nat.le_of_ble_eq_true rfl) d_M_unmap_37 (fun H locs hP hD hS => ?_)
            have hP : va_P D CLS [(y, .inr (5, [.int 1, .int (nI bi), .int (nI ne), .int (nI li), .int (nI sp), .int (nI q), .ref ms, .ref mw, .ref mu, .ref mc, .ref mn, .int en, .int (nI sz), .ref mr, .int (nI wa), .ref mq, .int la, .ref md, .int at0, .int lk]))] H := hP
            have hD : va_D A [(y, .inr (5, [.int 1, .int (nI bi), .int (nI ne), .int (nI li), .int (nI sp), .int (nI q), .ref ms, .ref mw, .ref mu, .ref mc, .ref mn, .int en, .int (nI sz), .ref mr, .int (nI wa), .ref mq, .int la, .ref md, .int at0, .int lk]))] := hD
            refine lv_aload_n hx hb d_M_unmap_40 rfl (lv_at hl 1 rfl) ?_
            refine va_get (D := D) (ci := 5) (v := .int 1) (C := R_M) (T := T_M) (N := 20) hx hb hg in_M hown hK hP 0 rfl rfl 0 (by decide) (hg _ gw_524) (fun _ h9 => h9) rfl d_M_unmap_41 ?_
            refine lv_if_le (tgt := 49) hx hb d_M_unmap_44 (by decide) (fun c_7 => ?_) (fun c_7 => ?_)
            · skip
              exact absurd c_7 (by decide)
            · skip
              refine lv_iconst (v := 0) hx hb d_M_unmap_47 (by decide) ?_
              exact W.iret (v := 0) hx hb hr (fun t ht hW => ⟨rfl, by rw [ht]; exact hP, (hAe ▸ hS).F ht⟩) (hAe ▸ hS).2.2 d_M_unmap_48
set_option maxHeartbeats 4000000 in
set_option maxRecDepth 100000 in
theorem c_M_unmapN (l : Launch) (D : va_G) (y ms mw mu mc mn mr mq md bi ne li sp q sz wa : Nat) (th en la at0 lk : Int32) (v0 v1 : Int32) (hbad : v0 < 0) : Met l y_M_unmap (WSY y_M_unmap b_M_unmap 5 (some .int)) ({ frames := 0, cells := 0, slots := 0, locals := 0 }) (va_Pc [.ref y, .int v0, .int v1] (fun U => va_P D CLS [(y, .inr (5, [.int th, .int (nI bi), .int (nI ne), .int (nI li), .int (nI sp), .int (nI q), .ref ms, .ref mw, .ref mu, .ref mc, .ref mn, .int en, .int (nI sz), .ref mr, .int (nI wa), .ref mq, .int la, .ref md, .int at0, .int lk]))] U.heap ∧ va_K D CLS [] U ∧ va_D (fun _ => True) [(y, .inr (5, [.int th, .int (nI bi), .int (nI ne), .int (nI li), .int (nI sp), .int (nI q), .ref ms, .ref mw, .ref mu, .ref mc, .ref mn, .int en, .int (nI sz), .ref mr, .int (nI wa), .ref mq, .int la, .ref md, .int at0, .int lk]))])) (QM (some (.int 0)) [(y, .inr (5, [.int th, .int (nI bi), .int (nI ne), .int (nI li), .int (nI sp), .int (nI q), .ref ms, .ref mw, .ref mu, .ref mc, .ref mn, .int en, .int (nI sz), .ref mr, .int (nI wa), .ref mq, .int la, .ref md, .int at0, .int lk]))] [(y, .inr (5, [.int 1, .int (nI bi), .int (nI ne), .int (nI li), .int (nI sp), .int (nI q), .ref ms, .ref mw, .ref mu, .ref mc, .ref mn, .int en, .int (nI sz), .ref mr, .int (nI wa), .ref mq, .int la, .ref md, .int at0, .int lk]))] D) 0 0 (ad [(y, .inr (5, [.int th, .int (nI bi), .int (nI ne), .int (nI li), .int (nI sp), .int (nI q), .ref ms, .ref mw, .ref mu, .ref mc, .ref mn, .int en, .int (nI sz), .ref mr, .int (nI wa), .ref mq, .int la, .ref md, .int at0, .int lk]))]) := by
  refine Met.ofW (cc := b_M_unmap) (maxL := 5) (ret := (some .int)) (by decide) rfl ?_
  intro p e s m args below meth c s₁ B hml hv
  obtain ⟨rfl, hP, hK, hD0⟩ := hv
  have hx := B.exec
  have hb := B.bytes
  have hr := B.returns
  have hts := atoms_spec (ws := WSY y_M_unmap b_M_unmap 5 (some .int)) B.pre
  have hg : ∀ w ∈ GW, w.before _ s = true := fun w h => hts w (List.mem_cons_of_mem _ h)
  have hown : s.vm.findClass "LineGolombModel" = some m.cls := findClass_of_methodNamed B.named
  have hlocks := B.notSynchronized
  obtain ⟨A, hAe⟩ : ∃ A, A = ad [(y, .inr (5, [.int th, .int (nI bi), .int (nI ne), .int (nI li), .int (nI sp), .int (nI q), .ref ms, .ref mw, .ref mu, .ref mc, .ref mn, .int en, .int (nI sz), .ref mr, .int (nI wa), .ref mq, .int la, .ref md, .int at0, .int lk]))] := ⟨_, rfl⟩
  have hD : va_D A [(y, .inr (5, [.int th, .int (nI bi), .int (nI ne), .int (nI li), .int (nI sp), .int (nI q), .ref ms, .ref mw, .ref mu, .ref mc, .ref mn, .int en, .int (nI sz), .ref mr, .int (nI wa), .ref mq, .int la, .ref md, .int at0, .int lk]))] := by rw [hAe]; exact va_D_ad hD0
  have hS : va_S A s.heap s.heap [] := va_S.rf
  have hl := lv_entry ([.ref y, .int v0, .int v1]) (n := 5) (Nat.le_of_ble_eq_true rfl)
  rw [lg_entry_eq]
  generalize (lg_sl ([.ref y, .int v0, .int v1]) ++ List.replicate (5 - (lg_sl ([.ref y, .int v0, .int v1])).length) Slot.unset).toArray = ls at hl ⊢
  have hl : lv_has ls 5 [(0, .ref y), (1, .int v0), (2, .int v1)] := hl
  refine lv_iload_n hx hb d_M_unmap_0 rfl (lv_at hl 2 rfl) ?_
  refine lv_if_eq (tgt := 9) hx hb d_M_unmap_1 (by decide) (fun c_1 => ?_) (fun c_1 => ?_)
  · skip
    refine lv_ldc (v := 131072) hx hb hown (hg _ gw_718) d_M_unmap_9 ?_
    refine lv_istore_n (lv' := [(3, .int 131072), (0, .ref y), (1, .int v0), (2, .int v1)]) hx hb d_M_unmap_11 rfl hl (by decide) rfl (fun ls hl => ?_)
    refine lv_aload_n hx hb d_M_unmap_12 rfl (lv_at hl 1 rfl) ?_
    refine lv_iload_n hx hb d_M_unmap_13 rfl (lv_at hl 2 rfl) ?_
    refine lv_if_lt (tgt := 32) hx hb d_M_unmap_14 (by decide) (fun c_2 => ?_) (fun c_2 => ?_)
    · skip
      refine lv_iconst (v := 1) hx hb d_M_unmap_32 (by decide) ?_
      refine lv_goto (tgt := 37) hx hb d_M_unmap_33 (by decide) ?_
      refine va_put (D := D) (ci := 5) (v := .int 1) (ty := .int) (C := R_M) (T := T_M) (N := 20) hx hb hg in_M ty_M tok_M nm_M hown hK hP hD hS 0 rfl rfl 0 (by decide) (hg _ gw_524) (fun _ h9 => h9) rfl (by decide +kernel) (rfl) (rfl) (Nat.le_of_ble_eq_true rfl) d_M_unmap_37 (fun H locs hP hD hS => ?_)
      have hP : va_P D CLS [(y, .inr (5, [.int 1, .int (nI bi), .int (nI ne), .int (nI li), .int (nI sp), .int (nI q), .ref ms, .ref mw, .ref mu, .ref mc, .ref mn, .int en, .int (nI sz), .ref mr, .int (nI wa), .ref mq, .int la, .ref md, .int at0, .int lk]))] H := hP
      have hD : va_D A [(y, .inr (5, [.int 1, .int (nI bi), .int (nI ne), .int (nI li), .int (nI sp), .int (nI q), .ref ms, .ref mw, .ref mu, .ref mc, .ref mn, .int en, .int (nI sz), .ref mr, .int (nI wa), .ref mq, .int la, .ref md, .int at0, .int lk]))] := hD
      refine lv_aload_n hx hb d_M_unmap_40 rfl (lv_at hl 1 rfl) ?_
      refine va_get (D := D) (ci := 5) (v := .int 1) (C := R_M) (T := T_M) (N := 20) hx hb hg in_M hown hK hP 0 rfl rfl 0 (by decide) (hg _ gw_524) (fun _ h9 => h9) rfl d_M_unmap_41 ?_
      refine lv_if_le (tgt := 49) hx hb d_M_unmap_44 (by decide) (fun c_3 => ?_) (fun c_3 => ?_)
      · skip
        exact absurd c_3 (by decide)
      · skip
        refine lv_iconst (v := 0) hx hb d_M_unmap_47 (by decide) ?_
        exact W.iret (v := 0) hx hb hr (fun t ht hW => ⟨rfl, by rw [ht]; exact hP, (hAe ▸ hS).F ht⟩) (hAe ▸ hS).2.2 d_M_unmap_48
    · skip
      exact absurd hbad c_2
  · skip
    refine lv_ldc (v := 131073) hx hb hown (hg _ gw_717) d_M_unmap_4 ?_
    refine lv_goto (tgt := 11) hx hb d_M_unmap_6 (by decide) ?_
    refine lv_istore_n (lv' := [(3, .int 131073), (0, .ref y), (1, .int v0), (2, .int v1)]) hx hb d_M_unmap_11 rfl hl (by decide) rfl (fun ls hl => ?_)
    refine lv_aload_n hx hb d_M_unmap_12 rfl (lv_at hl 1 rfl) ?_
    refine lv_iload_n hx hb d_M_unmap_13 rfl (lv_at hl 2 rfl) ?_
    refine lv_if_lt (tgt := 32) hx hb d_M_unmap_14 (by decide) (fun c_4 => ?_) (fun c_4 => ?_)
    · skip
      refine lv_iconst (v := 1) hx hb d_M_unmap_32 (by decide) ?_
      refine lv_goto (tgt := 37) hx hb d_M_unmap_33 (by decide) ?_
      refine va_put (D := D) (ci := 5) (v := .int 1) (ty := .int) (C := R_M) (T := T_M) (N := 20) hx hb hg in_M ty_M tok_M nm_M hown hK hP hD hS 0 rfl rfl 0 (by decide) (hg _ gw_524) (fun _ h9 => h9) rfl (by decide +kernel) (rfl) (rfl) (Nat.le_of_ble_eq_true rfl) d_M_unmap_37 (fun H locs hP hD hS => ?_)
      have hP : va_P D CLS [(y, .inr (5, [.int 1, .int (nI bi), .int (nI ne), .int (nI li), .int (nI sp), .int (nI q), .ref ms, .ref mw, .ref mu, .ref mc, .ref mn, .int en, .int (nI sz), .ref mr, .int (nI wa), .ref mq, .int la, .ref md, .int at0, .int lk]))] H := hP
      have hD : va_D A [(y, .inr (5, [.int 1, .int (nI bi), .int (nI ne), .int (nI li), .int (nI sp), .int (nI q), .ref ms, .ref mw, .ref mu, .ref mc, .ref mn, .int en, .int (nI sz), .ref mr, .int (nI wa), .ref mq, .int la, .ref md, .int at0, .int lk]))] := hD
      refine lv_aload_n hx hb d_M_unmap_40 rfl (lv_at hl 1 rfl) ?_
      refine va_get (D := D) (ci := 5) (v := .int 1) (C := R_M) (T := T_M) (N := 20) hx hb hg in_M hown hK hP 0 rfl rfl 0 (by decide) (hg _ gw_524) (fun _ h9 => h9) rfl d_M_unmap_41 ?_
      refine lv_if_le (tgt := 49) hx hb d_M_unmap_44 (by decide) (fun c_5 => ?_) (fun c_5 => ?_)
      · skip
        exact absurd c_5 (by decide)
      · skip
        refine lv_iconst (v := 0) hx hb d_M_unmap_47 (by decide) ?_
        exact W.iret (v := 0) hx hb hr (fun t ht hW => ⟨rfl, by rw [ht]; exact hP, (hAe ▸ hS).F ht⟩) (hAe ▸ hS).2.2 d_M_unmap_48
    · skip
      exact absurd hbad c_4
set_option maxHeartbeats 4000000 in
set_option maxRecDepth 100000 in
theorem c_M_state000 (l : Launch) (D : va_G) (y ms mw mu mc mn mr mq md bi ne li sp q sz wa : Nat) (th en la at0 lk : Int32) (cI : ClassId) (su cu nu : Nat → Int32) (sm ct ng K : Nat) (hsu : su 0 = nI sm) (hcu : cu 0 = nI ct) (hnu : nu 0 = nI ng) (hc0 : ct ≤ 64) (hn0 : ng ≤ 64) (hs0 : sm < 2 ^ 30) (hKb : K ≤ 29) (hK1 : sm ≤ ct * 2 ^ K) (hK2 : ∀ j, j < K → ct * 2 ^ j < sm) : Met l y_M_state (WSY y_M_state b_M_state 5 (some .int)) ({ frames := 2, cells := 0, slots := 0, locals := 50 }) (va_Pc [.ref y, .int 0, .int 0, .int 0] (fun U => va_P D CLS [(y, .inr (5, [.int th, .int (nI bi), .int (nI ne), .int (nI li), .int (nI sp), .int (nI q), .ref ms, .ref mw, .ref mu, .ref mc, .ref mn, .int en, .int (nI sz), .ref mr, .int (nI wa), .ref mq, .int la, .ref md, .int at0, .int lk])), (mu, .inl (cI, 4, .inl su)), (mc, .inl (cI, 4, .inl cu)), (mn, .inl (cI, 4, .inl nu))] U.heap ∧ va_K D CLS [(cI, .int)] U ∧ va_D (fun _ => True) [(y, .inr (5, [.int th, .int (nI bi), .int (nI ne), .int (nI li), .int (nI sp), .int (nI q), .ref ms, .ref mw, .ref mu, .ref mc, .ref mn, .int en, .int (nI sz), .ref mr, .int (nI wa), .ref mq, .int la, .ref md, .int at0, .int lk])), (mu, .inl (cI, 4, .inl su)), (mc, .inl (cI, 4, .inl cu)), (mn, .inl (cI, 4, .inl nu))])) (QM (some (.int (nI sm))) [(y, .inr (5, [.int th, .int (nI bi), .int (nI ne), .int (nI li), .int (nI sp), .int (nI q), .ref ms, .ref mw, .ref mu, .ref mc, .ref mn, .int en, .int (nI sz), .ref mr, .int (nI wa), .ref mq, .int la, .ref md, .int at0, .int lk])), (mu, .inl (cI, 4, .inl su)), (mc, .inl (cI, 4, .inl cu)), (mn, .inl (cI, 4, .inl nu))] [(y, .inr (5, [.int 0, .int (nI bi), .int (nI ne), .int (nI li), .int (nI sp), .int (nI q), .ref ms, .ref mw, .ref mu, .ref mc, .ref mn, .int en, .int (nI sz), .ref mr, .int (nI wa), .ref mq, .int la, .ref md, .int at0, .int lk])), (mu, .inl (cI, 4, .inl su)), (mc, .inl (cI, 4, .inl cu)), (mn, .inl (cI, 4, .inl nu))] D) 0 0 (ad [(y, .inr (5, [.int th, .int (nI bi), .int (nI ne), .int (nI li), .int (nI sp), .int (nI q), .ref ms, .ref mw, .ref mu, .ref mc, .ref mn, .int en, .int (nI sz), .ref mr, .int (nI wa), .ref mq, .int la, .ref md, .int at0, .int lk])), (mu, .inl (cI, 4, .inl su)), (mc, .inl (cI, 4, .inl cu)), (mn, .inl (cI, 4, .inl nu))]) := by
  refine Met.ofW (cc := b_M_state) (maxL := 5) (ret := (some .int)) (by decide) rfl ?_
  intro p e s m args below meth c s₁ B hml hv
  obtain ⟨rfl, hP, hK, hD0⟩ := hv
  have hx := B.exec
  have hb := B.bytes
  have hr := B.returns
  have hts := atoms_spec (ws := WSY y_M_state b_M_state 5 (some .int)) B.pre
  have hg : ∀ w ∈ GW, w.before _ s = true := fun w h => hts w (List.mem_cons_of_mem _ h)
  have hown : s.vm.findClass "LineGolombModel" = some m.cls := findClass_of_methodNamed B.named
  have hlocks := B.notSynchronized
  obtain ⟨A, hAe⟩ : ∃ A, A = ad [(y, .inr (5, [.int th, .int (nI bi), .int (nI ne), .int (nI li), .int (nI sp), .int (nI q), .ref ms, .ref mw, .ref mu, .ref mc, .ref mn, .int en, .int (nI sz), .ref mr, .int (nI wa), .ref mq, .int la, .ref md, .int at0, .int lk])), (mu, .inl (cI, 4, .inl su)), (mc, .inl (cI, 4, .inl cu)), (mn, .inl (cI, 4, .inl nu))] := ⟨_, rfl⟩
  have hD : va_D A [(y, .inr (5, [.int th, .int (nI bi), .int (nI ne), .int (nI li), .int (nI sp), .int (nI q), .ref ms, .ref mw, .ref mu, .ref mc, .ref mn, .int en, .int (nI sz), .ref mr, .int (nI wa), .ref mq, .int la, .ref md, .int at0, .int lk])), (mu, .inl (cI, 4, .inl su)), (mc, .inl (cI, 4, .inl cu)), (mn, .inl (cI, 4, .inl nu))] := by rw [hAe]; exact va_D_ad hD0
  have hS : va_S A s.heap s.heap [] := va_S.rf
  have hl := lv_entry ([.ref y, .int 0, .int 0, .int 0]) (n := 5) (Nat.le_of_ble_eq_true rfl)
  rw [lg_entry_eq]
  generalize (lg_sl ([.ref y, .int 0, .int 0, .int 0]) ++ List.replicate (5 - (lg_sl ([.ref y, .int 0, .int 0, .int 0])).length) Slot.unset).toArray = ls at hl ⊢
  have hl : lv_has ls 5 [(0, .ref y), (1, .int 0), (2, .int 0), (3, .int 0)] := hl
  refine lv_aload_n hx hb d_M_state_0 rfl (lv_at hl 0 rfl) ?_
  refine lv_aload_n hx hb d_M_state_1 rfl (lv_at hl 0 rfl) ?_
  refine lv_iload_n hx hb d_M_state_2 rfl (lv_at hl 2 rfl) ?_
  have hPc := hP.sub (ws' := [(y, .inr (5, [.int th, .int (nI bi), .int (nI ne), .int (nI li), .int (nI sp), .int (nI q), .ref ms, .ref mw, .ref mu, .ref mc, .ref mn, .int en, .int (nI sz), .ref mr, .int (nI wa), .ref mq, .int la, .ref md, .int at0, .int lk]))]) [0] rfl
  have hKc := hK.sub (tys' := []) [] rfl
  refine pci (va_runV (As := [.int 0]) (rest := [.ref y]) ⟨hx, hb, hml, hown, hg⟩ (c_M_isKind l D y ms mw mu mc mn mr mq md bi ne li sp q sz wa th en la at0 lk 0) (cwV 1 hg (gV gw_626 gw_628 gs_18 gw_7 gw_629) rfl rfl rfl (by decide +kernel) ⟨Nat.le_of_ble_eq_true rfl, Nat.le_of_ble_eq_true rfl⟩) ⟨fun a U g mk q => by obtain ⟨q0, qP, qK⟩ := q; exact ⟨q0, qP, va_K.moved (u := U) (U := U.calling g mk a) (Vm.Alike.refl U.vm) qK⟩, va_recv hKc hPc (ci := 5) (q0 := 0) rfl rfl, fun U hU hW => ⟨rfl, by rw [hU]; exact hPc, va_K.moved hW.alike hKc⟩⟩ rfl rfl hl.1 rfl (lv_room (Nat.le_of_ble_eq_true rfl)) d_M_state_3 (⟨Nat.le_of_ble_eq_true rfl, Nat.le_of_ble_eq_true rfl⟩)) ?_
  refine tpi (y := 1) (by decide) ?_
  refine lv_if_ne (tgt := 13) hx hb d_M_state_6 (by decide) (fun c_1 => ?_) (fun c_1 => ?_)
  · skip
    refine lv_iload_n hx hb d_M_state_13 rfl (lv_at hl 3 rfl) ?_
    refine lv_if_lt (tgt := 22) hx hb d_M_state_14 (by decide) (fun c_2 => ?_) (fun c_2 => ?_)
    · skip
      exact absurd c_2 (by decide)
    · skip
      refine lv_iload_n hx hb d_M_state_17 rfl (lv_at hl 3 rfl) ?_
      refine lv_iconst (v := 3) hx hb d_M_state_18 (by decide) ?_
      refine lv_icmp_le (tgt := 26) hx hb d_M_state_19 (by decide) (fun c_3 => ?_) (fun c_3 => ?_)
      · skip
        refine lv_iconst (v := 0) hx hb d_M_state_26 (by decide) ?_
        refine va_put (D := D) (ci := 5) (v := .int 0) (ty := .int) (C := R_M) (T := T_M) (N := 20) hx hb hg in_M ty_M tok_M nm_M hown hK hP hD hS 0 rfl rfl 0 (by decide) (hg _ gw_524) (fun _ h9 => h9) rfl (by decide +kernel) (rfl) (rfl) (Nat.le_of_ble_eq_true rfl) d_M_state_27 (fun H locs hP hD hS => ?_)
        have hP : va_P D CLS [(y, .inr (5, [.int 0, .int (nI bi), .int (nI ne), .int (nI li), .int (nI sp), .int (nI q), .ref ms, .ref mw, .ref mu, .ref mc, .ref mn, .int en, .int (nI sz), .ref mr, .int (nI wa), .ref mq, .int la, .ref md, .int at0, .int lk])), (mu, .inl (cI, 4, .inl su)), (mc, .inl (cI, 4, .inl cu)), (mn, .inl (cI, 4, .inl nu))] H := hP
        have hD : va_D A [(y, .inr (5, [.int 0, .int (nI bi), .int (nI ne), .int (nI li), .int (nI sp), .int (nI q), .ref ms, .ref mw, .ref mu, .ref mc, .ref mn, .int en, .int (nI sz), .ref mr, .int (nI wa), .ref mq, .int la, .ref md, .int at0, .int lk])), (mu, .inl (cI, 4, .inl su)), (mc, .inl (cI, 4, .inl cu)), (mn, .inl (cI, 4, .inl nu))] := hD
        refine lv_aload_n hx hb d_M_state_30 rfl (lv_at hl 0 rfl) ?_
        refine va_get (D := D) (ci := 5) (v := .int 0) (C := R_M) (T := T_M) (N := 20) hx hb hg in_M hown hK hP 0 rfl rfl 0 (by decide) (hg _ gw_524) (fun _ h9 => h9) rfl d_M_state_31 ?_
        refine lv_if_le (tgt := 39) hx hb d_M_state_34 (by decide) (fun c_4 => ?_) (fun c_4 => ?_)
        · skip
          refine lv_iload_n hx hb d_M_state_39 rfl (lv_at hl 1 rfl) ?_
          refine lv_if_eq (tgt := 47) hx hb d_M_state_40 (by decide) (fun c_5 => ?_) (fun c_5 => ?_)
          · skip
            refine lv_iconst (v := 0) hx hb d_M_state_47 (by decide) ?_
            refine lv_iload_n hx hb d_M_state_48 rfl (lv_at hl 2 rfl) ?_
            refine lv_iadd hx hb d_M_state_49 ?_
            refine tpi (y := 0) (by decide) ?_
            refine lv_istore (lv' := [(4, .int 0), (0, .ref y), (1, .int 0), (2, .int 0), (3, .int 0)]) hx hb d_M_state_50 hl (by decide) rfl (fun ls hl => ?_)
            refine lv_iload_n hx hb d_M_state_52 rfl (lv_at hl 4 rfl) ?_
            refine lv_if_ne (tgt := 66) hx hb d_M_state_53 (by decide) (fun c_6 => ?_) (fun c_6 => ?_)
            · skip
              exact absurd rfl c_6
            · skip
              refine lv_aload_n hx hb d_M_state_56 rfl (lv_at hl 1 rfl) ?_
              refine va_get (D := D) (ci := 5) (v := .ref mu) (C := R_M) (T := T_M) (N := 20) hx hb hg in_M hown hK hP 0 rfl rfl 8 (by decide) (hg _ gw_532) (fun _ h9 => h9) rfl d_M_state_57 ?_
              refine lv_iload hx hb d_M_state_60 (lv_at hl 0 rfl) ?_
              refine va_iald hx hb hK hP 1 0 rfl rfl (vp_in_nI (n := 0) (by decide) (by decide)) d_M_state_62 ?_
              refine tpi (y := nI sm) (hsu) ?_
              refine lv_goto (tgt := 102) hx hb d_M_state_63 (by decide) ?_
              exact W.iret (v := nI sm) hx hb hr (fun t ht hW => ⟨rfl, by rw [ht]; exact hP, (hAe ▸ hS).F ht⟩) (hAe ▸ hS).2.2 d_M_state_102
          · skip
            exact absurd rfl c_5
        · skip
          exact absurd (by decide) c_4
      · skip
        exact absurd (by decide) c_3
  · skip
    exact absurd c_1 (by decide)
set_option maxHeartbeats 4000000 in
set_option maxRecDepth 100000 in
theorem c_M_state001 (l : Launch) (D : va_G) (y ms mw mu mc mn mr mq md bi ne li sp q sz wa : Nat) (th en la at0 lk : Int32) (cI : ClassId) (su cu nu : Nat → Int32) (sm ct ng K : Nat) (hsu : su 0 = nI sm) (hcu : cu 0 = nI ct) (hnu : nu 0 = nI ng) (hc0 : ct ≤ 64) (hn0 : ng ≤ 64) (hs0 : sm < 2 ^ 30) (hKb : K ≤ 29) (hK1 : sm ≤ ct * 2 ^ K) (hK2 : ∀ j, j < K → ct * 2 ^ j < sm) : Met l y_M_state (WSY y_M_state b_M_state 5 (some .int)) ({ frames := 2, cells := 0, slots := 0, locals := 50 }) (va_Pc [.ref y, .int 0, .int 0, .int 1] (fun U => va_P D CLS [(y, .inr (5, [.int th, .int (nI bi), .int (nI ne), .int (nI li), .int (nI sp), .int (nI q), .ref ms, .ref mw, .ref mu, .ref mc, .ref mn, .int en, .int (nI sz), .ref mr, .int (nI wa), .ref mq, .int la, .ref md, .int at0, .int lk])), (mu, .inl (cI, 4, .inl su)), (mc, .inl (cI, 4, .inl cu)), (mn, .inl (cI, 4, .inl nu))] U.heap ∧ va_K D CLS [(cI, .int)] U ∧ va_D (fun _ => True) [(y, .inr (5, [.int th, .int (nI bi), .int (nI ne), .int (nI li), .int (nI sp), .int (nI q), .ref ms, .ref mw, .ref mu, .ref mc, .ref mn, .int en, .int (nI sz), .ref mr, .int (nI wa), .ref mq, .int la, .ref md, .int at0, .int lk])), (mu, .inl (cI, 4, .inl su)), (mc, .inl (cI, 4, .inl cu)), (mn, .inl (cI, 4, .inl nu))])) (QM (some (.int (nI ct))) [(y, .inr (5, [.int th, .int (nI bi), .int (nI ne), .int (nI li), .int (nI sp), .int (nI q), .ref ms, .ref mw, .ref mu, .ref mc, .ref mn, .int en, .int (nI sz), .ref mr, .int (nI wa), .ref mq, .int la, .ref md, .int at0, .int lk])), (mu, .inl (cI, 4, .inl su)), (mc, .inl (cI, 4, .inl cu)), (mn, .inl (cI, 4, .inl nu))] [(y, .inr (5, [.int 0, .int (nI bi), .int (nI ne), .int (nI li), .int (nI sp), .int (nI q), .ref ms, .ref mw, .ref mu, .ref mc, .ref mn, .int en, .int (nI sz), .ref mr, .int (nI wa), .ref mq, .int la, .ref md, .int at0, .int lk])), (mu, .inl (cI, 4, .inl su)), (mc, .inl (cI, 4, .inl cu)), (mn, .inl (cI, 4, .inl nu))] D) 0 0 (ad [(y, .inr (5, [.int th, .int (nI bi), .int (nI ne), .int (nI li), .int (nI sp), .int (nI q), .ref ms, .ref mw, .ref mu, .ref mc, .ref mn, .int en, .int (nI sz), .ref mr, .int (nI wa), .ref mq, .int la, .ref md, .int at0, .int lk])), (mu, .inl (cI, 4, .inl su)), (mc, .inl (cI, 4, .inl cu)), (mn, .inl (cI, 4, .inl nu))]) := by
  refine Met.ofW (cc := b_M_state) (maxL := 5) (ret := (some .int)) (by decide) rfl ?_
  intro p e s m args below meth c s₁ B hml hv
  obtain ⟨rfl, hP, hK, hD0⟩ := hv
  have hx := B.exec
  have hb := B.bytes
  have hr := B.returns
  have hts := atoms_spec (ws := WSY y_M_state b_M_state 5 (some .int)) B.pre
  have hg : ∀ w ∈ GW, w.before _ s = true := fun w h => hts w (List.mem_cons_of_mem _ h)
  have hown : s.vm.findClass "LineGolombModel" = some m.cls := findClass_of_methodNamed B.named
  have hlocks := B.notSynchronized
  obtain ⟨A, hAe⟩ : ∃ A, A = ad [(y, .inr (5, [.int th, .int (nI bi), .int (nI ne), .int (nI li), .int (nI sp), .int (nI q), .ref ms, .ref mw, .ref mu, .ref mc, .ref mn, .int en, .int (nI sz), .ref mr, .int (nI wa), .ref mq, .int la, .ref md, .int at0, .int lk])), (mu, .inl (cI, 4, .inl su)), (mc, .inl (cI, 4, .inl cu)), (mn, .inl (cI, 4, .inl nu))] := ⟨_, rfl⟩
  have hD : va_D A [(y, .inr (5, [.int th, .int (nI bi), .int (nI ne), .int (nI li), .int (nI sp), .int (nI q), .ref ms, .ref mw, .ref mu, .ref mc, .ref mn, .int en, .int (nI sz), .ref mr, .int (nI wa), .ref mq, .int la, .ref md, .int at0, .int lk])), (mu, .inl (cI, 4, .inl su)), (mc, .inl (cI, 4, .inl cu)), (mn, .inl (cI, 4, .inl nu))] := by rw [hAe]; exact va_D_ad hD0
  have hS : va_S A s.heap s.heap [] := va_S.rf
  have hl := lv_entry ([.ref y, .int 0, .int 0, .int 1]) (n := 5) (Nat.le_of_ble_eq_true rfl)
  rw [lg_entry_eq]
  generalize (lg_sl ([.ref y, .int 0, .int 0, .int 1]) ++ List.replicate (5 - (lg_sl ([.ref y, .int 0, .int 0, .int 1])).length) Slot.unset).toArray = ls at hl ⊢
  have hl : lv_has ls 5 [(0, .ref y), (1, .int 0), (2, .int 0), (3, .int 1)] := hl
  refine lv_aload_n hx hb d_M_state_0 rfl (lv_at hl 0 rfl) ?_
  refine lv_aload_n hx hb d_M_state_1 rfl (lv_at hl 0 rfl) ?_
  refine lv_iload_n hx hb d_M_state_2 rfl (lv_at hl 2 rfl) ?_
  have hPc := hP.sub (ws' := [(y, .inr (5, [.int th, .int (nI bi), .int (nI ne), .int (nI li), .int (nI sp), .int (nI q), .ref ms, .ref mw, .ref mu, .ref mc, .ref mn, .int en, .int (nI sz), .ref mr, .int (nI wa), .ref mq, .int la, .ref md, .int at0, .int lk]))]) [0] rfl
  have hKc := hK.sub (tys' := []) [] rfl
  refine pci (va_runV (As := [.int 0]) (rest := [.ref y]) ⟨hx, hb, hml, hown, hg⟩ (c_M_isKind l D y ms mw mu mc mn mr mq md bi ne li sp q sz wa th en la at0 lk 0) (cwV 1 hg (gV gw_626 gw_628 gs_18 gw_7 gw_629) rfl rfl rfl (by decide +kernel) ⟨Nat.le_of_ble_eq_true rfl, Nat.le_of_ble_eq_true rfl⟩) ⟨fun a U g mk q => by obtain ⟨q0, qP, qK⟩ := q; exact ⟨q0, qP, va_K.moved (u := U) (U := U.calling g mk a) (Vm.Alike.refl U.vm) qK⟩, va_recv hKc hPc (ci := 5) (q0 := 0) rfl rfl, fun U hU hW => ⟨rfl, by rw [hU]; exact hPc, va_K.moved hW.alike hKc⟩⟩ rfl rfl hl.1 rfl (lv_room (Nat.le_of_ble_eq_true rfl)) d_M_state_3 (⟨Nat.le_of_ble_eq_true rfl, Nat.le_of_ble_eq_true rfl⟩)) ?_
  refine tpi (y := 1) (by decide) ?_
  refine lv_if_ne (tgt := 13) hx hb d_M_state_6 (by decide) (fun c_1 => ?_) (fun c_1 => ?_)
  · skip
    refine lv_iload_n hx hb d_M_state_13 rfl (lv_at hl 3 rfl) ?_
    refine lv_if_lt (tgt := 22) hx hb d_M_state_14 (by decide) (fun c_2 => ?_) (fun c_2 => ?_)
    · skip
      exact absurd c_2 (by decide)
    · skip
      refine lv_iload_n hx hb d_M_state_17 rfl (lv_at hl 3 rfl) ?_
      refine lv_iconst (v := 3) hx hb d_M_state_18 (by decide) ?_
      refine lv_icmp_le (tgt := 26) hx hb d_M_state_19 (by decide) (fun c_3 => ?_) (fun c_3 => ?_)
      · skip
        refine lv_iconst (v := 0) hx hb d_M_state_26 (by decide) ?_
        refine va_put (D := D) (ci := 5) (v := .int 0) (ty := .int) (C := R_M) (T := T_M) (N := 20) hx hb hg in_M ty_M tok_M nm_M hown hK hP hD hS 0 rfl rfl 0 (by decide) (hg _ gw_524) (fun _ h9 => h9) rfl (by decide +kernel) (rfl) (rfl) (Nat.le_of_ble_eq_true rfl) d_M_state_27 (fun H locs hP hD hS => ?_)
        have hP : va_P D CLS [(y, .inr (5, [.int 0, .int (nI bi), .int (nI ne), .int (nI li), .int (nI sp), .int (nI q), .ref ms, .ref mw, .ref mu, .ref mc, .ref mn, .int en, .int (nI sz), .ref mr, .int (nI wa), .ref mq, .int la, .ref md, .int at0, .int lk])), (mu, .inl (cI, 4, .inl su)), (mc, .inl (cI, 4, .inl cu)), (mn, .inl (cI, 4, .inl nu))] H := hP
        have hD : va_D A [(y, .inr (5, [.int 0, .int (nI bi), .int (nI ne), .int (nI li), .int (nI sp), .int (nI q), .ref ms, .ref mw, .ref mu, .ref mc, .ref mn, .int en, .int (nI sz), .ref mr, .int (nI wa), .ref mq, .int la, .ref md, .int at0, .int lk])), (mu, .inl (cI, 4, .inl su)), (mc, .inl (cI, 4, .inl cu)), (mn, .inl (cI, 4, .inl nu))] := hD
        refine lv_aload_n hx hb d_M_state_30 rfl (lv_at hl 0 rfl) ?_
        refine va_get (D := D) (ci := 5) (v := .int 0) (C := R_M) (T := T_M) (N := 20) hx hb hg in_M hown hK hP 0 rfl rfl 0 (by decide) (hg _ gw_524) (fun _ h9 => h9) rfl d_M_state_31 ?_
        refine lv_if_le (tgt := 39) hx hb d_M_state_34 (by decide) (fun c_4 => ?_) (fun c_4 => ?_)
        · skip
          refine lv_iload_n hx hb d_M_state_39 rfl (lv_at hl 1 rfl) ?_
          refine lv_if_eq (tgt := 47) hx hb d_M_state_40 (by decide) (fun c_5 => ?_) (fun c_5 => ?_)
          · skip
            refine lv_iconst (v := 0) hx hb d_M_state_47 (by decide) ?_
            refine lv_iload_n hx hb d_M_state_48 rfl (lv_at hl 2 rfl) ?_
            refine lv_iadd hx hb d_M_state_49 ?_
            refine tpi (y := 0) (by decide) ?_
            refine lv_istore (lv' := [(4, .int 0), (0, .ref y), (1, .int 0), (2, .int 0), (3, .int 1)]) hx hb d_M_state_50 hl (by decide) rfl (fun ls hl => ?_)
            refine lv_iload_n hx hb d_M_state_52 rfl (lv_at hl 4 rfl) ?_
            refine lv_if_ne (tgt := 66) hx hb d_M_state_53 (by decide) (fun c_6 => ?_) (fun c_6 => ?_)
            · skip
              refine lv_iload_n hx hb d_M_state_66 rfl (lv_at hl 4 rfl) ?_
              refine lv_iconst (v := 1) hx hb d_M_state_67 (by decide) ?_
              refine lv_icmp_ne (tgt := 81) hx hb d_M_state_68 (by decide) (fun c_7 => ?_) (fun c_7 => ?_)
              · skip
                exact absurd rfl c_7
              · skip
                refine lv_aload_n hx hb d_M_state_71 rfl (lv_at hl 1 rfl) ?_
                refine va_get (D := D) (ci := 5) (v := .ref mc) (C := R_M) (T := T_M) (N := 20) hx hb hg in_M hown hK hP 0 rfl rfl 9 (by decide) (hg _ gw_533) (fun _ h9 => h9) rfl d_M_state_72 ?_
                refine lv_iload hx hb d_M_state_75 (lv_at hl 0 rfl) ?_
                refine va_iald hx hb hK hP 2 0 rfl rfl (vp_in_nI (n := 0) (by decide) (by decide)) d_M_state_77 ?_
                refine tpi (y := nI ct) (hcu) ?_
                refine lv_goto (tgt := 102) hx hb d_M_state_78 (by decide) ?_
                exact W.iret (v := nI ct) hx hb hr (fun t ht hW => ⟨rfl, by rw [ht]; exact hP, (hAe ▸ hS).F ht⟩) (hAe ▸ hS).2.2 d_M_state_102
            · skip
              exact absurd c_6 (by decide)
          · skip
            exact absurd rfl c_5
        · skip
          exact absurd (by decide) c_4
      · skip
        exact absurd (by decide) c_3
  · skip
    exact absurd c_1 (by decide)
set_option maxHeartbeats 4000000 in
set_option maxRecDepth 100000 in
theorem c_M_state002 (l : Launch) (D : va_G) (y ms mw mu mc mn mr mq md bi ne li sp q sz wa : Nat) (th en la at0 lk : Int32) (cI : ClassId) (su cu nu : Nat → Int32) (sm ct ng K : Nat) (hsu : su 0 = nI sm) (hcu : cu 0 = nI ct) (hnu : nu 0 = nI ng) (hc0 : ct ≤ 64) (hn0 : ng ≤ 64) (hs0 : sm < 2 ^ 30) (hKb : K ≤ 29) (hK1 : sm ≤ ct * 2 ^ K) (hK2 : ∀ j, j < K → ct * 2 ^ j < sm) : Met l y_M_state (WSY y_M_state b_M_state 5 (some .int)) ({ frames := 2, cells := 0, slots := 0, locals := 50 }) (va_Pc [.ref y, .int 0, .int 0, .int 2] (fun U => va_P D CLS [(y, .inr (5, [.int th, .int (nI bi), .int (nI ne), .int (nI li), .int (nI sp), .int (nI q), .ref ms, .ref mw, .ref mu, .ref mc, .ref mn, .int en, .int (nI sz), .ref mr, .int (nI wa), .ref mq, .int la, .ref md, .int at0, .int lk])), (mu, .inl (cI, 4, .inl su)), (mc, .inl (cI, 4, .inl cu)), (mn, .inl (cI, 4, .inl nu))] U.heap ∧ va_K D CLS [(cI, .int)] U ∧ va_D (fun _ => True) [(y, .inr (5, [.int th, .int (nI bi), .int (nI ne), .int (nI li), .int (nI sp), .int (nI q), .ref ms, .ref mw, .ref mu, .ref mc, .ref mn, .int en, .int (nI sz), .ref mr, .int (nI wa), .ref mq, .int la, .ref md, .int at0, .int lk])), (mu, .inl (cI, 4, .inl su)), (mc, .inl (cI, 4, .inl cu)), (mn, .inl (cI, 4, .inl nu))])) (QM (some (.int (nI ng))) [(y, .inr (5, [.int th, .int (nI bi), .int (nI ne), .int (nI li), .int (nI sp), .int (nI q), .ref ms, .ref mw, .ref mu, .ref mc, .ref mn, .int en, .int (nI sz), .ref mr, .int (nI wa), .ref mq, .int la, .ref md, .int at0, .int lk])), (mu, .inl (cI, 4, .inl su)), (mc, .inl (cI, 4, .inl cu)), (mn, .inl (cI, 4, .inl nu))] [(y, .inr (5, [.int 0, .int (nI bi), .int (nI ne), .int (nI li), .int (nI sp), .int (nI q), .ref ms, .ref mw, .ref mu, .ref mc, .ref mn, .int en, .int (nI sz), .ref mr, .int (nI wa), .ref mq, .int la, .ref md, .int at0, .int lk])), (mu, .inl (cI, 4, .inl su)), (mc, .inl (cI, 4, .inl cu)), (mn, .inl (cI, 4, .inl nu))] D) 0 0 (ad [(y, .inr (5, [.int th, .int (nI bi), .int (nI ne), .int (nI li), .int (nI sp), .int (nI q), .ref ms, .ref mw, .ref mu, .ref mc, .ref mn, .int en, .int (nI sz), .ref mr, .int (nI wa), .ref mq, .int la, .ref md, .int at0, .int lk])), (mu, .inl (cI, 4, .inl su)), (mc, .inl (cI, 4, .inl cu)), (mn, .inl (cI, 4, .inl nu))]) := by
  refine Met.ofW (cc := b_M_state) (maxL := 5) (ret := (some .int)) (by decide) rfl ?_
  intro p e s m args below meth c s₁ B hml hv
  obtain ⟨rfl, hP, hK, hD0⟩ := hv
  have hx := B.exec
  have hb := B.bytes
  have hr := B.returns
  have hts := atoms_spec (ws := WSY y_M_state b_M_state 5 (some .int)) B.pre
  have hg : ∀ w ∈ GW, w.before _ s = true := fun w h => hts w (List.mem_cons_of_mem _ h)
  have hown : s.vm.findClass "LineGolombModel" = some m.cls := findClass_of_methodNamed B.named
  have hlocks := B.notSynchronized
  obtain ⟨A, hAe⟩ : ∃ A, A = ad [(y, .inr (5, [.int th, .int (nI bi), .int (nI ne), .int (nI li), .int (nI sp), .int (nI q), .ref ms, .ref mw, .ref mu, .ref mc, .ref mn, .int en, .int (nI sz), .ref mr, .int (nI wa), .ref mq, .int la, .ref md, .int at0, .int lk])), (mu, .inl (cI, 4, .inl su)), (mc, .inl (cI, 4, .inl cu)), (mn, .inl (cI, 4, .inl nu))] := ⟨_, rfl⟩
  have hD : va_D A [(y, .inr (5, [.int th, .int (nI bi), .int (nI ne), .int (nI li), .int (nI sp), .int (nI q), .ref ms, .ref mw, .ref mu, .ref mc, .ref mn, .int en, .int (nI sz), .ref mr, .int (nI wa), .ref mq, .int la, .ref md, .int at0, .int lk])), (mu, .inl (cI, 4, .inl su)), (mc, .inl (cI, 4, .inl cu)), (mn, .inl (cI, 4, .inl nu))] := by rw [hAe]; exact va_D_ad hD0
  have hS : va_S A s.heap s.heap [] := va_S.rf
  have hl := lv_entry ([.ref y, .int 0, .int 0, .int 2]) (n := 5) (Nat.le_of_ble_eq_true rfl)
  rw [lg_entry_eq]
  generalize (lg_sl ([.ref y, .int 0, .int 0, .int 2]) ++ List.replicate (5 - (lg_sl ([.ref y, .int 0, .int 0, .int 2])).length) Slot.unset).toArray = ls at hl ⊢
  have hl : lv_has ls 5 [(0, .ref y), (1, .int 0), (2, .int 0), (3, .int 2)] := hl
  refine lv_aload_n hx hb d_M_state_0 rfl (lv_at hl 0 rfl) ?_
  refine lv_aload_n hx hb d_M_state_1 rfl (lv_at hl 0 rfl) ?_
  refine lv_iload_n hx hb d_M_state_2 rfl (lv_at hl 2 rfl) ?_
  have hPc := hP.sub (ws' := [(y, .inr (5, [.int th, .int (nI bi), .int (nI ne), .int (nI li), .int (nI sp), .int (nI q), .ref ms, .ref mw, .ref mu, .ref mc, .ref mn, .int en, .int (nI sz), .ref mr, .int (nI wa), .ref mq, .int la, .ref md, .int at0, .int lk]))]) [0] rfl
  have hKc := hK.sub (tys' := []) [] rfl
  refine pci (va_runV (As := [.int 0]) (rest := [.ref y]) ⟨hx, hb, hml, hown, hg⟩ (c_M_isKind l D y ms mw mu mc mn mr mq md bi ne li sp q sz wa th en la at0 lk 0) (cwV 1 hg (gV gw_626 gw_628 gs_18 gw_7 gw_629) rfl rfl rfl (by decide +kernel) ⟨Nat.le_of_ble_eq_true rfl, Nat.le_of_ble_eq_true rfl⟩) ⟨fun a U g mk q => by obtain ⟨q0, qP, qK⟩ := q; exact ⟨q0, qP, va_K.moved (u := U) (U := U.calling g mk a) (Vm.Alike.refl U.vm) qK⟩, va_recv hKc hPc (ci := 5) (q0 := 0) rfl rfl, fun U hU hW => ⟨rfl, by rw [hU]; exact hPc, va_K.moved hW.alike hKc⟩⟩ rfl rfl hl.1 rfl (lv_room (Nat.le_of_ble_eq_true rfl)) d_M_state_3 (⟨Nat.le_of_ble_eq_true rfl, Nat.le_of_ble_eq_true rfl⟩)) ?_
  refine tpi (y := 1) (by decide) ?_
  refine lv_if_ne (tgt := 13) hx hb d_M_state_6 (by decide) (fun c_1 => ?_) (fun c_1 => ?_)
  · skip
    refine lv_iload_n hx hb d_M_state_13 rfl (lv_at hl 3 rfl) ?_
    refine lv_if_lt (tgt := 22) hx hb d_M_state_14 (by decide) (fun c_2 => ?_) (fun c_2 => ?_)
    · skip
      exact absurd c_2 (by decide)
    · skip
      refine lv_iload_n hx hb d_M_state_17 rfl (lv_at hl 3 rfl) ?_
      refine lv_iconst (v := 3) hx hb d_M_state_18 (by decide) ?_
      refine lv_icmp_le (tgt := 26) hx hb d_M_state_19 (by decide) (fun c_3 => ?_) (fun c_3 => ?_)
      · skip
        refine lv_iconst (v := 0) hx hb d_M_state_26 (by decide) ?_
        refine va_put (D := D) (ci := 5) (v := .int 0) (ty := .int) (C := R_M) (T := T_M) (N := 20) hx hb hg in_M ty_M tok_M nm_M hown hK hP hD hS 0 rfl rfl 0 (by decide) (hg _ gw_524) (fun _ h9 => h9) rfl (by decide +kernel) (rfl) (rfl) (Nat.le_of_ble_eq_true rfl) d_M_state_27 (fun H locs hP hD hS => ?_)
        have hP : va_P D CLS [(y, .inr (5, [.int 0, .int (nI bi), .int (nI ne), .int (nI li), .int (nI sp), .int (nI q), .ref ms, .ref mw, .ref mu, .ref mc, .ref mn, .int en, .int (nI sz), .ref mr, .int (nI wa), .ref mq, .int la, .ref md, .int at0, .int lk])), (mu, .inl (cI, 4, .inl su)), (mc, .inl (cI, 4, .inl cu)), (mn, .inl (cI, 4, .inl nu))] H := hP
        have hD : va_D A [(y, .inr (5, [.int 0, .int (nI bi), .int (nI ne), .int (nI li), .int (nI sp), .int (nI q), .ref ms, .ref mw, .ref mu, .ref mc, .ref mn, .int en, .int (nI sz), .ref mr, .int (nI wa), .ref mq, .int la, .ref md, .int at0, .int lk])), (mu, .inl (cI, 4, .inl su)), (mc, .inl (cI, 4, .inl cu)), (mn, .inl (cI, 4, .inl nu))] := hD
        refine lv_aload_n hx hb d_M_state_30 rfl (lv_at hl 0 rfl) ?_
        refine va_get (D := D) (ci := 5) (v := .int 0) (C := R_M) (T := T_M) (N := 20) hx hb hg in_M hown hK hP 0 rfl rfl 0 (by decide) (hg _ gw_524) (fun _ h9 => h9) rfl d_M_state_31 ?_
        refine lv_if_le (tgt := 39) hx hb d_M_state_34 (by decide) (fun c_4 => ?_) (fun c_4 => ?_)
        · skip
          refine lv_iload_n hx hb d_M_state_39 rfl (lv_at hl 1 rfl) ?_
          refine lv_if_eq (tgt := 47) hx hb d_M_state_40 (by decide) (fun c_5 => ?_) (fun c_5 => ?_)
          · skip
            refine lv_iconst (v := 0) hx hb d_M_state_47 (by decide) ?_
            refine lv_iload_n hx hb d_M_state_48 rfl (lv_at hl 2 rfl) ?_
            refine lv_iadd hx hb d_M_state_49 ?_
            refine tpi (y := 0) (by decide) ?_
            refine lv_istore (lv' := [(4, .int 0), (0, .ref y), (1, .int 0), (2, .int 0), (3, .int 2)]) hx hb d_M_state_50 hl (by decide) rfl (fun ls hl => ?_)
            refine lv_iload_n hx hb d_M_state_52 rfl (lv_at hl 4 rfl) ?_
            refine lv_if_ne (tgt := 66) hx hb d_M_state_53 (by decide) (fun c_6 => ?_) (fun c_6 => ?_)
            · skip
              refine lv_iload_n hx hb d_M_state_66 rfl (lv_at hl 4 rfl) ?_
              refine lv_iconst (v := 1) hx hb d_M_state_67 (by decide) ?_
              refine lv_icmp_ne (tgt := 81) hx hb d_M_state_68 (by decide) (fun c_7 => ?_) (fun c_7 => ?_)
              · skip
                refine lv_iload_n hx hb d_M_state_81 rfl (lv_at hl 4 rfl) ?_
                refine lv_iconst (v := 2) hx hb d_M_state_82 (by decide) ?_
                refine lv_icmp_ne (tgt := 96) hx hb d_M_state_83 (by decide) (fun c_8 => ?_) (fun c_8 => ?_)
                · skip
                  exact absurd rfl c_8
                · skip
                  refine lv_aload_n hx hb d_M_state_86 rfl (lv_at hl 1 rfl) ?_
                  refine va_get (D := D) (ci := 5) (v := .ref mn) (C := R_M) (T := T_M) (N := 20) hx hb hg in_M hown hK hP 0 rfl rfl 10 (by decide) (hg _ gw_534) (fun _ h9 => h9) rfl d_M_state_87 ?_
                  refine lv_iload hx hb d_M_state_90 (lv_at hl 0 rfl) ?_
                  refine va_iald hx hb hK hP 3 0 rfl rfl (vp_in_nI (n := 0) (by decide) (by decide)) d_M_state_92 ?_
                  refine tpi (y := nI ng) (hnu) ?_
                  refine lv_goto (tgt := 102) hx hb d_M_state_93 (by decide) ?_
                  exact W.iret (v := nI ng) hx hb hr (fun t ht hW => ⟨rfl, by rw [ht]; exact hP, (hAe ▸ hS).F ht⟩) (hAe ▸ hS).2.2 d_M_state_102
              · skip
                exact absurd c_7 (by decide)
            · skip
              exact absurd c_6 (by decide)
          · skip
            exact absurd rfl c_5
        · skip
          exact absurd (by decide) c_4
      · skip
        exact absurd (by decide) c_3
  · skip
    exact absurd c_1 (by decide)
set_option maxHeartbeats 4000000 in
set_option maxRecDepth 100000 in
theorem c_M_state003 (l : Launch) (D : va_G) (y ms mw mu mc mn mr mq md bi ne li sp q sz wa : Nat) (th en la at0 lk : Int32) (cI : ClassId) (su cu nu : Nat → Int32) (sm ct ng K : Nat) (hsu : su 0 = nI sm) (hcu : cu 0 = nI ct) (hnu : nu 0 = nI ng) (hc0 : ct ≤ 64) (hn0 : ng ≤ 64) (hs0 : sm < 2 ^ 30) (hKb : K ≤ 29) (hK1 : sm ≤ ct * 2 ^ K) (hK2 : ∀ j, j < K → ct * 2 ^ j < sm) : Met l y_M_state (WSY y_M_state b_M_state 5 (some .int)) ({ frames := 2, cells := 0, slots := 0, locals := 50 }) (va_Pc [.ref y, .int 0, .int 0, .int 3] (fun U => va_P D CLS [(y, .inr (5, [.int th, .int (nI bi), .int (nI ne), .int (nI li), .int (nI sp), .int (nI q), .ref ms, .ref mw, .ref mu, .ref mc, .ref mn, .int en, .int (nI sz), .ref mr, .int (nI wa), .ref mq, .int la, .ref md, .int at0, .int lk])), (mu, .inl (cI, 4, .inl su)), (mc, .inl (cI, 4, .inl cu)), (mn, .inl (cI, 4, .inl nu))] U.heap ∧ va_K D CLS [(cI, .int)] U ∧ va_D (fun _ => True) [(y, .inr (5, [.int th, .int (nI bi), .int (nI ne), .int (nI li), .int (nI sp), .int (nI q), .ref ms, .ref mw, .ref mu, .ref mc, .ref mn, .int en, .int (nI sz), .ref mr, .int (nI wa), .ref mq, .int la, .ref md, .int at0, .int lk])), (mu, .inl (cI, 4, .inl su)), (mc, .inl (cI, 4, .inl cu)), (mn, .inl (cI, 4, .inl nu))])) (QM (some (.int (nI K))) [(y, .inr (5, [.int th, .int (nI bi), .int (nI ne), .int (nI li), .int (nI sp), .int (nI q), .ref ms, .ref mw, .ref mu, .ref mc, .ref mn, .int en, .int (nI sz), .ref mr, .int (nI wa), .ref mq, .int la, .ref md, .int at0, .int lk])), (mu, .inl (cI, 4, .inl su)), (mc, .inl (cI, 4, .inl cu)), (mn, .inl (cI, 4, .inl nu))] [(y, .inr (5, [.int 0, .int (nI bi), .int (nI ne), .int (nI li), .int (nI sp), .int (nI q), .ref ms, .ref mw, .ref mu, .ref mc, .ref mn, .int en, .int (nI sz), .ref mr, .int (nI wa), .ref mq, .int la, .ref md, .int at0, .int lk])), (mu, .inl (cI, 4, .inl su)), (mc, .inl (cI, 4, .inl cu)), (mn, .inl (cI, 4, .inl nu))] D) 0 0 (ad [(y, .inr (5, [.int th, .int (nI bi), .int (nI ne), .int (nI li), .int (nI sp), .int (nI q), .ref ms, .ref mw, .ref mu, .ref mc, .ref mn, .int en, .int (nI sz), .ref mr, .int (nI wa), .ref mq, .int la, .ref md, .int at0, .int lk])), (mu, .inl (cI, 4, .inl su)), (mc, .inl (cI, 4, .inl cu)), (mn, .inl (cI, 4, .inl nu))]) := by
  refine Met.ofW (cc := b_M_state) (maxL := 5) (ret := (some .int)) (by decide) rfl ?_
  intro p e s m args below meth c s₁ B hml hv
  obtain ⟨rfl, hP, hK, hD0⟩ := hv
  have hx := B.exec
  have hb := B.bytes
  have hr := B.returns
  have hts := atoms_spec (ws := WSY y_M_state b_M_state 5 (some .int)) B.pre
  have hg : ∀ w ∈ GW, w.before _ s = true := fun w h => hts w (List.mem_cons_of_mem _ h)
  have hown : s.vm.findClass "LineGolombModel" = some m.cls := findClass_of_methodNamed B.named
  have hlocks := B.notSynchronized
  obtain ⟨A, hAe⟩ : ∃ A, A = ad [(y, .inr (5, [.int th, .int (nI bi), .int (nI ne), .int (nI li), .int (nI sp), .int (nI q), .ref ms, .ref mw, .ref mu, .ref mc, .ref mn, .int en, .int (nI sz), .ref mr, .int (nI wa), .ref mq, .int la, .ref md, .int at0, .int lk])), (mu, .inl (cI, 4, .inl su)), (mc, .inl (cI, 4, .inl cu)), (mn, .inl (cI, 4, .inl nu))] := ⟨_, rfl⟩
  have hD : va_D A [(y, .inr (5, [.int th, .int (nI bi), .int (nI ne), .int (nI li), .int (nI sp), .int (nI q), .ref ms, .ref mw, .ref mu, .ref mc, .ref mn, .int en, .int (nI sz), .ref mr, .int (nI wa), .ref mq, .int la, .ref md, .int at0, .int lk])), (mu, .inl (cI, 4, .inl su)), (mc, .inl (cI, 4, .inl cu)), (mn, .inl (cI, 4, .inl nu))] := by rw [hAe]; exact va_D_ad hD0
  have hS : va_S A s.heap s.heap [] := va_S.rf
  have hl := lv_entry ([.ref y, .int 0, .int 0, .int 3]) (n := 5) (Nat.le_of_ble_eq_true rfl)
  rw [lg_entry_eq]
  generalize (lg_sl ([.ref y, .int 0, .int 0, .int 3]) ++ List.replicate (5 - (lg_sl ([.ref y, .int 0, .int 0, .int 3])).length) Slot.unset).toArray = ls at hl ⊢
  have hl : lv_has ls 5 [(0, .ref y), (1, .int 0), (2, .int 0), (3, .int 3)] := hl
  refine lv_aload_n hx hb d_M_state_0 rfl (lv_at hl 0 rfl) ?_
  refine lv_aload_n hx hb d_M_state_1 rfl (lv_at hl 0 rfl) ?_
  refine lv_iload_n hx hb d_M_state_2 rfl (lv_at hl 2 rfl) ?_
  have hPc := hP.sub (ws' := [(y, .inr (5, [.int th, .int (nI bi), .int (nI ne), .int (nI li), .int (nI sp), .int (nI q), .ref ms, .ref mw, .ref mu, .ref mc, .ref mn, .int en, .int (nI sz), .ref mr, .int (nI wa), .ref mq, .int la, .ref md, .int at0, .int lk]))]) [0] rfl
  have hKc := hK.sub (tys' := []) [] rfl
  refine pci (va_runV (As := [.int 0]) (rest := [.ref y]) ⟨hx, hb, hml, hown, hg⟩ (c_M_isKind l D y ms mw mu mc mn mr mq md bi ne li sp q sz wa th en la at0 lk 0) (cwV 1 hg (gV gw_626 gw_628 gs_18 gw_7 gw_629) rfl rfl rfl (by decide +kernel) ⟨Nat.le_of_ble_eq_true rfl, Nat.le_of_ble_eq_true rfl⟩) ⟨fun a U g mk q => by obtain ⟨q0, qP, qK⟩ := q; exact ⟨q0, qP, va_K.moved (u := U) (U := U.calling g mk a) (Vm.Alike.refl U.vm) qK⟩, va_recv hKc hPc (ci := 5) (q0 := 0) rfl rfl, fun U hU hW => ⟨rfl, by rw [hU]; exact hPc, va_K.moved hW.alike hKc⟩⟩ rfl rfl hl.1 rfl (lv_room (Nat.le_of_ble_eq_true rfl)) d_M_state_3 (⟨Nat.le_of_ble_eq_true rfl, Nat.le_of_ble_eq_true rfl⟩)) ?_
  refine tpi (y := 1) (by decide) ?_
  refine lv_if_ne (tgt := 13) hx hb d_M_state_6 (by decide) (fun c_1 => ?_) (fun c_1 => ?_)
  · skip
    refine lv_iload_n hx hb d_M_state_13 rfl (lv_at hl 3 rfl) ?_
    refine lv_if_lt (tgt := 22) hx hb d_M_state_14 (by decide) (fun c_2 => ?_) (fun c_2 => ?_)
    · skip
      exact absurd c_2 (by decide)
    · skip
      refine lv_iload_n hx hb d_M_state_17 rfl (lv_at hl 3 rfl) ?_
      refine lv_iconst (v := 3) hx hb d_M_state_18 (by decide) ?_
      refine lv_icmp_le (tgt := 26) hx hb d_M_state_19 (by decide) (fun c_3 => ?_) (fun c_3 => ?_)
      · skip
        refine lv_iconst (v := 0) hx hb d_M_state_26 (by decide) ?_
        refine va_put (D := D) (ci := 5) (v := .int 0) (ty := .int) (C := R_M) (T := T_M) (N := 20) hx hb hg in_M ty_M tok_M nm_M hown hK hP hD hS 0 rfl rfl 0 (by decide) (hg _ gw_524) (fun _ h9 => h9) rfl (by decide +kernel) (rfl) (rfl) (Nat.le_of_ble_eq_true rfl) d_M_state_27 (fun H locs hP hD hS => ?_)
        have hP : va_P D CLS [(y, .inr (5, [.int 0, .int (nI bi), .int (nI ne), .int (nI li), .int (nI sp), .int (nI q), .ref ms, .ref mw, .ref mu, .ref mc, .ref mn, .int en, .int (nI sz), .ref mr, .int (nI wa), .ref mq, .int la, .ref md, .int at0, .int lk])), (mu, .inl (cI, 4, .inl su)), (mc, .inl (cI, 4, .inl cu)), (mn, .inl (cI, 4, .inl nu))] H := hP
        have hD : va_D A [(y, .inr (5, [.int 0, .int (nI bi), .int (nI ne), .int (nI li), .int (nI sp), .int (nI q), .ref ms, .ref mw, .ref mu, .ref mc, .ref mn, .int en, .int (nI sz), .ref mr, .int (nI wa), .ref mq, .int la, .ref md, .int at0, .int lk])), (mu, .inl (cI, 4, .inl su)), (mc, .inl (cI, 4, .inl cu)), (mn, .inl (cI, 4, .inl nu))] := hD
        refine lv_aload_n hx hb d_M_state_30 rfl (lv_at hl 0 rfl) ?_
        refine va_get (D := D) (ci := 5) (v := .int 0) (C := R_M) (T := T_M) (N := 20) hx hb hg in_M hown hK hP 0 rfl rfl 0 (by decide) (hg _ gw_524) (fun _ h9 => h9) rfl d_M_state_31 ?_
        refine lv_if_le (tgt := 39) hx hb d_M_state_34 (by decide) (fun c_4 => ?_) (fun c_4 => ?_)
        · skip
          refine lv_iload_n hx hb d_M_state_39 rfl (lv_at hl 1 rfl) ?_
          refine lv_if_eq (tgt := 47) hx hb d_M_state_40 (by decide) (fun c_5 => ?_) (fun c_5 => ?_)
          · skip
            refine lv_iconst (v := 0) hx hb d_M_state_47 (by decide) ?_
            refine lv_iload_n hx hb d_M_state_48 rfl (lv_at hl 2 rfl) ?_
            refine lv_iadd hx hb d_M_state_49 ?_
            refine tpi (y := 0) (by decide) ?_
            refine lv_istore (lv' := [(4, .int 0), (0, .ref y), (1, .int 0), (2, .int 0), (3, .int 3)]) hx hb d_M_state_50 hl (by decide) rfl (fun ls hl => ?_)
            refine lv_iload_n hx hb d_M_state_52 rfl (lv_at hl 4 rfl) ?_
            refine lv_if_ne (tgt := 66) hx hb d_M_state_53 (by decide) (fun c_6 => ?_) (fun c_6 => ?_)
            · skip
              refine lv_iload_n hx hb d_M_state_66 rfl (lv_at hl 4 rfl) ?_
              refine lv_iconst (v := 1) hx hb d_M_state_67 (by decide) ?_
              refine lv_icmp_ne (tgt := 81) hx hb d_M_state_68 (by decide) (fun c_7 => ?_) (fun c_7 => ?_)
              · skip
                refine lv_iload_n hx hb d_M_state_81 rfl (lv_at hl 4 rfl) ?_
                refine lv_iconst (v := 2) hx hb d_M_state_82 (by decide) ?_
                refine lv_icmp_ne (tgt := 96) hx hb d_M_state_83 (by decide) (fun c_8 => ?_) (fun c_8 => ?_)
                · skip
                  refine lv_aload_n hx hb d_M_state_96 rfl (lv_at hl 1 rfl) ?_
                  refine lv_iload hx hb d_M_state_97 (lv_at hl 0 rfl) ?_
                  have hPc := hP.sub (ws' := [(y, .inr (5, [.int 0, .int (nI bi), .int (nI ne), .int (nI li), .int (nI sp), .int (nI q), .ref ms, .ref mw, .ref mu, .ref mc, .ref mn, .int en, .int (nI sz), .ref mr, .int (nI wa), .ref mq, .int la, .ref md, .int at0, .int lk])), (mu, .inl (cI, 4, .inl su)), (mc, .inl (cI, 4, .inl cu)), (mn, .inl (cI, 4, .inl nu))]) [0, 1, 2, 3] rfl
                  have hKc := hK.sub (tys' := [(cI, .int)]) [0] rfl
                  refine pci (va_runV (As := [.int 0]) (rest := []) ⟨hx, hb, hml, hown, hg⟩ (c_M_kOf0 l D y ms mw mu mc mn mr mq md bi ne li sp q sz wa 0 en la at0 lk cI su cu nu sm ct ng K hsu hcu hnu hc0 hn0 hs0 hKb hK1 hK2) (cwV 1 hg (gV gw_638 gw_640 gs_21 gw_7 gw_641) rfl rfl rfl (by decide +kernel) ⟨Nat.le_of_ble_eq_true rfl, Nat.le_of_ble_eq_true rfl⟩) ⟨fun a U g mk q => by obtain ⟨q0, qP, qK⟩ := q; exact ⟨q0, qP, va_K.moved (u := U) (U := U.calling g mk a) (Vm.Alike.refl U.vm) qK⟩, va_recv hKc hPc (ci := 5) (q0 := 0) rfl rfl, fun U hU hW => ⟨rfl, by rw [hU]; exact hPc, va_K.moved hW.alike hKc⟩⟩ rfl rfl hl.1 rfl (lv_room (Nat.le_of_ble_eq_true rfl)) d_M_state_99 (⟨Nat.le_of_ble_eq_true rfl, Nat.le_of_ble_eq_true rfl⟩)) ?_
                  exact W.iret (v := nI K) hx hb hr (fun t ht hW => ⟨rfl, by rw [ht]; exact hP, (hAe ▸ hS).F ht⟩) (hAe ▸ hS).2.2 d_M_state_102
                · skip
                  exact absurd c_8 (by decide)
              · skip
                exact absurd c_7 (by decide)
            · skip
              exact absurd c_6 (by decide)
          · skip
            exact absurd rfl c_5
        · skip
          exact absurd (by decide) c_4
      · skip
        exact absurd (by decide) c_3
  · skip
    exact absurd c_1 (by decide)
set_option maxHeartbeats 4000000 in
set_option maxRecDepth 100000 in
theorem c_M_state010 (l : Launch) (D : va_G) (y ms mw mu mc mn mr mq md bi ne li sp q sz wa : Nat) (th en la at0 lk : Int32) (cI : ClassId) (su cu nu : Nat → Int32) (sm ct ng K : Nat) (hsu : su 1 = nI sm) (hcu : cu 1 = nI ct) (hnu : nu 1 = nI ng) (hc0 : ct ≤ 64) (hn0 : ng ≤ 64) (hs0 : sm < 2 ^ 30) (hKb : K ≤ 29) (hK1 : sm + ct / 2 ≤ ct * 2 ^ K) (hK2 : ∀ j, j < K → ct * 2 ^ j < sm + ct / 2) : Met l y_M_state (WSY y_M_state b_M_state 5 (some .int)) ({ frames := 2, cells := 0, slots := 0, locals := 50 }) (va_Pc [.ref y, .int 0, .int 1, .int 0] (fun U => va_P D CLS [(y, .inr (5, [.int th, .int (nI bi), .int (nI ne), .int (nI li), .int (nI sp), .int (nI q), .ref ms, .ref mw, .ref mu, .ref mc, .ref mn, .int en, .int (nI sz), .ref mr, .int (nI wa), .ref mq, .int la, .ref md, .int at0, .int lk])), (mu, .inl (cI, 4, .inl su)), (mc, .inl (cI, 4, .inl cu)), (mn, .inl (cI, 4, .inl nu))] U.heap ∧ va_K D CLS [(cI, .int)] U ∧ va_D (fun _ => True) [(y, .inr (5, [.int th, .int (nI bi), .int (nI ne), .int (nI li), .int (nI sp), .int (nI q), .ref ms, .ref mw, .ref mu, .ref mc, .ref mn, .int en, .int (nI sz), .ref mr, .int (nI wa), .ref mq, .int la, .ref md, .int at0, .int lk])), (mu, .inl (cI, 4, .inl su)), (mc, .inl (cI, 4, .inl cu)), (mn, .inl (cI, 4, .inl nu))])) (QM (some (.int (nI sm))) [(y, .inr (5, [.int th, .int (nI bi), .int (nI ne), .int (nI li), .int (nI sp), .int (nI q), .ref ms, .ref mw, .ref mu, .ref mc, .ref mn, .int en, .int (nI sz), .ref mr, .int (nI wa), .ref mq, .int la, .ref md, .int at0, .int lk])), (mu, .inl (cI, 4, .inl su)), (mc, .inl (cI, 4, .inl cu)), (mn, .inl (cI, 4, .inl nu))] [(y, .inr (5, [.int 0, .int (nI bi), .int (nI ne), .int (nI li), .int (nI sp), .int (nI q), .ref ms, .ref mw, .ref mu, .ref mc, .ref mn, .int en, .int (nI sz), .ref mr, .int (nI wa), .ref mq, .int la, .ref md, .int at0, .int lk])), (mu, .inl (cI, 4, .inl su)), (mc, .inl (cI, 4, .inl cu)), (mn, .inl (cI, 4, .inl nu))] D) 0 0 (ad [(y, .inr (5, [.int th, .int (nI bi), .int (nI ne), .int (nI li), .int (nI sp), .int (nI q), .ref ms, .ref mw, .ref mu, .ref mc, .ref mn, .int en, .int (nI sz), .ref mr, .int (nI wa), .ref mq, .int la, .ref md, .int at0, .int lk])), (mu, .inl (cI, 4, .inl su)), (mc, .inl (cI, 4, .inl cu)), (mn, .inl (cI, 4, .inl nu))]) := by
  refine Met.ofW (cc := b_M_state) (maxL := 5) (ret := (some .int)) (by decide) rfl ?_
  intro p e s m args below meth c s₁ B hml hv
  obtain ⟨rfl, hP, hK, hD0⟩ := hv
  have hx := B.exec
  have hb := B.bytes
  have hr := B.returns
  have hts := atoms_spec (ws := WSY y_M_state b_M_state 5 (some .int)) B.pre
  have hg : ∀ w ∈ GW, w.before _ s = true := fun w h => hts w (List.mem_cons_of_mem _ h)
  have hown : s.vm.findClass "LineGolombModel" = some m.cls := findClass_of_methodNamed B.named
  have hlocks := B.notSynchronized
  obtain ⟨A, hAe⟩ : ∃ A, A = ad [(y, .inr (5, [.int th, .int (nI bi), .int (nI ne), .int (nI li), .int (nI sp), .int (nI q), .ref ms, .ref mw, .ref mu, .ref mc, .ref mn, .int en, .int (nI sz), .ref mr, .int (nI wa), .ref mq, .int la, .ref md, .int at0, .int lk])), (mu, .inl (cI, 4, .inl su)), (mc, .inl (cI, 4, .inl cu)), (mn, .inl (cI, 4, .inl nu))] := ⟨_, rfl⟩
  have hD : va_D A [(y, .inr (5, [.int th, .int (nI bi), .int (nI ne), .int (nI li), .int (nI sp), .int (nI q), .ref ms, .ref mw, .ref mu, .ref mc, .ref mn, .int en, .int (nI sz), .ref mr, .int (nI wa), .ref mq, .int la, .ref md, .int at0, .int lk])), (mu, .inl (cI, 4, .inl su)), (mc, .inl (cI, 4, .inl cu)), (mn, .inl (cI, 4, .inl nu))] := by rw [hAe]; exact va_D_ad hD0
  have hS : va_S A s.heap s.heap [] := va_S.rf
  have hl := lv_entry ([.ref y, .int 0, .int 1, .int 0]) (n := 5) (Nat.le_of_ble_eq_true rfl)
  rw [lg_entry_eq]
  generalize (lg_sl ([.ref y, .int 0, .int 1, .int 0]) ++ List.replicate (5 - (lg_sl ([.ref y, .int 0, .int 1, .int 0])).length) Slot.unset).toArray = ls at hl ⊢
  have hl : lv_has ls 5 [(0, .ref y), (1, .int 0), (2, .int 1), (3, .int 0)] := hl
  refine lv_aload_n hx hb d_M_state_0 rfl (lv_at hl 0 rfl) ?_
  refine lv_aload_n hx hb d_M_state_1 rfl (lv_at hl 0 rfl) ?_
  refine lv_iload_n hx hb d_M_state_2 rfl (lv_at hl 2 rfl) ?_
  have hPc := hP.sub (ws' := [(y, .inr (5, [.int th, .int (nI bi), .int (nI ne), .int (nI li), .int (nI sp), .int (nI q), .ref ms, .ref mw, .ref mu, .ref mc, .ref mn, .int en, .int (nI sz), .ref mr, .int (nI wa), .ref mq, .int la, .ref md, .int at0, .int lk]))]) [0] rfl
  have hKc := hK.sub (tys' := []) [] rfl
  refine pci (va_runV (As := [.int 1]) (rest := [.ref y]) ⟨hx, hb, hml, hown, hg⟩ (c_M_isKind l D y ms mw mu mc mn mr mq md bi ne li sp q sz wa th en la at0 lk 1) (cwV 1 hg (gV gw_626 gw_628 gs_18 gw_7 gw_629) rfl rfl rfl (by decide +kernel) ⟨Nat.le_of_ble_eq_true rfl, Nat.le_of_ble_eq_true rfl⟩) ⟨fun a U g mk q => by obtain ⟨q0, qP, qK⟩ := q; exact ⟨q0, qP, va_K.moved (u := U) (U := U.calling g mk a) (Vm.Alike.refl U.vm) qK⟩, va_recv hKc hPc (ci := 5) (q0 := 0) rfl rfl, fun U hU hW => ⟨rfl, by rw [hU]; exact hPc, va_K.moved hW.alike hKc⟩⟩ rfl rfl hl.1 rfl (lv_room (Nat.le_of_ble_eq_true rfl)) d_M_state_3 (⟨Nat.le_of_ble_eq_true rfl, Nat.le_of_ble_eq_true rfl⟩)) ?_
  refine tpi (y := 1) (by decide) ?_
  refine lv_if_ne (tgt := 13) hx hb d_M_state_6 (by decide) (fun c_1 => ?_) (fun c_1 => ?_)
  · skip
    refine lv_iload_n hx hb d_M_state_13 rfl (lv_at hl 3 rfl) ?_
    refine lv_if_lt (tgt := 22) hx hb d_M_state_14 (by decide) (fun c_2 => ?_) (fun c_2 => ?_)
    · skip
      exact absurd c_2 (by decide)
    · skip
      refine lv_iload_n hx hb d_M_state_17 rfl (lv_at hl 3 rfl) ?_
      refine lv_iconst (v := 3) hx hb d_M_state_18 (by decide) ?_
      refine lv_icmp_le (tgt := 26) hx hb d_M_state_19 (by decide) (fun c_3 => ?_) (fun c_3 => ?_)
      · skip
        refine lv_iconst (v := 0) hx hb d_M_state_26 (by decide) ?_
        refine va_put (D := D) (ci := 5) (v := .int 0) (ty := .int) (C := R_M) (T := T_M) (N := 20) hx hb hg in_M ty_M tok_M nm_M hown hK hP hD hS 0 rfl rfl 0 (by decide) (hg _ gw_524) (fun _ h9 => h9) rfl (by decide +kernel) (rfl) (rfl) (Nat.le_of_ble_eq_true rfl) d_M_state_27 (fun H locs hP hD hS => ?_)
        have hP : va_P D CLS [(y, .inr (5, [.int 0, .int (nI bi), .int (nI ne), .int (nI li), .int (nI sp), .int (nI q), .ref ms, .ref mw, .ref mu, .ref mc, .ref mn, .int en, .int (nI sz), .ref mr, .int (nI wa), .ref mq, .int la, .ref md, .int at0, .int lk])), (mu, .inl (cI, 4, .inl su)), (mc, .inl (cI, 4, .inl cu)), (mn, .inl (cI, 4, .inl nu))] H := hP
        have hD : va_D A [(y, .inr (5, [.int 0, .int (nI bi), .int (nI ne), .int (nI li), .int (nI sp), .int (nI q), .ref ms, .ref mw, .ref mu, .ref mc, .ref mn, .int en, .int (nI sz), .ref mr, .int (nI wa), .ref mq, .int la, .ref md, .int at0, .int lk])), (mu, .inl (cI, 4, .inl su)), (mc, .inl (cI, 4, .inl cu)), (mn, .inl (cI, 4, .inl nu))] := hD
        refine lv_aload_n hx hb d_M_state_30 rfl (lv_at hl 0 rfl) ?_
        refine va_get (D := D) (ci := 5) (v := .int 0) (C := R_M) (T := T_M) (N := 20) hx hb hg in_M hown hK hP 0 rfl rfl 0 (by decide) (hg _ gw_524) (fun _ h9 => h9) rfl d_M_state_31 ?_
        refine lv_if_le (tgt := 39) hx hb d_M_state_34 (by decide) (fun c_4 => ?_) (fun c_4 => ?_)
        · skip
          refine lv_iload_n hx hb d_M_state_39 rfl (lv_at hl 1 rfl) ?_
          refine lv_if_eq (tgt := 47) hx hb d_M_state_40 (by decide) (fun c_5 => ?_) (fun c_5 => ?_)
          · skip
            refine lv_iconst (v := 0) hx hb d_M_state_47 (by decide) ?_
            refine lv_iload_n hx hb d_M_state_48 rfl (lv_at hl 2 rfl) ?_
            refine lv_iadd hx hb d_M_state_49 ?_
            refine tpi (y := 1) (by decide) ?_
            refine lv_istore (lv' := [(4, .int 1), (0, .ref y), (1, .int 0), (2, .int 1), (3, .int 0)]) hx hb d_M_state_50 hl (by decide) rfl (fun ls hl => ?_)
            refine lv_iload_n hx hb d_M_state_52 rfl (lv_at hl 4 rfl) ?_
            refine lv_if_ne (tgt := 66) hx hb d_M_state_53 (by decide) (fun c_6 => ?_) (fun c_6 => ?_)
            · skip
              exact absurd rfl c_6
            · skip
              refine lv_aload_n hx hb d_M_state_56 rfl (lv_at hl 1 rfl) ?_
              refine va_get (D := D) (ci := 5) (v := .ref mu) (C := R_M) (T := T_M) (N := 20) hx hb hg in_M hown hK hP 0 rfl rfl 8 (by decide) (hg _ gw_532) (fun _ h9 => h9) rfl d_M_state_57 ?_
              refine lv_iload hx hb d_M_state_60 (lv_at hl 0 rfl) ?_
              refine va_iald hx hb hK hP 1 0 rfl rfl (vp_in_nI (n := 1) (by decide) (by decide)) d_M_state_62 ?_
              refine tpi (y := nI sm) (hsu) ?_
              refine lv_goto (tgt := 102) hx hb d_M_state_63 (by decide) ?_
              exact W.iret (v := nI sm) hx hb hr (fun t ht hW => ⟨rfl, by rw [ht]; exact hP, (hAe ▸ hS).F ht⟩) (hAe ▸ hS).2.2 d_M_state_102
          · skip
            exact absurd rfl c_5
        · skip
          exact absurd (by decide) c_4
      · skip
        exact absurd (by decide) c_3
  · skip
    exact absurd c_1 (by decide)
set_option maxHeartbeats 4000000 in
set_option maxRecDepth 100000 in
theorem c_M_state011 (l : Launch) (D : va_G) (y ms mw mu mc mn mr mq md bi ne li sp q sz wa : Nat) (th en la at0 lk : Int32) (cI : ClassId) (su cu nu : Nat → Int32) (sm ct ng K : Nat) (hsu : su 1 = nI sm) (hcu : cu 1 = nI ct) (hnu : nu 1 = nI ng) (hc0 : ct ≤ 64) (hn0 : ng ≤ 64) (hs0 : sm < 2 ^ 30) (hKb : K ≤ 29) (hK1 : sm + ct / 2 ≤ ct * 2 ^ K) (hK2 : ∀ j, j < K → ct * 2 ^ j < sm + ct / 2) : Met l y_M_state (WSY y_M_state b_M_state 5 (some .int)) ({ frames := 2, cells := 0, slots := 0, locals := 50 }) (va_Pc [.ref y, .int 0, .int 1, .int 1] (fun U => va_P D CLS [(y, .inr (5, [.int th, .int (nI bi), .int (nI ne), .int (nI li), .int (nI sp), .int (nI q), .ref ms, .ref mw, .ref mu, .ref mc, .ref mn, .int en, .int (nI sz), .ref mr, .int (nI wa), .ref mq, .int la, .ref md, .int at0, .int lk])), (mu, .inl (cI, 4, .inl su)), (mc, .inl (cI, 4, .inl cu)), (mn, .inl (cI, 4, .inl nu))] U.heap ∧ va_K D CLS [(cI, .int)] U ∧ va_D (fun _ => True) [(y, .inr (5, [.int th, .int (nI bi), .int (nI ne), .int (nI li), .int (nI sp), .int (nI q), .ref ms, .ref mw, .ref mu, .ref mc, .ref mn, .int en, .int (nI sz), .ref mr, .int (nI wa), .ref mq, .int la, .ref md, .int at0, .int lk])), (mu, .inl (cI, 4, .inl su)), (mc, .inl (cI, 4, .inl cu)), (mn, .inl (cI, 4, .inl nu))])) (QM (some (.int (nI ct))) [(y, .inr (5, [.int th, .int (nI bi), .int (nI ne), .int (nI li), .int (nI sp), .int (nI q), .ref ms, .ref mw, .ref mu, .ref mc, .ref mn, .int en, .int (nI sz), .ref mr, .int (nI wa), .ref mq, .int la, .ref md, .int at0, .int lk])), (mu, .inl (cI, 4, .inl su)), (mc, .inl (cI, 4, .inl cu)), (mn, .inl (cI, 4, .inl nu))] [(y, .inr (5, [.int 0, .int (nI bi), .int (nI ne), .int (nI li), .int (nI sp), .int (nI q), .ref ms, .ref mw, .ref mu, .ref mc, .ref mn, .int en, .int (nI sz), .ref mr, .int (nI wa), .ref mq, .int la, .ref md, .int at0, .int lk])), (mu, .inl (cI, 4, .inl su)), (mc, .inl (cI, 4, .inl cu)), (mn, .inl (cI, 4, .inl nu))] D) 0 0 (ad [(y, .inr (5, [.int th, .int (nI bi), .int (nI ne), .int (nI li), .int (nI sp), .int (nI q), .ref ms, .ref mw, .ref mu, .ref mc, .ref mn, .int en, .int (nI sz), .ref mr, .int (nI wa), .ref mq, .int la, .ref md, .int at0, .int lk])), (mu, .inl (cI, 4, .inl su)), (mc, .inl (cI, 4, .inl cu)), (mn, .inl (cI, 4, .inl nu))]) := by
  refine Met.ofW (cc := b_M_state) (maxL := 5) (ret := (some .int)) (by decide) rfl ?_
  intro p e s m args below meth c s₁ B hml hv
  obtain ⟨rfl, hP, hK, hD0⟩ := hv
  have hx := B.exec
  have hb := B.bytes
  have hr := B.returns
  have hts := atoms_spec (ws := WSY y_M_state b_M_state 5 (some .int)) B.pre
  have hg : ∀ w ∈ GW, w.before _ s = true := fun w h => hts w (List.mem_cons_of_mem _ h)
  have hown : s.vm.findClass "LineGolombModel" = some m.cls := findClass_of_methodNamed B.named
  have hlocks := B.notSynchronized
  obtain ⟨A, hAe⟩ : ∃ A, A = ad [(y, .inr (5, [.int th, .int (nI bi), .int (nI ne), .int (nI li), .int (nI sp), .int (nI q), .ref ms, .ref mw, .ref mu, .ref mc, .ref mn, .int en, .int (nI sz), .ref mr, .int (nI wa), .ref mq, .int la, .ref md, .int at0, .int lk])), (mu, .inl (cI, 4, .inl su)), (mc, .inl (cI, 4, .inl cu)), (mn, .inl (cI, 4, .inl nu))] := ⟨_, rfl⟩
  have hD : va_D A [(y, .inr (5, [.int th, .int (nI bi), .int (nI ne), .int (nI li), .int (nI sp), .int (nI q), .ref ms, .ref mw, .ref mu, .ref mc, .ref mn, .int en, .int (nI sz), .ref mr, .int (nI wa), .ref mq, .int la, .ref md, .int at0, .int lk])), (mu, .inl (cI, 4, .inl su)), (mc, .inl (cI, 4, .inl cu)), (mn, .inl (cI, 4, .inl nu))] := by rw [hAe]; exact va_D_ad hD0
  have hS : va_S A s.heap s.heap [] := va_S.rf
  have hl := lv_entry ([.ref y, .int 0, .int 1, .int 1]) (n := 5) (Nat.le_of_ble_eq_true rfl)
  rw [lg_entry_eq]
  generalize (lg_sl ([.ref y, .int 0, .int 1, .int 1]) ++ List.replicate (5 - (lg_sl ([.ref y, .int 0, .int 1, .int 1])).length) Slot.unset).toArray = ls at hl ⊢
  have hl : lv_has ls 5 [(0, .ref y), (1, .int 0), (2, .int 1), (3, .int 1)] := hl
  refine lv_aload_n hx hb d_M_state_0 rfl (lv_at hl 0 rfl) ?_
  refine lv_aload_n hx hb d_M_state_1 rfl (lv_at hl 0 rfl) ?_
  refine lv_iload_n hx hb d_M_state_2 rfl (lv_at hl 2 rfl) ?_
  have hPc := hP.sub (ws' := [(y, .inr (5, [.int th, .int (nI bi), .int (nI ne), .int (nI li), .int (nI sp), .int (nI q), .ref ms, .ref mw, .ref mu, .ref mc, .ref mn, .int en, .int (nI sz), .ref mr, .int (nI wa), .ref mq, .int la, .ref md, .int at0, .int lk]))]) [0] rfl
  have hKc := hK.sub (tys' := []) [] rfl
  refine pci (va_runV (As := [.int 1]) (rest := [.ref y]) ⟨hx, hb, hml, hown, hg⟩ (c_M_isKind l D y ms mw mu mc mn mr mq md bi ne li sp q sz wa th en la at0 lk 1) (cwV 1 hg (gV gw_626 gw_628 gs_18 gw_7 gw_629) rfl rfl rfl (by decide +kernel) ⟨Nat.le_of_ble_eq_true rfl, Nat.le_of_ble_eq_true rfl⟩) ⟨fun a U g mk q => by obtain ⟨q0, qP, qK⟩ := q; exact ⟨q0, qP, va_K.moved (u := U) (U := U.calling g mk a) (Vm.Alike.refl U.vm) qK⟩, va_recv hKc hPc (ci := 5) (q0 := 0) rfl rfl, fun U hU hW => ⟨rfl, by rw [hU]; exact hPc, va_K.moved hW.alike hKc⟩⟩ rfl rfl hl.1 rfl (lv_room (Nat.le_of_ble_eq_true rfl)) d_M_state_3 (⟨Nat.le_of_ble_eq_true rfl, Nat.le_of_ble_eq_true rfl⟩)) ?_
  refine tpi (y := 1) (by decide) ?_
  refine lv_if_ne (tgt := 13) hx hb d_M_state_6 (by decide) (fun c_1 => ?_) (fun c_1 => ?_)
  · skip
    refine lv_iload_n hx hb d_M_state_13 rfl (lv_at hl 3 rfl) ?_
    refine lv_if_lt (tgt := 22) hx hb d_M_state_14 (by decide) (fun c_2 => ?_) (fun c_2 => ?_)
    · skip
      exact absurd c_2 (by decide)
    · skip
      refine lv_iload_n hx hb d_M_state_17 rfl (lv_at hl 3 rfl) ?_
      refine lv_iconst (v := 3) hx hb d_M_state_18 (by decide) ?_
      refine lv_icmp_le (tgt := 26) hx hb d_M_state_19 (by decide) (fun c_3 => ?_) (fun c_3 => ?_)
      · skip
        refine lv_iconst (v := 0) hx hb d_M_state_26 (by decide) ?_
        refine va_put (D := D) (ci := 5) (v := .int 0) (ty := .int) (C := R_M) (T := T_M) (N := 20) hx hb hg in_M ty_M tok_M nm_M hown hK hP hD hS 0 rfl rfl 0 (by decide) (hg _ gw_524) (fun _ h9 => h9) rfl (by decide +kernel) (rfl) (rfl) (Nat.le_of_ble_eq_true rfl) d_M_state_27 (fun H locs hP hD hS => ?_)
        have hP : va_P D CLS [(y, .inr (5, [.int 0, .int (nI bi), .int (nI ne), .int (nI li), .int (nI sp), .int (nI q), .ref ms, .ref mw, .ref mu, .ref mc, .ref mn, .int en, .int (nI sz), .ref mr, .int (nI wa), .ref mq, .int la, .ref md, .int at0, .int lk])), (mu, .inl (cI, 4, .inl su)), (mc, .inl (cI, 4, .inl cu)), (mn, .inl (cI, 4, .inl nu))] H := hP
        have hD : va_D A [(y, .inr (5, [.int 0, .int (nI bi), .int (nI ne), .int (nI li), .int (nI sp), .int (nI q), .ref ms, .ref mw, .ref mu, .ref mc, .ref mn, .int en, .int (nI sz), .ref mr, .int (nI wa), .ref mq, .int la, .ref md, .int at0, .int lk])), (mu, .inl (cI, 4, .inl su)), (mc, .inl (cI, 4, .inl cu)), (mn, .inl (cI, 4, .inl nu))] := hD
        refine lv_aload_n hx hb d_M_state_30 rfl (lv_at hl 0 rfl) ?_
        refine va_get (D := D) (ci := 5) (v := .int 0) (C := R_M) (T := T_M) (N := 20) hx hb hg in_M hown hK hP 0 rfl rfl 0 (by decide) (hg _ gw_524) (fun _ h9 => h9) rfl d_M_state_31 ?_
        refine lv_if_le (tgt := 39) hx hb d_M_state_34 (by decide) (fun c_4 => ?_) (fun c_4 => ?_)
        · skip
          refine lv_iload_n hx hb d_M_state_39 rfl (lv_at hl 1 rfl) ?_
          refine lv_if_eq (tgt := 47) hx hb d_M_state_40 (by decide) (fun c_5 => ?_) (fun c_5 => ?_)
          · skip
            refine lv_iconst (v := 0) hx hb d_M_state_47 (by decide) ?_
            refine lv_iload_n hx hb d_M_state_48 rfl (lv_at hl 2 rfl) ?_
            refine lv_iadd hx hb d_M_state_49 ?_
            refine tpi (y := 1) (by decide) ?_
            refine lv_istore (lv' := [(4, .int 1), (0, .ref y), (1, .int 0), (2, .int 1), (3, .int 1)]) hx hb d_M_state_50 hl (by decide) rfl (fun ls hl => ?_)
            refine lv_iload_n hx hb d_M_state_52 rfl (lv_at hl 4 rfl) ?_
            refine lv_if_ne (tgt := 66) hx hb d_M_state_53 (by decide) (fun c_6 => ?_) (fun c_6 => ?_)
            · skip
              refine lv_iload_n hx hb d_M_state_66 rfl (lv_at hl 4 rfl) ?_
              refine lv_iconst (v := 1) hx hb d_M_state_67 (by decide) ?_
              refine lv_icmp_ne (tgt := 81) hx hb d_M_state_68 (by decide) (fun c_7 => ?_) (fun c_7 => ?_)
              · skip
                exact absurd rfl c_7
              · skip
                refine lv_aload_n hx hb d_M_state_71 rfl (lv_at hl 1 rfl) ?_
                refine va_get (D := D) (ci := 5) (v := .ref mc) (C := R_M) (T := T_M) (N := 20) hx hb hg in_M hown hK hP 0 rfl rfl 9 (by decide) (hg _ gw_533) (fun _ h9 => h9) rfl d_M_state_72 ?_
                refine lv_iload hx hb d_M_state_75 (lv_at hl 0 rfl) ?_
                refine va_iald hx hb hK hP 2 0 rfl rfl (vp_in_nI (n := 1) (by decide) (by decide)) d_M_state_77 ?_
                refine tpi (y := nI ct) (hcu) ?_
                refine lv_goto (tgt := 102) hx hb d_M_state_78 (by decide) ?_
                exact W.iret (v := nI ct) hx hb hr (fun t ht hW => ⟨rfl, by rw [ht]; exact hP, (hAe ▸ hS).F ht⟩) (hAe ▸ hS).2.2 d_M_state_102
            · skip
              exact absurd c_6 (by decide)
          · skip
            exact absurd rfl c_5
        · skip
          exact absurd (by decide) c_4
      · skip
        exact absurd (by decide) c_3
  · skip
    exact absurd c_1 (by decide)
set_option maxHeartbeats 4000000 in
set_option maxRecDepth 100000 in
theorem c_M_state012 (l : Launch) (D : va_G) (y ms mw mu mc mn mr mq md bi ne li sp q sz wa : Nat) (th en la at0 lk : Int32) (cI : ClassId) (su cu nu : Nat → Int32) (sm ct ng K : Nat) (hsu : su 1 = nI sm) (hcu : cu 1 = nI ct) (hnu : nu 1 = nI ng) (hc0 : ct ≤ 64) (hn0 : ng ≤ 64) (hs0 : sm < 2 ^ 30) (hKb : K ≤ 29) (hK1 : sm + ct / 2 ≤ ct * 2 ^ K) (hK2 : ∀ j, j < K → ct * 2 ^ j < sm + ct / 2) : Met l y_M_state (WSY y_M_state b_M_state 5 (some .int)) ({ frames := 2, cells := 0, slots := 0, locals := 50 }) (va_Pc [.ref y, .int 0, .int 1, .int 2] (fun U => va_P D CLS [(y, .inr (5, [.int th, .int (nI bi), .int (nI ne), .int (nI li), .int (nI sp), .int (nI q), .ref ms, .ref mw, .ref mu, .ref mc, .ref mn, .int en, .int (nI sz), .ref mr, .int (nI wa), .ref mq, .int la, .ref md, .int at0, .int lk])), (mu, .inl (cI, 4, .inl su)), (mc, .inl (cI, 4, .inl cu)), (mn, .inl (cI, 4, .inl nu))] U.heap ∧ va_K D CLS [(cI, .int)] U ∧ va_D (fun _ => True) [(y, .inr (5, [.int th, .int (nI bi), .int (nI ne), .int (nI li), .int (nI sp), .int (nI q), .ref ms, .ref mw, .ref mu, .ref mc, .ref mn, .int en, .int (nI sz), .ref mr, .int (nI wa), .ref mq, .int la, .ref md, .int at0, .int lk])), (mu, .inl (cI, 4, .inl su)), (mc, .inl (cI, 4, .inl cu)), (mn, .inl (cI, 4, .inl nu))])) (QM (some (.int (nI ng))) [(y, .inr (5, [.int th, .int (nI bi), .int (nI ne), .int (nI li), .int (nI sp), .int (nI q), .ref ms, .ref mw, .ref mu, .ref mc, .ref mn, .int en, .int (nI sz), .ref mr, .int (nI wa), .ref mq, .int la, .ref md, .int at0, .int lk])), (mu, .inl (cI, 4, .inl su)), (mc, .inl (cI, 4, .inl cu)), (mn, .inl (cI, 4, .inl nu))] [(y, .inr (5, [.int 0, .int (nI bi), .int (nI ne), .int (nI li), .int (nI sp), .int (nI q), .ref ms, .ref mw, .ref mu, .ref mc, .ref mn, .int en, .int (nI sz), .ref mr, .int (nI wa), .ref mq, .int la, .ref md, .int at0, .int lk])), (mu, .inl (cI, 4, .inl su)), (mc, .inl (cI, 4, .inl cu)), (mn, .inl (cI, 4, .inl nu))] D) 0 0 (ad [(y, .inr (5, [.int th, .int (nI bi), .int (nI ne), .int (nI li), .int (nI sp), .int (nI q), .ref ms, .ref mw, .ref mu, .ref mc, .ref mn, .int en, .int (nI sz), .ref mr, .int (nI wa), .ref mq, .int la, .ref md, .int at0, .int lk])), (mu, .inl (cI, 4, .inl su)), (mc, .inl (cI, 4, .inl cu)), (mn, .inl (cI, 4, .inl nu))]) := by
  refine Met.ofW (cc := b_M_state) (maxL := 5) (ret := (some .int)) (by decide) rfl ?_
  intro p e s m args below meth c s₁ B hml hv
  obtain ⟨rfl, hP, hK, hD0⟩ := hv
  have hx := B.exec
  have hb := B.bytes
  have hr := B.returns
  have hts := atoms_spec (ws := WSY y_M_state b_M_state 5 (some .int)) B.pre
  have hg : ∀ w ∈ GW, w.before _ s = true := fun w h => hts w (List.mem_cons_of_mem _ h)
  have hown : s.vm.findClass "LineGolombModel" = some m.cls := findClass_of_methodNamed B.named
  have hlocks := B.notSynchronized
  obtain ⟨A, hAe⟩ : ∃ A, A = ad [(y, .inr (5, [.int th, .int (nI bi), .int (nI ne), .int (nI li), .int (nI sp), .int (nI q), .ref ms, .ref mw, .ref mu, .ref mc, .ref mn, .int en, .int (nI sz), .ref mr, .int (nI wa), .ref mq, .int la, .ref md, .int at0, .int lk])), (mu, .inl (cI, 4, .inl su)), (mc, .inl (cI, 4, .inl cu)), (mn, .inl (cI, 4, .inl nu))] := ⟨_, rfl⟩
  have hD : va_D A [(y, .inr (5, [.int th, .int (nI bi), .int (nI ne), .int (nI li), .int (nI sp), .int (nI q), .ref ms, .ref mw, .ref mu, .ref mc, .ref mn, .int en, .int (nI sz), .ref mr, .int (nI wa), .ref mq, .int la, .ref md, .int at0, .int lk])), (mu, .inl (cI, 4, .inl su)), (mc, .inl (cI, 4, .inl cu)), (mn, .inl (cI, 4, .inl nu))] := by rw [hAe]; exact va_D_ad hD0
  have hS : va_S A s.heap s.heap [] := va_S.rf
  have hl := lv_entry ([.ref y, .int 0, .int 1, .int 2]) (n := 5) (Nat.le_of_ble_eq_true rfl)
  rw [lg_entry_eq]
  generalize (lg_sl ([.ref y, .int 0, .int 1, .int 2]) ++ List.replicate (5 - (lg_sl ([.ref y, .int 0, .int 1, .int 2])).length) Slot.unset).toArray = ls at hl ⊢
  have hl : lv_has ls 5 [(0, .ref y), (1, .int 0), (2, .int 1), (3, .int 2)] := hl
  refine lv_aload_n hx hb d_M_state_0 rfl (lv_at hl 0 rfl) ?_
  refine lv_aload_n hx hb d_M_state_1 rfl (lv_at hl 0 rfl) ?_
  refine lv_iload_n hx hb d_M_state_2 rfl (lv_at hl 2 rfl) ?_
  have hPc := hP.sub (ws' := [(y, .inr (5, [.int th, .int (nI bi), .int (nI ne), .int (nI li), .int (nI sp), .int (nI q), .ref ms, .ref mw, .ref mu, .ref mc, .ref mn, .int en, .int (nI sz), .ref mr, .int (nI wa), .ref mq, .int la, .ref md, .int at0, .int lk]))]) [0] rfl
  have hKc := hK.sub (tys' := []) [] rfl
  refine pci (va_runV (As := [.int 1]) (rest := [.ref y]) ⟨hx, hb, hml, hown, hg⟩ (c_M_isKind l D y ms mw mu mc mn mr mq md bi ne li sp q sz wa th en la at0 lk 1) (cwV 1 hg (gV gw_626 gw_628 gs_18 gw_7 gw_629) rfl rfl rfl (by decide +kernel) ⟨Nat.le_of_ble_eq_true rfl, Nat.le_of_ble_eq_true rfl⟩) ⟨fun a U g mk q => by obtain ⟨q0, qP, qK⟩ := q; exact ⟨q0, qP, va_K.moved (u := U) (U := U.calling g mk a) (Vm.Alike.refl U.vm) qK⟩, va_recv hKc hPc (ci := 5) (q0 := 0) rfl rfl, fun U hU hW => ⟨rfl, by rw [hU]; exact hPc, va_K.moved hW.alike hKc⟩⟩ rfl rfl hl.1 rfl (lv_room (Nat.le_of_ble_eq_true rfl)) d_M_state_3 (⟨Nat.le_of_ble_eq_true rfl, Nat.le_of_ble_eq_true rfl⟩)) ?_
  refine tpi (y := 1) (by decide) ?_
  refine lv_if_ne (tgt := 13) hx hb d_M_state_6 (by decide) (fun c_1 => ?_) (fun c_1 => ?_)
  · skip
    refine lv_iload_n hx hb d_M_state_13 rfl (lv_at hl 3 rfl) ?_
    refine lv_if_lt (tgt := 22) hx hb d_M_state_14 (by decide) (fun c_2 => ?_) (fun c_2 => ?_)
    · skip
      exact absurd c_2 (by decide)
    · skip
      refine lv_iload_n hx hb d_M_state_17 rfl (lv_at hl 3 rfl) ?_
      refine lv_iconst (v := 3) hx hb d_M_state_18 (by decide) ?_
      refine lv_icmp_le (tgt := 26) hx hb d_M_state_19 (by decide) (fun c_3 => ?_) (fun c_3 => ?_)
      · skip
        refine lv_iconst (v := 0) hx hb d_M_state_26 (by decide) ?_
        refine va_put (D := D) (ci := 5) (v := .int 0) (ty := .int) (C := R_M) (T := T_M) (N := 20) hx hb hg in_M ty_M tok_M nm_M hown hK hP hD hS 0 rfl rfl 0 (by decide) (hg _ gw_524) (fun _ h9 => h9) rfl (by decide +kernel) (rfl) (rfl) (Nat.le_of_ble_eq_true rfl) d_M_state_27 (fun H locs hP hD hS => ?_)
        have hP : va_P D CLS [(y, .inr (5, [.int 0, .int (nI bi), .int (nI ne), .int (nI li), .int (nI sp), .int (nI q), .ref ms, .ref mw, .ref mu, .ref mc, .ref mn, .int en, .int (nI sz), .ref mr, .int (nI wa), .ref mq, .int la, .ref md, .int at0, .int lk])), (mu, .inl (cI, 4, .inl su)), (mc, .inl (cI, 4, .inl cu)), (mn, .inl (cI, 4, .inl nu))] H := hP
        have hD : va_D A [(y, .inr (5, [.int 0, .int (nI bi), .int (nI ne), .int (nI li), .int (nI sp), .int (nI q), .ref ms, .ref mw, .ref mu, .ref mc, .ref mn, .int en, .int (nI sz), .ref mr, .int (nI wa), .ref mq, .int la, .ref md, .int at0, .int lk])), (mu, .inl (cI, 4, .inl su)), (mc, .inl (cI, 4, .inl cu)), (mn, .inl (cI, 4, .inl nu))] := hD
        refine lv_aload_n hx hb d_M_state_30 rfl (lv_at hl 0 rfl) ?_
        refine va_get (D := D) (ci := 5) (v := .int 0) (C := R_M) (T := T_M) (N := 20) hx hb hg in_M hown hK hP 0 rfl rfl 0 (by decide) (hg _ gw_524) (fun _ h9 => h9) rfl d_M_state_31 ?_
        refine lv_if_le (tgt := 39) hx hb d_M_state_34 (by decide) (fun c_4 => ?_) (fun c_4 => ?_)
        · skip
          refine lv_iload_n hx hb d_M_state_39 rfl (lv_at hl 1 rfl) ?_
          refine lv_if_eq (tgt := 47) hx hb d_M_state_40 (by decide) (fun c_5 => ?_) (fun c_5 => ?_)
          · skip
            refine lv_iconst (v := 0) hx hb d_M_state_47 (by decide) ?_
            refine lv_iload_n hx hb d_M_state_48 rfl (lv_at hl 2 rfl) ?_
            refine lv_iadd hx hb d_M_state_49 ?_
            refine tpi (y := 1) (by decide) ?_
            refine lv_istore (lv' := [(4, .int 1), (0, .ref y), (1, .int 0), (2, .int 1), (3, .int 2)]) hx hb d_M_state_50 hl (by decide) rfl (fun ls hl => ?_)
            refine lv_iload_n hx hb d_M_state_52 rfl (lv_at hl 4 rfl) ?_
            refine lv_if_ne (tgt := 66) hx hb d_M_state_53 (by decide) (fun c_6 => ?_) (fun c_6 => ?_)
            · skip
              refine lv_iload_n hx hb d_M_state_66 rfl (lv_at hl 4 rfl) ?_
              refine lv_iconst (v := 1) hx hb d_M_state_67 (by decide) ?_
              refine lv_icmp_ne (tgt := 81) hx hb d_M_state_68 (by decide) (fun c_7 => ?_) (fun c_7 => ?_)
              · skip
                refine lv_iload_n hx hb d_M_state_81 rfl (lv_at hl 4 rfl) ?_
                refine lv_iconst (v := 2) hx hb d_M_state_82 (by decide) ?_
                refine lv_icmp_ne (tgt := 96) hx hb d_M_state_83 (by decide) (fun c_8 => ?_) (fun c_8 => ?_)
                · skip
                  exact absurd rfl c_8
                · skip
                  refine lv_aload_n hx hb d_M_state_86 rfl (lv_at hl 1 rfl) ?_
                  refine va_get (D := D) (ci := 5) (v := .ref mn) (C := R_M) (T := T_M) (N := 20) hx hb hg in_M hown hK hP 0 rfl rfl 10 (by decide) (hg _ gw_534) (fun _ h9 => h9) rfl d_M_state_87 ?_
                  refine lv_iload hx hb d_M_state_90 (lv_at hl 0 rfl) ?_
                  refine va_iald hx hb hK hP 3 0 rfl rfl (vp_in_nI (n := 1) (by decide) (by decide)) d_M_state_92 ?_
                  refine tpi (y := nI ng) (hnu) ?_
                  refine lv_goto (tgt := 102) hx hb d_M_state_93 (by decide) ?_
                  exact W.iret (v := nI ng) hx hb hr (fun t ht hW => ⟨rfl, by rw [ht]; exact hP, (hAe ▸ hS).F ht⟩) (hAe ▸ hS).2.2 d_M_state_102
              · skip
                exact absurd c_7 (by decide)
            · skip
              exact absurd c_6 (by decide)
          · skip
            exact absurd rfl c_5
        · skip
          exact absurd (by decide) c_4
      · skip
        exact absurd (by decide) c_3
  · skip
    exact absurd c_1 (by decide)
set_option maxHeartbeats 4000000 in
set_option maxRecDepth 100000 in
theorem c_M_state013 (l : Launch) (D : va_G) (y ms mw mu mc mn mr mq md bi ne li sp q sz wa : Nat) (th en la at0 lk : Int32) (cI : ClassId) (su cu nu : Nat → Int32) (sm ct ng K : Nat) (hsu : su 1 = nI sm) (hcu : cu 1 = nI ct) (hnu : nu 1 = nI ng) (hc0 : ct ≤ 64) (hn0 : ng ≤ 64) (hs0 : sm < 2 ^ 30) (hKb : K ≤ 29) (hK1 : sm + ct / 2 ≤ ct * 2 ^ K) (hK2 : ∀ j, j < K → ct * 2 ^ j < sm + ct / 2) : Met l y_M_state (WSY y_M_state b_M_state 5 (some .int)) ({ frames := 2, cells := 0, slots := 0, locals := 50 }) (va_Pc [.ref y, .int 0, .int 1, .int 3] (fun U => va_P D CLS [(y, .inr (5, [.int th, .int (nI bi), .int (nI ne), .int (nI li), .int (nI sp), .int (nI q), .ref ms, .ref mw, .ref mu, .ref mc, .ref mn, .int en, .int (nI sz), .ref mr, .int (nI wa), .ref mq, .int la, .ref md, .int at0, .int lk])), (mu, .inl (cI, 4, .inl su)), (mc, .inl (cI, 4, .inl cu)), (mn, .inl (cI, 4, .inl nu))] U.heap ∧ va_K D CLS [(cI, .int)] U ∧ va_D (fun _ => True) [(y, .inr (5, [.int th, .int (nI bi), .int (nI ne), .int (nI li), .int (nI sp), .int (nI q), .ref ms, .ref mw, .ref mu, .ref mc, .ref mn, .int en, .int (nI sz), .ref mr, .int (nI wa), .ref mq, .int la, .ref md, .int at0, .int lk])), (mu, .inl (cI, 4, .inl su)), (mc, .inl (cI, 4, .inl cu)), (mn, .inl (cI, 4, .inl nu))])) (QM (some (.int (nI K))) [(y, .inr (5, [.int th, .int (nI bi), .int (nI ne), .int (nI li), .int (nI sp), .int (nI q), .ref ms, .ref mw, .ref mu, .ref mc, .ref mn, .int en, .int (nI sz), .ref mr, .int (nI wa), .ref mq, .int la, .ref md, .int at0, .int lk])), (mu, .inl (cI, 4, .inl su)), (mc, .inl (cI, 4, .inl cu)), (mn, .inl (cI, 4, .inl nu))] [(y, .inr (5, [.int 0, .int (nI bi), .int (nI ne), .int (nI li), .int (nI sp), .int (nI q), .ref ms, .ref mw, .ref mu, .ref mc, .ref mn, .int en, .int (nI sz), .ref mr, .int (nI wa), .ref mq, .int la, .ref md, .int at0, .int lk])), (mu, .inl (cI, 4, .inl su)), (mc, .inl (cI, 4, .inl cu)), (mn, .inl (cI, 4, .inl nu))] D) 0 0 (ad [(y, .inr (5, [.int th, .int (nI bi), .int (nI ne), .int (nI li), .int (nI sp), .int (nI q), .ref ms, .ref mw, .ref mu, .ref mc, .ref mn, .int en, .int (nI sz), .ref mr, .int (nI wa), .ref mq, .int la, .ref md, .int at0, .int lk])), (mu, .inl (cI, 4, .inl su)), (mc, .inl (cI, 4, .inl cu)), (mn, .inl (cI, 4, .inl nu))]) := by
  refine Met.ofW (cc := b_M_state) (maxL := 5) (ret := (some .int)) (by decide) rfl ?_
  intro p e s m args below meth c s₁ B hml hv
  obtain ⟨rfl, hP, hK, hD0⟩ := hv
  have hx := B.exec
  have hb := B.bytes
  have hr := B.returns
  have hts := atoms_spec (ws := WSY y_M_state b_M_state 5 (some .int)) B.pre
  have hg : ∀ w ∈ GW, w.before _ s = true := fun w h => hts w (List.mem_cons_of_mem _ h)
  have hown : s.vm.findClass "LineGolombModel" = some m.cls := findClass_of_methodNamed B.named
  have hlocks := B.notSynchronized
  obtain ⟨A, hAe⟩ : ∃ A, A = ad [(y, .inr (5, [.int th, .int (nI bi), .int (nI ne), .int (nI li), .int (nI sp), .int (nI q), .ref ms, .ref mw, .ref mu, .ref mc, .ref mn, .int en, .int (nI sz), .ref mr, .int (nI wa), .ref mq, .int la, .ref md, .int at0, .int lk])), (mu, .inl (cI, 4, .inl su)), (mc, .inl (cI, 4, .inl cu)), (mn, .inl (cI, 4, .inl nu))] := ⟨_, rfl⟩
  have hD : va_D A [(y, .inr (5, [.int th, .int (nI bi), .int (nI ne), .int (nI li), .int (nI sp), .int (nI q), .ref ms, .ref mw, .ref mu, .ref mc, .ref mn, .int en, .int (nI sz), .ref mr, .int (nI wa), .ref mq, .int la, .ref md, .int at0, .int lk])), (mu, .inl (cI, 4, .inl su)), (mc, .inl (cI, 4, .inl cu)), (mn, .inl (cI, 4, .inl nu))] := by rw [hAe]; exact va_D_ad hD0
  have hS : va_S A s.heap s.heap [] := va_S.rf
  have hl := lv_entry ([.ref y, .int 0, .int 1, .int 3]) (n := 5) (Nat.le_of_ble_eq_true rfl)
  rw [lg_entry_eq]
  generalize (lg_sl ([.ref y, .int 0, .int 1, .int 3]) ++ List.replicate (5 - (lg_sl ([.ref y, .int 0, .int 1, .int 3])).length) Slot.unset).toArray = ls at hl ⊢
  have hl : lv_has ls 5 [(0, .ref y), (1, .int 0), (2, .int 1), (3, .int 3)] := hl
  refine lv_aload_n hx hb d_M_state_0 rfl (lv_at hl 0 rfl) ?_
  refine lv_aload_n hx hb d_M_state_1 rfl (lv_at hl 0 rfl) ?_
  refine lv_iload_n hx hb d_M_state_2 rfl (lv_at hl 2 rfl) ?_
  have hPc := hP.sub (ws' := [(y, .inr (5, [.int th, .int (nI bi), .int (nI ne), .int (nI li), .int (nI sp), .int (nI q), .ref ms, .ref mw, .ref mu, .ref mc, .ref mn, .int en, .int (nI sz), .ref mr, .int (nI wa), .ref mq, .int la, .ref md, .int at0, .int lk]))]) [0] rfl
  have hKc := hK.sub (tys' := []) [] rfl
  refine pci (va_runV (As := [.int 1]) (rest := [.ref y]) ⟨hx, hb, hml, hown, hg⟩ (c_M_isKind l D y ms mw mu mc mn mr mq md bi ne li sp q sz wa th en la at0 lk 1) (cwV 1 hg (gV gw_626 gw_628 gs_18 gw_7 gw_629) rfl rfl rfl (by decide +kernel) ⟨Nat.le_of_ble_eq_true rfl, Nat.le_of_ble_eq_true rfl⟩) ⟨fun a U g mk q => by obtain ⟨q0, qP, qK⟩ := q; exact ⟨q0, qP, va_K.moved (u := U) (U := U.calling g mk a) (Vm.Alike.refl U.vm) qK⟩, va_recv hKc hPc (ci := 5) (q0 := 0) rfl rfl, fun U hU hW => ⟨rfl, by rw [hU]; exact hPc, va_K.moved hW.alike hKc⟩⟩ rfl rfl hl.1 rfl (lv_room (Nat.le_of_ble_eq_true rfl)) d_M_state_3 (⟨Nat.le_of_ble_eq_true rfl, Nat.le_of_ble_eq_true rfl⟩)) ?_
  refine tpi (y := 1) (by decide) ?_
  refine lv_if_ne (tgt := 13) hx hb d_M_state_6 (by decide) (fun c_1 => ?_) (fun c_1 => ?_)
  · skip
    refine lv_iload_n hx hb d_M_state_13 rfl (lv_at hl 3 rfl) ?_
    refine lv_if_lt (tgt := 22) hx hb d_M_state_14 (by decide) (fun c_2 => ?_) (fun c_2 => ?_)
    · skip
      exact absurd c_2 (by decide)
    · skip
      refine lv_iload_n hx hb d_M_state_17 rfl (lv_at hl 3 rfl) ?_
      refine lv_iconst (v := 3) hx hb d_M_state_18 (by decide) ?_
      refine lv_icmp_le (tgt := 26) hx hb d_M_state_19 (by decide) (fun c_3 => ?_) (fun c_3 => ?_)
      · skip
        refine lv_iconst (v := 0) hx hb d_M_state_26 (by decide) ?_
        refine va_put (D := D) (ci := 5) (v := .int 0) (ty := .int) (C := R_M) (T := T_M) (N := 20) hx hb hg in_M ty_M tok_M nm_M hown hK hP hD hS 0 rfl rfl 0 (by decide) (hg _ gw_524) (fun _ h9 => h9) rfl (by decide +kernel) (rfl) (rfl) (Nat.le_of_ble_eq_true rfl) d_M_state_27 (fun H locs hP hD hS => ?_)
        have hP : va_P D CLS [(y, .inr (5, [.int 0, .int (nI bi), .int (nI ne), .int (nI li), .int (nI sp), .int (nI q), .ref ms, .ref mw, .ref mu, .ref mc, .ref mn, .int en, .int (nI sz), .ref mr, .int (nI wa), .ref mq, .int la, .ref md, .int at0, .int lk])), (mu, .inl (cI, 4, .inl su)), (mc, .inl (cI, 4, .inl cu)), (mn, .inl (cI, 4, .inl nu))] H := hP
        have hD : va_D A [(y, .inr (5, [.int 0, .int (nI bi), .int (nI ne), .int (nI li), .int (nI sp), .int (nI q), .ref ms, .ref mw, .ref mu, .ref mc, .ref mn, .int en, .int (nI sz), .ref mr, .int (nI wa), .ref mq, .int la, .ref md, .int at0, .int lk])), (mu, .inl (cI, 4, .inl su)), (mc, .inl (cI, 4, .inl cu)), (mn, .inl (cI, 4, .inl nu))] := hD
        refine lv_aload_n hx hb d_M_state_30 rfl (lv_at hl 0 rfl) ?_
        refine va_get (D := D) (ci := 5) (v := .int 0) (C := R_M) (T := T_M) (N := 20) hx hb hg in_M hown hK hP 0 rfl rfl 0 (by decide) (hg _ gw_524) (fun _ h9 => h9) rfl d_M_state_31 ?_
        refine lv_if_le (tgt := 39) hx hb d_M_state_34 (by decide) (fun c_4 => ?_) (fun c_4 => ?_)
        · skip
          refine lv_iload_n hx hb d_M_state_39 rfl (lv_at hl 1 rfl) ?_
          refine lv_if_eq (tgt := 47) hx hb d_M_state_40 (by decide) (fun c_5 => ?_) (fun c_5 => ?_)
          · skip
            refine lv_iconst (v := 0) hx hb d_M_state_47 (by decide) ?_
            refine lv_iload_n hx hb d_M_state_48 rfl (lv_at hl 2 rfl) ?_
            refine lv_iadd hx hb d_M_state_49 ?_
            refine tpi (y := 1) (by decide) ?_
            refine lv_istore (lv' := [(4, .int 1), (0, .ref y), (1, .int 0), (2, .int 1), (3, .int 3)]) hx hb d_M_state_50 hl (by decide) rfl (fun ls hl => ?_)
            refine lv_iload_n hx hb d_M_state_52 rfl (lv_at hl 4 rfl) ?_
            refine lv_if_ne (tgt := 66) hx hb d_M_state_53 (by decide) (fun c_6 => ?_) (fun c_6 => ?_)
            · skip
              refine lv_iload_n hx hb d_M_state_66 rfl (lv_at hl 4 rfl) ?_
              refine lv_iconst (v := 1) hx hb d_M_state_67 (by decide) ?_
              refine lv_icmp_ne (tgt := 81) hx hb d_M_state_68 (by decide) (fun c_7 => ?_) (fun c_7 => ?_)
              · skip
                refine lv_iload_n hx hb d_M_state_81 rfl (lv_at hl 4 rfl) ?_
                refine lv_iconst (v := 2) hx hb d_M_state_82 (by decide) ?_
                refine lv_icmp_ne (tgt := 96) hx hb d_M_state_83 (by decide) (fun c_8 => ?_) (fun c_8 => ?_)
                · skip
                  refine lv_aload_n hx hb d_M_state_96 rfl (lv_at hl 1 rfl) ?_
                  refine lv_iload hx hb d_M_state_97 (lv_at hl 0 rfl) ?_
                  have hPc := hP.sub (ws' := [(y, .inr (5, [.int 0, .int (nI bi), .int (nI ne), .int (nI li), .int (nI sp), .int (nI q), .ref ms, .ref mw, .ref mu, .ref mc, .ref mn, .int en, .int (nI sz), .ref mr, .int (nI wa), .ref mq, .int la, .ref md, .int at0, .int lk])), (mu, .inl (cI, 4, .inl su)), (mc, .inl (cI, 4, .inl cu)), (mn, .inl (cI, 4, .inl nu))]) [0, 1, 2, 3] rfl
                  have hKc := hK.sub (tys' := [(cI, .int)]) [0] rfl
                  refine pci (va_runV (As := [.int 1]) (rest := []) ⟨hx, hb, hml, hown, hg⟩ (c_M_kOf1 l D y ms mw mu mc mn mr mq md bi ne li sp q sz wa 0 en la at0 lk cI su cu nu sm ct ng K hsu hcu hnu hc0 hn0 hs0 hKb hK1 hK2) (cwV 1 hg (gV gw_638 gw_640 gs_21 gw_7 gw_641) rfl rfl rfl (by decide +kernel) ⟨Nat.le_of_ble_eq_true rfl, Nat.le_of_ble_eq_true rfl⟩) ⟨fun a U g mk q => by obtain ⟨q0, qP, qK⟩ := q; exact ⟨q0, qP, va_K.moved (u := U) (U := U.calling g mk a) (Vm.Alike.refl U.vm) qK⟩, va_recv hKc hPc (ci := 5) (q0 := 0) rfl rfl, fun U hU hW => ⟨rfl, by rw [hU]; exact hPc, va_K.moved hW.alike hKc⟩⟩ rfl rfl hl.1 rfl (lv_room (Nat.le_of_ble_eq_true rfl)) d_M_state_99 (⟨Nat.le_of_ble_eq_true rfl, Nat.le_of_ble_eq_true rfl⟩)) ?_
                  exact W.iret (v := nI K) hx hb hr (fun t ht hW => ⟨rfl, by rw [ht]; exact hP, (hAe ▸ hS).F ht⟩) (hAe ▸ hS).2.2 d_M_state_102
                · skip
                  exact absurd c_8 (by decide)
              · skip
                exact absurd c_7 (by decide)
            · skip
              exact absurd c_6 (by decide)
          · skip
            exact absurd rfl c_5
        · skip
          exact absurd (by decide) c_4
      · skip
        exact absurd (by decide) c_3
  · skip
    exact absurd c_1 (by decide)
set_option maxHeartbeats 4000000 in
set_option maxRecDepth 100000 in
theorem c_M_state100 (l : Launch) (D : va_G) (y ms mw mu mc mn mr mq md bi ne li sp q sz wa : Nat) (th en la at0 lk : Int32) (cI : ClassId) (su cu nu : Nat → Int32) (sm ct ng K : Nat) (hsu : su 2 = nI sm) (hcu : cu 2 = nI ct) (hnu : nu 2 = nI ng) (hc0 : ct ≤ 64) (hn0 : ng ≤ 64) (hs0 : sm < 2 ^ 30) (hKb : K ≤ 29) (hK1 : sm ≤ ct * 2 ^ K) (hK2 : ∀ j, j < K → ct * 2 ^ j < sm) : Met l y_M_state (WSY y_M_state b_M_state 5 (some .int)) ({ frames := 2, cells := 0, slots := 0, locals := 50 }) (va_Pc [.ref y, .int 1, .int 0, .int 0] (fun U => va_P D CLS [(y, .inr (5, [.int th, .int (nI bi), .int (nI ne), .int (nI li), .int (nI sp), .int (nI q), .ref ms, .ref mw, .ref mu, .ref mc, .ref mn, .int en, .int (nI sz), .ref mr, .int (nI wa), .ref mq, .int la, .ref md, .int at0, .int lk])), (mu, .inl (cI, 4, .inl su)), (mc, .inl (cI, 4, .inl cu)), (mn, .inl (cI, 4, .inl nu))] U.heap ∧ va_K D CLS [(cI, .int)] U ∧ va_D (fun _ => True) [(y, .inr (5, [.int th, .int (nI bi), .int (nI ne), .int (nI li), .int (nI sp), .int (nI q), .ref ms, .ref mw, .ref mu, .ref mc, .ref mn, .int en, .int (nI sz), .ref mr, .int (nI wa), .ref mq, .int la, .ref md, .int at0, .int lk])), (mu, .inl (cI, 4, .inl su)), (mc, .inl (cI, 4, .inl cu)), (mn, .inl (cI, 4, .inl nu))])) (QM (some (.int (nI sm))) [(y, .inr (5, [.int th, .int (nI bi), .int (nI ne), .int (nI li), .int (nI sp), .int (nI q), .ref ms, .ref mw, .ref mu, .ref mc, .ref mn, .int en, .int (nI sz), .ref mr, .int (nI wa), .ref mq, .int la, .ref md, .int at0, .int lk])), (mu, .inl (cI, 4, .inl su)), (mc, .inl (cI, 4, .inl cu)), (mn, .inl (cI, 4, .inl nu))] [(y, .inr (5, [.int 0, .int (nI bi), .int (nI ne), .int (nI li), .int (nI sp), .int (nI q), .ref ms, .ref mw, .ref mu, .ref mc, .ref mn, .int en, .int (nI sz), .ref mr, .int (nI wa), .ref mq, .int la, .ref md, .int at0, .int lk])), (mu, .inl (cI, 4, .inl su)), (mc, .inl (cI, 4, .inl cu)), (mn, .inl (cI, 4, .inl nu))] D) 0 0 (ad [(y, .inr (5, [.int th, .int (nI bi), .int (nI ne), .int (nI li), .int (nI sp), .int (nI q), .ref ms, .ref mw, .ref mu, .ref mc, .ref mn, .int en, .int (nI sz), .ref mr, .int (nI wa), .ref mq, .int la, .ref md, .int at0, .int lk])), (mu, .inl (cI, 4, .inl su)), (mc, .inl (cI, 4, .inl cu)), (mn, .inl (cI, 4, .inl nu))]) := by
  refine Met.ofW (cc := b_M_state) (maxL := 5) (ret := (some .int)) (by decide) rfl ?_
  intro p e s m args below meth c s₁ B hml hv
  obtain ⟨rfl, hP, hK, hD0⟩ := hv
  have hx := B.exec
  have hb := B.bytes
  have hr := B.returns
  have hts := atoms_spec (ws := WSY y_M_state b_M_state 5 (some .int)) B.pre
  have hg : ∀ w ∈ GW, w.before _ s = true := fun w h => hts w (List.mem_cons_of_mem _ h)
  have hown : s.vm.findClass "LineGolombModel" = some m.cls := findClass_of_methodNamed B.named
  have hlocks := B.notSynchronized
  obtain ⟨A, hAe⟩ : ∃ A, A = ad [(y, .inr (5, [.int th, .int (nI bi), .int (nI ne), .int (nI li), .int (nI sp), .int (nI q), .ref ms, .ref mw, .ref mu, .ref mc, .ref mn, .int en, .int (nI sz), .ref mr, .int (nI wa), .ref mq, .int la, .ref md, .int at0, .int lk])), (mu, .inl (cI, 4, .inl su)), (mc, .inl (cI, 4, .inl cu)), (mn, .inl (cI, 4, .inl nu))] := ⟨_, rfl⟩
  have hD : va_D A [(y, .inr (5, [.int th, .int (nI bi), .int (nI ne), .int (nI li), .int (nI sp), .int (nI q), .ref ms, .ref mw, .ref mu, .ref mc, .ref mn, .int en, .int (nI sz), .ref mr, .int (nI wa), .ref mq, .int la, .ref md, .int at0, .int lk])), (mu, .inl (cI, 4, .inl su)), (mc, .inl (cI, 4, .inl cu)), (mn, .inl (cI, 4, .inl nu))] := by rw [hAe]; exact va_D_ad hD0
  have hS : va_S A s.heap s.heap [] := va_S.rf
  have hl := lv_entry ([.ref y, .int 1, .int 0, .int 0]) (n := 5) (Nat.le_of_ble_eq_true rfl)
  rw [lg_entry_eq]
  generalize (lg_sl ([.ref y, .int 1, .int 0, .int 0]) ++ List.replicate (5 - (lg_sl ([.ref y, .int 1, .int 0, .int 0])).length) Slot.unset).toArray = ls at hl ⊢
  have hl : lv_has ls 5 [(0, .ref y), (1, .int 1), (2, .int 0), (3, .int 0)] := hl
  refine lv_aload_n hx hb d_M_state_0 rfl (lv_at hl 0 rfl) ?_
  refine lv_aload_n hx hb d_M_state_1 rfl (lv_at hl 0 rfl) ?_
  refine lv_iload_n hx hb d_M_state_2 rfl (lv_at hl 2 rfl) ?_
  have hPc := hP.sub (ws' := [(y, .inr (5, [.int th, .int (nI bi), .int (nI ne), .int (nI li), .int (nI sp), .int (nI q), .ref ms, .ref mw, .ref mu, .ref mc, .ref mn, .int en, .int (nI sz), .ref mr, .int (nI wa), .ref mq, .int la, .ref md, .int at0, .int lk]))]) [0] rfl
  have hKc := hK.sub (tys' := []) [] rfl
  refine pci (va_runV (As := [.int 0]) (rest := [.ref y]) ⟨hx, hb, hml, hown, hg⟩ (c_M_isKind l D y ms mw mu mc mn mr mq md bi ne li sp q sz wa th en la at0 lk 0) (cwV 1 hg (gV gw_626 gw_628 gs_18 gw_7 gw_629) rfl rfl rfl (by decide +kernel) ⟨Nat.le_of_ble_eq_true rfl, Nat.le_of_ble_eq_true rfl⟩) ⟨fun a U g mk q => by obtain ⟨q0, qP, qK⟩ := q; exact ⟨q0, qP, va_K.moved (u := U) (U := U.calling g mk a) (Vm.Alike.refl U.vm) qK⟩, va_recv hKc hPc (ci := 5) (q0 := 0) rfl rfl, fun U hU hW => ⟨rfl, by rw [hU]; exact hPc, va_K.moved hW.alike hKc⟩⟩ rfl rfl hl.1 rfl (lv_room (Nat.le_of_ble_eq_true rfl)) d_M_state_3 (⟨Nat.le_of_ble_eq_true rfl, Nat.le_of_ble_eq_true rfl⟩)) ?_
  refine tpi (y := 1) (by decide) ?_
  refine lv_if_ne (tgt := 13) hx hb d_M_state_6 (by decide) (fun c_1 => ?_) (fun c_1 => ?_)
  · skip
    refine lv_iload_n hx hb d_M_state_13 rfl (lv_at hl 3 rfl) ?_
    refine lv_if_lt (tgt := 22) hx hb d_M_state_14 (by decide) (fun c_2 => ?_) (fun c_2 => ?_)
    · skip
      exact absurd c_2 (by decide)
    · skip
      refine lv_iload_n hx hb d_M_state_17 rfl (lv_at hl 3 rfl) ?_
      refine lv_iconst (v := 3) hx hb d_M_state_18 (by decide) ?_
      refine lv_icmp_le (tgt := 26) hx hb d_M_state_19 (by decide) (fun c_3 => ?_) (fun c_3 => ?_)
      · skip
        refine lv_iconst (v := 0) hx hb d_M_state_26 (by decide) ?_
        refine va_put (D := D) (ci := 5) (v := .int 0) (ty := .int) (C := R_M) (T := T_M) (N := 20) hx hb hg in_M ty_M tok_M nm_M hown hK hP hD hS 0 rfl rfl 0 (by decide) (hg _ gw_524) (fun _ h9 => h9) rfl (by decide +kernel) (rfl) (rfl) (Nat.le_of_ble_eq_true rfl) d_M_state_27 (fun H locs hP hD hS => ?_)
        have hP : va_P D CLS [(y, .inr (5, [.int 0, .int (nI bi), .int (nI ne), .int (nI li), .int (nI sp), .int (nI q), .ref ms, .ref mw, .ref mu, .ref mc, .ref mn, .int en, .int (nI sz), .ref mr, .int (nI wa), .ref mq, .int la, .ref md, .int at0, .int lk])), (mu, .inl (cI, 4, .inl su)), (mc, .inl (cI, 4, .inl cu)), (mn, .inl (cI, 4, .inl nu))] H := hP
        have hD : va_D A [(y, .inr (5, [.int 0, .int (nI bi), .int (nI ne), .int (nI li), .int (nI sp), .int (nI q), .ref ms, .ref mw, .ref mu, .ref mc, .ref mn, .int en, .int (nI sz), .ref mr, .int (nI wa), .ref mq, .int la, .ref md, .int at0, .int lk])), (mu, .inl (cI, 4, .inl su)), (mc, .inl (cI, 4, .inl cu)), (mn, .inl (cI, 4, .inl nu))] := hD
        refine lv_aload_n hx hb d_M_state_30 rfl (lv_at hl 0 rfl) ?_
        refine va_get (D := D) (ci := 5) (v := .int 0) (C := R_M) (T := T_M) (N := 20) hx hb hg in_M hown hK hP 0 rfl rfl 0 (by decide) (hg _ gw_524) (fun _ h9 => h9) rfl d_M_state_31 ?_
        refine lv_if_le (tgt := 39) hx hb d_M_state_34 (by decide) (fun c_4 => ?_) (fun c_4 => ?_)
        · skip
          refine lv_iload_n hx hb d_M_state_39 rfl (lv_at hl 1 rfl) ?_
          refine lv_if_eq (tgt := 47) hx hb d_M_state_40 (by decide) (fun c_5 => ?_) (fun c_5 => ?_)
          · skip
            exact absurd c_5 (by decide)
          · skip
            refine lv_iconst (v := 2) hx hb d_M_state_43 (by decide) ?_
            refine lv_goto (tgt := 48) hx hb d_M_state_44 (by decide) ?_
            refine lv_iload_n hx hb d_M_state_48 rfl (lv_at hl 2 rfl) ?_
            refine lv_iadd hx hb d_M_state_49 ?_
            refine tpi (y := 2) (by decide) ?_
            refine lv_istore (lv' := [(4, .int 2), (0, .ref y), (1, .int 1), (2, .int 0), (3, .int 0)]) hx hb d_M_state_50 hl (by decide) rfl (fun ls hl => ?_)
            refine lv_iload_n hx hb d_M_state_52 rfl (lv_at hl 4 rfl) ?_
            refine lv_if_ne (tgt := 66) hx hb d_M_state_53 (by decide) (fun c_6 => ?_) (fun c_6 => ?_)
            · skip
              exact absurd rfl c_6
            · skip
              refine lv_aload_n hx hb d_M_state_56 rfl (lv_at hl 1 rfl) ?_
              refine va_get (D := D) (ci := 5) (v := .ref mu) (C := R_M) (T := T_M) (N := 20) hx hb hg in_M hown hK hP 0 rfl rfl 8 (by decide) (hg _ gw_532) (fun _ h9 => h9) rfl d_M_state_57 ?_
              refine lv_iload hx hb d_M_state_60 (lv_at hl 0 rfl) ?_
              refine va_iald hx hb hK hP 1 0 rfl rfl (vp_in_nI (n := 2) (by decide) (by decide)) d_M_state_62 ?_
              refine tpi (y := nI sm) (hsu) ?_
              refine lv_goto (tgt := 102) hx hb d_M_state_63 (by decide) ?_
              exact W.iret (v := nI sm) hx hb hr (fun t ht hW => ⟨rfl, by rw [ht]; exact hP, (hAe ▸ hS).F ht⟩) (hAe ▸ hS).2.2 d_M_state_102
        · skip
          exact absurd (by decide) c_4
      · skip
        exact absurd (by decide) c_3
  · skip
    exact absurd c_1 (by decide)
set_option maxHeartbeats 4000000 in
set_option maxRecDepth 100000 in
theorem c_M_state101 (l : Launch) (D : va_G) (y ms mw mu mc mn mr mq md bi ne li sp q sz wa : Nat) (th en la at0 lk : Int32) (cI : ClassId) (su cu nu : Nat → Int32) (sm ct ng K : Nat) (hsu : su 2 = nI sm) (hcu : cu 2 = nI ct) (hnu : nu 2 = nI ng) (hc0 : ct ≤ 64) (hn0 : ng ≤ 64) (hs0 : sm < 2 ^ 30) (hKb : K ≤ 29) (hK1 : sm ≤ ct * 2 ^ K) (hK2 : ∀ j, j < K → ct * 2 ^ j < sm) : Met l y_M_state (WSY y_M_state b_M_state 5 (some .int)) ({ frames := 2, cells := 0, slots := 0, locals := 50 }) (va_Pc [.ref y, .int 1, .int 0, .int 1] (fun U => va_P D CLS [(y, .inr (5, [.int th, .int (nI bi), .int (nI ne), .int (nI li), .int (nI sp), .int (nI q), .ref ms, .ref mw, .ref mu, .ref mc, .ref mn, .int en, .int (nI sz), .ref mr, .int (nI wa), .ref mq, .int la, .ref md, .int at0, .int lk])), (mu, .inl (cI, 4, .inl su)), (mc, .inl (cI, 4, .inl cu)), (mn, .inl (cI, 4, .inl nu))] U.heap ∧ va_K D CLS [(cI, .int)] U ∧ va_D (fun _ => True) [(y, .inr (5, [.int th, .int (nI bi), .int (nI ne), .int (nI li), .int (nI sp), .int (nI q), .ref ms, .ref mw, .ref mu, .ref mc, .ref mn, .int en, .int (nI sz), .ref mr, .int (nI wa), .ref mq, .int la, .ref md, .int at0, .int lk])), (mu, .inl (cI, 4, .inl su)), (mc, .inl (cI, 4, .inl cu)), (mn, .inl (cI, 4, .inl nu))])) (QM (some (.int (nI ct))) [(y, .inr (5, [.int th, .int (nI bi), .int (nI ne), .int (nI li), .int (nI sp), .int (nI q), .ref ms, .ref mw, .ref mu, .ref mc, .ref mn, .int en, .int (nI sz), .ref mr, .int (nI wa), .ref mq, .int la, .ref md, .int at0, .int lk])), (mu, .inl (cI, 4, .inl su)), (mc, .inl (cI, 4, .inl cu)), (mn, .inl (cI, 4, .inl nu))] [(y, .inr (5, [.int 0, .int (nI bi), .int (nI ne), .int (nI li), .int (nI sp), .int (nI q), .ref ms, .ref mw, .ref mu, .ref mc, .ref mn, .int en, .int (nI sz), .ref mr, .int (nI wa), .ref mq, .int la, .ref md, .int at0, .int lk])), (mu, .inl (cI, 4, .inl su)), (mc, .inl (cI, 4, .inl cu)), (mn, .inl (cI, 4, .inl nu))] D) 0 0 (ad [(y, .inr (5, [.int th, .int (nI bi), .int (nI ne), .int (nI li), .int (nI sp), .int (nI q), .ref ms, .ref mw, .ref mu, .ref mc, .ref mn, .int en, .int (nI sz), .ref mr, .int (nI wa), .ref mq, .int la, .ref md, .int at0, .int lk])), (mu, .inl (cI, 4, .inl su)), (mc, .inl (cI, 4, .inl cu)), (mn, .inl (cI, 4, .inl nu))]) := by
  refine Met.ofW (cc := b_M_state) (maxL := 5) (ret := (some .int)) (by decide) rfl ?_
  intro p e s m args below meth c s₁ B hml hv
  obtain ⟨rfl, hP, hK, hD0⟩ := hv
  have hx := B.exec
  have hb := B.bytes
  have hr := B.returns
  have hts := atoms_spec (ws := WSY y_M_state b_M_state 5 (some .int)) B.pre
  have hg : ∀ w ∈ GW, w.before _ s = true := fun w h => hts w (List.mem_cons_of_mem _ h)
  have hown : s.vm.findClass "LineGolombModel" = some m.cls := findClass_of_methodNamed B.named
  have hlocks := B.notSynchronized
  obtain ⟨A, hAe⟩ : ∃ A, A = ad [(y, .inr (5, [.int th, .int (nI bi), .int (nI ne), .int (nI li), .int (nI sp), .int (nI q), .ref ms, .ref mw, .ref mu, .ref mc, .ref mn, .int en, .int (nI sz), .ref mr, .int (nI wa), .ref mq, .int la, .ref md, .int at0, .int lk])), (mu, .inl (cI, 4, .inl su)), (mc, .inl (cI, 4, .inl cu)), (mn, .inl (cI, 4, .inl nu))] := ⟨_, rfl⟩
  have hD : va_D A [(y, .inr (5, [.int th, .int (nI bi), .int (nI ne), .int (nI li), .int (nI sp), .int (nI q), .ref ms, .ref mw, .ref mu, .ref mc, .ref mn, .int en, .int (nI sz), .ref mr, .int (nI wa), .ref mq, .int la, .ref md, .int at0, .int lk])), (mu, .inl (cI, 4, .inl su)), (mc, .inl (cI, 4, .inl cu)), (mn, .inl (cI, 4, .inl nu))] := by rw [hAe]; exact va_D_ad hD0
  have hS : va_S A s.heap s.heap [] := va_S.rf
  have hl := lv_entry ([.ref y, .int 1, .int 0, .int 1]) (n := 5) (Nat.le_of_ble_eq_true rfl)
  rw [lg_entry_eq]
  generalize (lg_sl ([.ref y, .int 1, .int 0, .int 1]) ++ List.replicate (5 - (lg_sl ([.ref y, .int 1, .int 0, .int 1])).length) Slot.unset).toArray = ls at hl ⊢
  have hl : lv_has ls 5 [(0, .ref y), (1, .int 1), (2, .int 0), (3, .int 1)] := hl
  refine lv_aload_n hx hb d_M_state_0 rfl (lv_at hl 0 rfl) ?_
  refine lv_aload_n hx hb d_M_state_1 rfl (lv_at hl 0 rfl) ?_
  refine lv_iload_n hx hb d_M_state_2 rfl (lv_at hl 2 rfl) ?_
  have hPc := hP.sub (ws' := [(y, .inr (5, [.int th, .int (nI bi), .int (nI ne), .int (nI li), .int (nI sp), .int (nI q), .ref ms, .ref mw, .ref mu, .ref mc, .ref mn, .int en, .int (nI sz), .ref mr, .int (nI wa), .ref mq, .int la, .ref md, .int at0, .int lk]))]) [0] rfl
  have hKc := hK.sub (tys' := []) [] rfl
  refine pci (va_runV (As := [.int 0]) (rest := [.ref y]) ⟨hx, hb, hml, hown, hg⟩ (c_M_isKind l D y ms mw mu mc mn mr mq md bi ne li sp q sz wa th en la at0 lk 0) (cwV 1 hg (gV gw_626 gw_628 gs_18 gw_7 gw_629) rfl rfl rfl (by decide +kernel) ⟨Nat.le_of_ble_eq_true rfl, Nat.le_of_ble_eq_true rfl⟩) ⟨fun a U g mk q => by obtain ⟨q0, qP, qK⟩ := q; exact ⟨q0, qP, va_K.moved (u := U) (U := U.calling g mk a) (Vm.Alike.refl U.vm) qK⟩, va_recv hKc hPc (ci := 5) (q0 := 0) rfl rfl, fun U hU hW => ⟨rfl, by rw [hU]; exact hPc, va_K.moved hW.alike hKc⟩⟩ rfl rfl hl.1 rfl (lv_room (Nat.le_of_ble_eq_true rfl)) d_M_state_3 (⟨Nat.le_of_ble_eq_true rfl, Nat.le_of_ble_eq_true rfl⟩)) ?_
  refine tpi (y := 1) (by decide) ?_
  refine lv_if_ne (tgt := 13) hx hb d_M_state_6 (by decide) (fun c_1 => ?_) (fun c_1 => ?_)
  · skip
    refine lv_iload_n hx hb d_M_state_13 rfl (lv_at hl 3 rfl) ?_
    refine lv_if_lt (tgt := 22) hx hb d_M_state_14 (by decide) (fun c_2 => ?_) (fun c_2 => ?_)
    · skip
      exact absurd c_2 (by decide)
    · skip
      refine lv_iload_n hx hb d_M_state_17 rfl (lv_at hl 3 rfl) ?_
      refine lv_iconst (v := 3) hx hb d_M_state_18 (by decide) ?_
      refine lv_icmp_le (tgt := 26) hx hb d_M_state_19 (by decide) (fun c_3 => ?_) (fun c_3 => ?_)
      · skip
        refine lv_iconst (v := 0) hx hb d_M_state_26 (by decide) ?_
        refine va_put (D := D) (ci := 5) (v := .int 0) (ty := .int) (C := R_M) (T := T_M) (N := 20) hx hb hg in_M ty_M tok_M nm_M hown hK hP hD hS 0 rfl rfl 0 (by decide) (hg _ gw_524) (fun _ h9 => h9) rfl (by decide +kernel) (rfl) (rfl) (Nat.le_of_ble_eq_true rfl) d_M_state_27 (fun H locs hP hD hS => ?_)
        have hP : va_P D CLS [(y, .inr (5, [.int 0, .int (nI bi), .int (nI ne), .int (nI li), .int (nI sp), .int (nI q), .ref ms, .ref mw, .ref mu, .ref mc, .ref mn, .int en, .int (nI sz), .ref mr, .int (nI wa), .ref mq, .int la, .ref md, .int at0, .int lk])), (mu, .inl (cI, 4, .inl su)), (mc, .inl (cI, 4, .inl cu)), (mn, .inl (cI, 4, .inl nu))] H := hP
        have hD : va_D A [(y, .inr (5, [.int 0, .int (nI bi), .int (nI ne), .int (nI li), .int (nI sp), .int (nI q), .ref ms, .ref mw, .ref mu, .ref mc, .ref mn, .int en, .int (nI sz), .ref mr, .int (nI wa), .ref mq, .int la, .ref md, .int at0, .int lk])), (mu, .inl (cI, 4, .inl su)), (mc, .inl (cI, 4, .inl cu)), (mn, .inl (cI, 4, .inl nu))] := hD
        refine lv_aload_n hx hb d_M_state_30 rfl (lv_at hl 0 rfl) ?_
        refine va_get (D := D) (ci := 5) (v := .int 0) (C := R_M) (T := T_M) (N := 20) hx hb hg in_M hown hK hP 0 rfl rfl 0 (by decide) (hg _ gw_524) (fun _ h9 => h9) rfl d_M_state_31 ?_
        refine lv_if_le (tgt := 39) hx hb d_M_state_34 (by decide) (fun c_4 => ?_) (fun c_4 => ?_)
        · skip
          refine lv_iload_n hx hb d_M_state_39 rfl (lv_at hl 1 rfl) ?_
          refine lv_if_eq (tgt := 47) hx hb d_M_state_40 (by decide) (fun c_5 => ?_) (fun c_5 => ?_)
          · skip
            exact absurd c_5 (by decide)
          · skip
            refine lv_iconst (v := 2) hx hb d_M_state_43 (by decide) ?_
            refine lv_goto (tgt := 48) hx hb d_M_state_44 (by decide) ?_
            refine lv_iload_n hx hb d_M_state_48 rfl (lv_at hl 2 rfl) ?_
            refine lv_iadd hx hb d_M_state_49 ?_
            refine tpi (y := 2) (by decide) ?_
            refine lv_istore (lv' := [(4, .int 2), (0, .ref y), (1, .int 1), (2, .int 0), (3, .int 1)]) hx hb d_M_state_50 hl (by decide) rfl (fun ls hl => ?_)
            refine lv_iload_n hx hb d_M_state_52 rfl (lv_at hl 4 rfl) ?_
            refine lv_if_ne (tgt := 66) hx hb d_M_state_53 (by decide) (fun c_6 => ?_) (fun c_6 => ?_)
            · skip
              refine lv_iload_n hx hb d_M_state_66 rfl (lv_at hl 4 rfl) ?_
              refine lv_iconst (v := 1) hx hb d_M_state_67 (by decide) ?_
              refine lv_icmp_ne (tgt := 81) hx hb d_M_state_68 (by decide) (fun c_7 => ?_) (fun c_7 => ?_)
              · skip
                exact absurd rfl c_7
              · skip
                refine lv_aload_n hx hb d_M_state_71 rfl (lv_at hl 1 rfl) ?_
                refine va_get (D := D) (ci := 5) (v := .ref mc) (C := R_M) (T := T_M) (N := 20) hx hb hg in_M hown hK hP 0 rfl rfl 9 (by decide) (hg _ gw_533) (fun _ h9 => h9) rfl d_M_state_72 ?_
                refine lv_iload hx hb d_M_state_75 (lv_at hl 0 rfl) ?_
                refine va_iald hx hb hK hP 2 0 rfl rfl (vp_in_nI (n := 2) (by decide) (by decide)) d_M_state_77 ?_
                refine tpi (y := nI ct) (hcu) ?_
                refine lv_goto (tgt := 102) hx hb d_M_state_78 (by decide) ?_
                exact W.iret (v := nI ct) hx hb hr (fun t ht hW => ⟨rfl, by rw [ht]; exact hP, (hAe ▸ hS).F ht⟩) (hAe ▸ hS).2.2 d_M_state_102
            · skip
              exact absurd c_6 (by decide)
        · skip
          exact absurd (by decide) c_4
      · skip
        exact absurd (by decide) c_3
  · skip
    exact absurd c_1 (by decide)
set_option maxHeartbeats 4000000 in
set_option maxRecDepth 100000 in
theorem c_M_state102 (l : Launch) (D : va_G) (y ms mw mu mc mn mr mq md bi ne li sp q sz wa : Nat) (th en la at0 lk : Int32) (cI : ClassId) (su cu nu : Nat → Int32) (sm ct ng K : Nat) (hsu : su 2 = nI sm) (hcu : cu 2 = nI ct) (hnu : nu 2 = nI ng) (hc0 : ct ≤ 64) (hn0 : ng ≤ 64) (hs0 : sm < 2 ^ 30) (hKb : K ≤ 29) (hK1 : sm ≤ ct * 2 ^ K) (hK2 : ∀ j, j < K → ct * 2 ^ j < sm) : Met l y_M_state (WSY y_M_state b_M_state 5 (some .int)) ({ frames := 2, cells := 0, slots := 0, locals := 50 }) (va_Pc [.ref y, .int 1, .int 0, .int 2] (fun U => va_P D CLS [(y, .inr (5, [.int th, .int (nI bi), .int (nI ne), .int (nI li), .int (nI sp), .int (nI q), .ref ms, .ref mw, .ref mu, .ref mc, .ref mn, .int en, .int (nI sz), .ref mr, .int (nI wa), .ref mq, .int la, .ref md, .int at0, .int lk])), (mu, .inl (cI, 4, .inl su)), (mc, .inl (cI, 4, .inl cu)), (mn, .inl (cI, 4, .inl nu))] U.heap ∧ va_K D CLS [(cI, .int)] U ∧ va_D (fun _ => True) [(y, .inr (5, [.int th, .int (nI bi), .int (nI ne), .int (nI li), .int (nI sp), .int (nI q), .ref ms, .ref mw, .ref mu, .ref mc, .ref mn, .int en, .int (nI sz), .ref mr, .int (nI wa), .ref mq, .int la, .ref md, .int at0, .int lk])), (mu, .inl (cI, 4, .inl su)), (mc, .inl (cI, 4, .inl cu)), (mn, .inl (cI, 4, .inl nu))])) (QM (some (.int (nI ng))) [(y, .inr (5, [.int th, .int (nI bi), .int (nI ne), .int (nI li), .int (nI sp), .int (nI q), .ref ms, .ref mw, .ref mu, .ref mc, .ref mn, .int en, .int (nI sz), .ref mr, .int (nI wa), .ref mq, .int la, .ref md, .int at0, .int lk])), (mu, .inl (cI, 4, .inl su)), (mc, .inl (cI, 4, .inl cu)), (mn, .inl (cI, 4, .inl nu))] [(y, .inr (5, [.int 0, .int (nI bi), .int (nI ne), .int (nI li), .int (nI sp), .int (nI q), .ref ms, .ref mw, .ref mu, .ref mc, .ref mn, .int en, .int (nI sz), .ref mr, .int (nI wa), .ref mq, .int la, .ref md, .int at0, .int lk])), (mu, .inl (cI, 4, .inl su)), (mc, .inl (cI, 4, .inl cu)), (mn, .inl (cI, 4, .inl nu))] D) 0 0 (ad [(y, .inr (5, [.int th, .int (nI bi), .int (nI ne), .int (nI li), .int (nI sp), .int (nI q), .ref ms, .ref mw, .ref mu, .ref mc, .ref mn, .int en, .int (nI sz), .ref mr, .int (nI wa), .ref mq, .int la, .ref md, .int at0, .int lk])), (mu, .inl (cI, 4, .inl su)), (mc, .inl (cI, 4, .inl cu)), (mn, .inl (cI, 4, .inl nu))]) := by
  refine Met.ofW (cc := b_M_state) (maxL := 5) (ret := (some .int)) (by decide) rfl ?_
  intro p e s m args below meth c s₁ B hml hv
  obtain ⟨rfl, hP, hK, hD0⟩ := hv
  have hx := B.exec
  have hb := B.bytes
  have hr := B.returns
  have hts := atoms_spec (ws := WSY y_M_state b_M_state 5 (some .int)) B.pre
  have hg : ∀ w ∈ GW, w.before _ s = true := fun w h => hts w (List.mem_cons_of_mem _ h)
  have hown : s.vm.findClass "LineGolombModel" = some m.cls := findClass_of_methodNamed B.named
  have hlocks := B.notSynchronized
  obtain ⟨A, hAe⟩ : ∃ A, A = ad [(y, .inr (5, [.int th, .int (nI bi), .int (nI ne), .int (nI li), .int (nI sp), .int (nI q), .ref ms, .ref mw, .ref mu, .ref mc, .ref mn, .int en, .int (nI sz), .ref mr, .int (nI wa), .ref mq, .int la, .ref md, .int at0, .int lk])), (mu, .inl (cI, 4, .inl su)), (mc, .inl (cI, 4, .inl cu)), (mn, .inl (cI, 4, .inl nu))] := ⟨_, rfl⟩
  have hD : va_D A [(y, .inr (5, [.int th, .int (nI bi), .int (nI ne), .int (nI li), .int (nI sp), .int (nI q), .ref ms, .ref mw, .ref mu, .ref mc, .ref mn, .int en, .int (nI sz), .ref mr, .int (nI wa), .ref mq, .int la, .ref md, .int at0, .int lk])), (mu, .inl (cI, 4, .inl su)), (mc, .inl (cI, 4, .inl cu)), (mn, .inl (cI, 4, .inl nu))] := by rw [hAe]; exact va_D_ad hD0
  have hS : va_S A s.heap s.heap [] := va_S.rf
  have hl := lv_entry ([.ref y, .int 1, .int 0, .int 2]) (n := 5) (Nat.le_of_ble_eq_true rfl)
  rw [lg_entry_eq]
  generalize (lg_sl ([.ref y, .int 1, .int 0, .int 2]) ++ List.replicate (5 - (lg_sl ([.ref y, .int 1, .int 0, .int 2])).length) Slot.unset).toArray = ls at hl ⊢
  have hl : lv_has ls 5 [(0, .ref y), (1, .int 1), (2, .int 0), (3, .int 2)] := hl
  refine lv_aload_n hx hb d_M_state_0 rfl (lv_at hl 0 rfl) ?_
  refine lv_aload_n hx hb d_M_state_1 rfl (lv_at hl 0 rfl) ?_
  refine lv_iload_n hx hb d_M_state_2 rfl (lv_at hl 2 rfl) ?_
  have hPc := hP.sub (ws' := [(y, .inr (5, [.int th, .int (nI bi), .int (nI ne), .int (nI li), .int (nI sp), .int (nI q), .ref ms, .ref mw, .ref mu, .ref mc, .ref mn, .int en, .int (nI sz), .ref mr, .int (nI wa), .ref mq, .int la, .ref md, .int at0, .int lk]))]) [0] rfl
  have hKc := hK.sub (tys' := []) [] rfl
  refine pci (va_runV (As := [.int 0]) (rest := [.ref y]) ⟨hx, hb, hml, hown, hg⟩ (c_M_isKind l D y ms mw mu mc mn mr mq md bi ne li sp q sz wa th en la at0 lk 0) (cwV 1 hg (gV gw_626 gw_628 gs_18 gw_7 gw_629) rfl rfl rfl (by decide +kernel) ⟨Nat.le_of_ble_eq_true rfl, Nat.le_of_ble_eq_true rfl⟩) ⟨fun a U g mk q => by obtain ⟨q0, qP, qK⟩ := q; exact ⟨q0, qP, va_K.moved (u := U) (U := U.calling g mk a) (Vm.Alike.refl U.vm) qK⟩, va_recv hKc hPc (ci := 5) (q0 := 0) rfl rfl, fun U hU hW => ⟨rfl, by rw [hU]; exact hPc, va_K.moved hW.alike hKc⟩⟩ rfl rfl hl.1 rfl (lv_room (Nat.le_of_ble_eq_true rfl)) d_M_state_3 (⟨Nat.le_of_ble_eq_true rfl, Nat.le_of_ble_eq_true rfl⟩)) ?_
  refine tpi (y := 1) (by decide) ?_
  refine lv_if_ne (tgt := 13) hx hb d_M_state_6 (by decide) (fun c_1 => ?_) (fun c_1 => ?_)
  · skip
    refine lv_iload_n hx hb d_M_state_13 rfl (lv_at hl 3 rfl) ?_
    refine lv_if_lt (tgt := 22) hx hb d_M_state_14 (by decide) (fun c_2 => ?_) (fun c_2 => ?_)
    · skip
      exact absurd c_2 (by decide)
    · skip
      refine lv_iload_n hx hb d_M_state_17 rfl (lv_at hl 3 rfl) ?_
      refine lv_iconst (v := 3) hx hb d_M_state_18 (by decide) ?_
      refine lv_icmp_le (tgt := 26) hx hb d_M_state_19 (by decide) (fun c_3 => ?_) (fun c_3 => ?_)
      · skip
        refine lv_iconst (v := 0) hx hb d_M_state_26 (by decide) ?_
        refine va_put (D := D) (ci := 5) (v := .int 0) (ty := .int) (C := R_M) (T := T_M) (N := 20) hx hb hg in_M ty_M tok_M nm_M hown hK hP hD hS 0 rfl rfl 0 (by decide) (hg _ gw_524) (fun _ h9 => h9) rfl (by decide +kernel) (rfl) (rfl) (Nat.le_of_ble_eq_true rfl) d_M_state_27 (fun H locs hP hD hS => ?_)
        have hP : va_P D CLS [(y, .inr (5, [.int 0, .int (nI bi), .int (nI ne), .int (nI li), .int (nI sp), .int (nI q), .ref ms, .ref mw, .ref mu, .ref mc, .ref mn, .int en, .int (nI sz), .ref mr, .int (nI wa), .ref mq, .int la, .ref md, .int at0, .int lk])), (mu, .inl (cI, 4, .inl su)), (mc, .inl (cI, 4, .inl cu)), (mn, .inl (cI, 4, .inl nu))] H := hP
        have hD : va_D A [(y, .inr (5, [.int 0, .int (nI bi), .int (nI ne), .int (nI li), .int (nI sp), .int (nI q), .ref ms, .ref mw, .ref mu, .ref mc, .ref mn, .int en, .int (nI sz), .ref mr, .int (nI wa), .ref mq, .int la, .ref md, .int at0, .int lk])), (mu, .inl (cI, 4, .inl su)), (mc, .inl (cI, 4, .inl cu)), (mn, .inl (cI, 4, .inl nu))] := hD
        refine lv_aload_n hx hb d_M_state_30 rfl (lv_at hl 0 rfl) ?_
        refine va_get (D := D) (ci := 5) (v := .int 0) (C := R_M) (T := T_M) (N := 20) hx hb hg in_M hown hK hP 0 rfl rfl 0 (by decide) (hg _ gw_524) (fun _ h9 => h9) rfl d_M_state_31 ?_
        refine lv_if_le (tgt := 39) hx hb d_M_state_34 (by decide) (fun c_4 => ?_) (fun c_4 => ?_)
        · skip
          refine lv_iload_n hx hb d_M_state_39 rfl (lv_at hl 1 rfl) ?_
          refine lv_if_eq (tgt := 47) hx hb d_M_state_40 (by decide) (fun c_5 => ?_) (fun c_5 => ?_)
          · skip
            exact absurd c_5 (by decide)
          · skip
            refine lv_iconst (v := 2) hx hb d_M_state_43 (by decide) ?_
            refine lv_goto (tgt := 48) hx hb d_M_state_44 (by decide) ?_
            refine lv_iload_n hx hb d_M_state_48 rfl (lv_at hl 2 rfl) ?_
            refine lv_iadd hx hb d_M_state_49 ?_
            refine tpi (y := 2) (by decide) ?_
            refine lv_istore (lv' := [(4, .int 2), (0, .ref y), (1, .int 1), (2, .int 0), (3, .int 2)]) hx hb d_M_state_50 hl (by decide) rfl (fun ls hl => ?_)
            refine lv_iload_n hx hb d_M_state_52 rfl (lv_at hl 4 rfl) ?_
            refine lv_if_ne (tgt := 66) hx hb d_M_state_53 (by decide) (fun c_6 => ?_) (fun c_6 => ?_)
            · skip
              refine lv_iload_n hx hb d_M_state_66 rfl (lv_at hl 4 rfl) ?_
              refine lv_iconst (v := 1) hx hb d_M_state_67 (by decide) ?_
              refine lv_icmp_ne (tgt := 81) hx hb d_M_state_68 (by decide) (fun c_7 => ?_) (fun c_7 => ?_)
              · skip
                refine lv_iload_n hx hb d_M_state_81 rfl (lv_at hl 4 rfl) ?_
                refine lv_iconst (v := 2) hx hb d_M_state_82 (by decide) ?_
                refine lv_icmp_ne (tgt := 96) hx hb d_M_state_83 (by decide) (fun c_8 => ?_) (fun c_8 => ?_)
                · skip
                  exact absurd rfl c_8
                · skip
                  refine lv_aload_n hx hb d_M_state_86 rfl (lv_at hl 1 rfl) ?_
                  refine va_get (D := D) (ci := 5) (v := .ref mn) (C := R_M) (T := T_M) (N := 20) hx hb hg in_M hown hK hP 0 rfl rfl 10 (by decide) (hg _ gw_534) (fun _ h9 => h9) rfl d_M_state_87 ?_
                  refine lv_iload hx hb d_M_state_90 (lv_at hl 0 rfl) ?_
                  refine va_iald hx hb hK hP 3 0 rfl rfl (vp_in_nI (n := 2) (by decide) (by decide)) d_M_state_92 ?_
                  refine tpi (y := nI ng) (hnu) ?_
                  refine lv_goto (tgt := 102) hx hb d_M_state_93 (by decide) ?_
                  exact W.iret (v := nI ng) hx hb hr (fun t ht hW => ⟨rfl, by rw [ht]; exact hP, (hAe ▸ hS).F ht⟩) (hAe ▸ hS).2.2 d_M_state_102
              · skip
                exact absurd c_7 (by decide)
            · skip
              exact absurd c_6 (by decide)
        · skip
          exact absurd (by decide) c_4
      · skip
        exact absurd (by decide) c_3
  · skip
    exact absurd c_1 (by decide)
set_option maxHeartbeats 4000000 in
set_option maxRecDepth 100000 in
theorem c_M_state103 (l : Launch) (D : va_G) (y ms mw mu mc mn mr mq md bi ne li sp q sz wa : Nat) (th en la at0 lk : Int32) (cI : ClassId) (su cu nu : Nat → Int32) (sm ct ng K : Nat) (hsu : su 2 = nI sm) (hcu : cu 2 = nI ct) (hnu : nu 2 = nI ng) (hc0 : ct ≤ 64) (hn0 : ng ≤ 64) (hs0 : sm < 2 ^ 30) (hKb : K ≤ 29) (hK1 : sm ≤ ct * 2 ^ K) (hK2 : ∀ j, j < K → ct * 2 ^ j < sm) : Met l y_M_state (WSY y_M_state b_M_state 5 (some .int)) ({ frames := 2, cells := 0, slots := 0, locals := 50 }) (va_Pc [.ref y, .int 1, .int 0, .int 3] (fun U => va_P D CLS [(y, .inr (5, [.int th, .int (nI bi), .int (nI ne), .int (nI li), .int (nI sp), .int (nI q), .ref ms, .ref mw, .ref mu, .ref mc, .ref mn, .int en, .int (nI sz), .ref mr, .int (nI wa), .ref mq, .int la, .ref md, .int at0, .int lk])), (mu, .inl (cI, 4, .inl su)), (mc, .inl (cI, 4, .inl cu)), (mn, .inl (cI, 4, .inl nu))] U.heap ∧ va_K D CLS [(cI, .int)] U ∧ va_D (fun _ => True) [(y, .inr (5, [.int th, .int (nI bi), .int (nI ne), .int (nI li), .int (nI sp), .int (nI q), .ref ms, .ref mw, .ref mu, .ref mc, .ref mn, .int en, .int (nI sz), .ref mr, .int (nI wa), .ref mq, .int la, .ref md, .int at0, .int lk])), (mu, .inl (cI, 4, .inl su)), (mc, .inl (cI, 4, .inl cu)), (mn, .inl (cI, 4, .inl nu))])) (QM (some (.int (nI K))) [(y, .inr (5, [.int th, .int (nI bi), .int (nI ne), .int (nI li), .int (nI sp), .int (nI q), .ref ms, .ref mw, .ref mu, .ref mc, .ref mn, .int en, .int (nI sz), .ref mr, .int (nI wa), .ref mq, .int la, .ref md, .int at0, .int lk])), (mu, .inl (cI, 4, .inl su)), (mc, .inl (cI, 4, .inl cu)), (mn, .inl (cI, 4, .inl nu))] [(y, .inr (5, [.int 0, .int (nI bi), .int (nI ne), .int (nI li), .int (nI sp), .int (nI q), .ref ms, .ref mw, .ref mu, .ref mc, .ref mn, .int en, .int (nI sz), .ref mr, .int (nI wa), .ref mq, .int la, .ref md, .int at0, .int lk])), (mu, .inl (cI, 4, .inl su)), (mc, .inl (cI, 4, .inl cu)), (mn, .inl (cI, 4, .inl nu))] D) 0 0 (ad [(y, .inr (5, [.int th, .int (nI bi), .int (nI ne), .int (nI li), .int (nI sp), .int (nI q), .ref ms, .ref mw, .ref mu, .ref mc, .ref mn, .int en, .int (nI sz), .ref mr, .int (nI wa), .ref mq, .int la, .ref md, .int at0, .int lk])), (mu, .inl (cI, 4, .inl su)), (mc, .inl (cI, 4, .inl cu)), (mn, .inl (cI, 4, .inl nu))]) := by
  refine Met.ofW (cc := b_M_state) (maxL := 5) (ret := (some .int)) (by decide) rfl ?_
  intro p e s m args below meth c s₁ B hml hv
  obtain ⟨rfl, hP, hK, hD0⟩ := hv
  have hx := B.exec
  have hb := B.bytes
  have hr := B.returns
  have hts := atoms_spec (ws := WSY y_M_state b_M_state 5 (some .int)) B.pre
  have hg : ∀ w ∈ GW, w.before _ s = true := fun w h => hts w (List.mem_cons_of_mem _ h)
  have hown : s.vm.findClass "LineGolombModel" = some m.cls := findClass_of_methodNamed B.named
  have hlocks := B.notSynchronized
  obtain ⟨A, hAe⟩ : ∃ A, A = ad [(y, .inr (5, [.int th, .int (nI bi), .int (nI ne), .int (nI li), .int (nI sp), .int (nI q), .ref ms, .ref mw, .ref mu, .ref mc, .ref mn, .int en, .int (nI sz), .ref mr, .int (nI wa), .ref mq, .int la, .ref md, .int at0, .int lk])), (mu, .inl (cI, 4, .inl su)), (mc, .inl (cI, 4, .inl cu)), (mn, .inl (cI, 4, .inl nu))] := ⟨_, rfl⟩
  have hD : va_D A [(y, .inr (5, [.int th, .int (nI bi), .int (nI ne), .int (nI li), .int (nI sp), .int (nI q), .ref ms, .ref mw, .ref mu, .ref mc, .ref mn, .int en, .int (nI sz), .ref mr, .int (nI wa), .ref mq, .int la, .ref md, .int at0, .int lk])), (mu, .inl (cI, 4, .inl su)), (mc, .inl (cI, 4, .inl cu)), (mn, .inl (cI, 4, .inl nu))] := by rw [hAe]; exact va_D_ad hD0
  have hS : va_S A s.heap s.heap [] := va_S.rf
  have hl := lv_entry ([.ref y, .int 1, .int 0, .int 3]) (n := 5) (Nat.le_of_ble_eq_true rfl)
  rw [lg_entry_eq]
  generalize (lg_sl ([.ref y, .int 1, .int 0, .int 3]) ++ List.replicate (5 - (lg_sl ([.ref y, .int 1, .int 0, .int 3])).length) Slot.unset).toArray = ls at hl ⊢
  have hl : lv_has ls 5 [(0, .ref y), (1, .int 1), (2, .int 0), (3, .int 3)] := hl
  refine lv_aload_n hx hb d_M_state_0 rfl (lv_at hl 0 rfl) ?_
  refine lv_aload_n hx hb d_M_state_1 rfl (lv_at hl 0 rfl) ?_
  refine lv_iload_n hx hb d_M_state_2 rfl (lv_at hl 2 rfl) ?_
  have hPc := hP.sub (ws' := [(y, .inr (5, [.int th, .int (nI bi), .int (nI ne), .int (nI li), .int (nI sp), .int (nI q), .ref ms, .ref mw, .ref mu, .ref mc, .ref mn, .int en, .int (nI sz), .ref mr, .int (nI wa), .ref mq, .int la, .ref md, .int at0, .int lk]))]) [0] rfl
  have hKc := hK.sub (tys' := []) [] rfl
  refine pci (va_runV (As := [.int 0]) (rest := [.ref y]) ⟨hx, hb, hml, hown, hg⟩ (c_M_isKind l D y ms mw mu mc mn mr mq md bi ne li sp q sz wa th en la at0 lk 0) (cwV 1 hg (gV gw_626 gw_628 gs_18 gw_7 gw_629) rfl rfl rfl (by decide +kernel) ⟨Nat.le_of_ble_eq_true rfl, Nat.le_of_ble_eq_true rfl⟩) ⟨fun a U g mk q => by obtain ⟨q0, qP, qK⟩ := q; exact ⟨q0, qP, va_K.moved (u := U) (U := U.calling g mk a) (Vm.Alike.refl U.vm) qK⟩, va_recv hKc hPc (ci := 5) (q0 := 0) rfl rfl, fun U hU hW => ⟨rfl, by rw [hU]; exact hPc, va_K.moved hW.alike hKc⟩⟩ rfl rfl hl.1 rfl (lv_room (Nat.le_of_ble_eq_true rfl)) d_M_state_3 (⟨Nat.le_of_ble_eq_true rfl, Nat.le_of_ble_eq_true rfl⟩)) ?_
  refine tpi (y := 1) (by decide) ?_
  refine lv_if_ne (tgt := 13) hx hb d_M_state_6 (by decide) (fun c_1 => ?_) (fun c_1 => ?_)
  · skip
    refine lv_iload_n hx hb d_M_state_13 rfl (lv_at hl 3 rfl) ?_
    refine lv_if_lt (tgt := 22) hx hb d_M_state_14 (by decide) (fun c_2 => ?_) (fun c_2 => ?_)
    · skip
      exact absurd c_2 (by decide)
    · skip
      refine lv_iload_n hx hb d_M_state_17 rfl (lv_at hl 3 rfl) ?_
      refine lv_iconst (v := 3) hx hb d_M_state_18 (by decide) ?_
      refine lv_icmp_le (tgt := 26) hx hb d_M_state_19 (by decide) (fun c_3 => ?_) (fun c_3 => ?_)
      · skip
        refine lv_iconst (v := 0) hx hb d_M_state_26 (by decide) ?_
        refine va_put (D := D) (ci := 5) (v := .int 0) (ty := .int) (C := R_M) (T := T_M) (N := 20) hx hb hg in_M ty_M tok_M nm_M hown hK hP hD hS 0 rfl rfl 0 (by decide) (hg _ gw_524) (fun _ h9 => h9) rfl (by decide +kernel) (rfl) (rfl) (Nat.le_of_ble_eq_true rfl) d_M_state_27 (fun H locs hP hD hS => ?_)
        have hP : va_P D CLS [(y, .inr (5, [.int 0, .int (nI bi), .int (nI ne), .int (nI li), .int (nI sp), .int (nI q), .ref ms, .ref mw, .ref mu, .ref mc, .ref mn, .int en, .int (nI sz), .ref mr, .int (nI wa), .ref mq, .int la, .ref md, .int at0, .int lk])), (mu, .inl (cI, 4, .inl su)), (mc, .inl (cI, 4, .inl cu)), (mn, .inl (cI, 4, .inl nu))] H := hP
        have hD : va_D A [(y, .inr (5, [.int 0, .int (nI bi), .int (nI ne), .int (nI li), .int (nI sp), .int (nI q), .ref ms, .ref mw, .ref mu, .ref mc, .ref mn, .int en, .int (nI sz), .ref mr, .int (nI wa), .ref mq, .int la, .ref md, .int at0, .int lk])), (mu, .inl (cI, 4, .inl su)), (mc, .inl (cI, 4, .inl cu)), (mn, .inl (cI, 4, .inl nu))] := hD
        refine lv_aload_n hx hb d_M_state_30 rfl (lv_at hl 0 rfl) ?_
        refine va_get (D := D) (ci := 5) (v := .int 0) (C := R_M) (T := T_M) (N := 20) hx hb hg in_M hown hK hP 0 rfl rfl 0 (by decide) (hg _ gw_524) (fun _ h9 => h9) rfl d_M_state_31 ?_
        refine lv_if_le (tgt := 39) hx hb d_M_state_34 (by decide) (fun c_4 => ?_) (fun c_4 => ?_)
        · skip
          refine lv_iload_n hx hb d_M_state_39 rfl (lv_at hl 1 rfl) ?_
          refine lv_if_eq (tgt := 47) hx hb d_M_state_40 (by decide) (fun c_5 => ?_) (fun c_5 => ?_)
          · skip
            exact absurd c_5 (by decide)
          · skip
            refine lv_iconst (v := 2) hx hb d_M_state_43 (by decide) ?_
            refine lv_goto (tgt := 48) hx hb d_M_state_44 (by decide) ?_
            refine lv_iload_n hx hb d_M_state_48 rfl (lv_at hl 2 rfl) ?_
            refine lv_iadd hx hb d_M_state_49 ?_
            refine tpi (y := 2) (by decide) ?_
            refine lv_istore (lv' := [(4, .int 2), (0, .ref y), (1, .int 1), (2, .int 0), (3, .int 3)]) hx hb d_M_state_50 hl (by decide) rfl (fun ls hl => ?_)
            refine lv_iload_n hx hb d_M_state_52 rfl (lv_at hl 4 rfl) ?_
            refine lv_if_ne (tgt := 66) hx hb d_M_state_53 (by decide) (fun c_6 => ?_) (fun c_6 => ?_)
            · skip
              refine lv_iload_n hx hb d_M_state_66 rfl (lv_at hl 4 rfl) ?_
              refine lv_iconst (v := 1) hx hb d_M_state_67 (by decide) ?_
              refine lv_icmp_ne (tgt := 81) hx hb d_M_state_68 (by decide) (fun c_7 => ?_) (fun c_7 => ?_)
              · skip
                refine lv_iload_n hx hb d_M_state_81 rfl (lv_at hl 4 rfl) ?_
                refine lv_iconst (v := 2) hx hb d_M_state_82 (by decide) ?_
                refine lv_icmp_ne (tgt := 96) hx hb d_M_state_83 (by decide) (fun c_8 => ?_) (fun c_8 => ?_)
                · skip
                  refine lv_aload_n hx hb d_M_state_96 rfl (lv_at hl 1 rfl) ?_
                  refine lv_iload hx hb d_M_state_97 (lv_at hl 0 rfl) ?_
                  have hPc := hP.sub (ws' := [(y, .inr (5, [.int 0, .int (nI bi), .int (nI ne), .int (nI li), .int (nI sp), .int (nI q), .ref ms, .ref mw, .ref mu, .ref mc, .ref mn, .int en, .int (nI sz), .ref mr, .int (nI wa), .ref mq, .int la, .ref md, .int at0, .int lk])), (mu, .inl (cI, 4, .inl su)), (mc, .inl (cI, 4, .inl cu)), (mn, .inl (cI, 4, .inl nu))]) [0, 1, 2, 3] rfl
                  have hKc := hK.sub (tys' := [(cI, .int)]) [0] rfl
                  refine pci (va_runV (As := [.int 2]) (rest := []) ⟨hx, hb, hml, hown, hg⟩ (c_M_kOf2 l D y ms mw mu mc mn mr mq md bi ne li sp q sz wa 0 en la at0 lk cI su cu nu sm ct ng K hsu hcu hnu hc0 hn0 hs0 hKb hK1 hK2) (cwV 1 hg (gV gw_638 gw_640 gs_21 gw_7 gw_641) rfl rfl rfl (by decide +kernel) ⟨Nat.le_of_ble_eq_true rfl, Nat.le_of_ble_eq_true rfl⟩) ⟨fun a U g mk q => by obtain ⟨q0, qP, qK⟩ := q; exact ⟨q0, qP, va_K.moved (u := U) (U := U.calling g mk a) (Vm.Alike.refl U.vm) qK⟩, va_recv hKc hPc (ci := 5) (q0 := 0) rfl rfl, fun U hU hW => ⟨rfl, by rw [hU]; exact hPc, va_K.moved hW.alike hKc⟩⟩ rfl rfl hl.1 rfl (lv_room (Nat.le_of_ble_eq_true rfl)) d_M_state_99 (⟨Nat.le_of_ble_eq_true rfl, Nat.le_of_ble_eq_true rfl⟩)) ?_
                  exact W.iret (v := nI K) hx hb hr (fun t ht hW => ⟨rfl, by rw [ht]; exact hP, (hAe ▸ hS).F ht⟩) (hAe ▸ hS).2.2 d_M_state_102
                · skip
                  exact absurd c_8 (by decide)
              · skip
                exact absurd c_7 (by decide)
            · skip
              exact absurd c_6 (by decide)
        · skip
          exact absurd (by decide) c_4
      · skip
        exact absurd (by decide) c_3
  · skip
    exact absurd c_1 (by decide)
set_option maxHeartbeats 4000000 in
set_option maxRecDepth 100000 in
theorem c_M_state110 (l : Launch) (D : va_G) (y ms mw mu mc mn mr mq md bi ne li sp q sz wa : Nat) (th en la at0 lk : Int32) (cI : ClassId) (su cu nu : Nat → Int32) (sm ct ng K : Nat) (hsu : su 3 = nI sm) (hcu : cu 3 = nI ct) (hnu : nu 3 = nI ng) (hc0 : ct ≤ 64) (hn0 : ng ≤ 64) (hs0 : sm < 2 ^ 30) (hKb : K ≤ 29) (hK1 : sm + ct / 2 ≤ ct * 2 ^ K) (hK2 : ∀ j, j < K → ct * 2 ^ j < sm + ct / 2) : Met l y_M_state (WSY y_M_state b_M_state 5 (some .int)) ({ frames := 2, cells := 0, slots := 0, locals := 50 }) (va_Pc [.ref y, .int 1, .int 1, .int 0] (fun U => va_P D CLS [(y, .inr (5, [.int th, .int (nI bi), .int (nI ne), .int (nI li), .int (nI sp), .int (nI q), .ref ms, .ref mw, .ref mu, .ref mc, .ref mn, .int en, .int (nI sz), .ref mr, .int (nI wa), .ref mq, .int la, .ref md, .int at0, .int lk])), (mu, .inl (cI, 4, .inl su)), (mc, .inl (cI, 4, .inl cu)), (mn, .inl (cI, 4, .inl nu))] U.heap ∧ va_K D CLS [(cI, .int)] U ∧ va_D (fun _ => True) [(y, .inr (5, [.int th, .int (nI bi), .int (nI ne), .int (nI li), .int (nI sp), .int (nI q), .ref ms, .ref mw, .ref mu, .ref mc, .ref mn, .int en, .int (nI sz), .ref mr, .int (nI wa), .ref mq, .int la, .ref md, .int at0, .int lk])), (mu, .inl (cI, 4, .inl su)), (mc, .inl (cI, 4, .inl cu)), (mn, .inl (cI, 4, .inl nu))])) (QM (some (.int (nI sm))) [(y, .inr (5, [.int th, .int (nI bi), .int (nI ne), .int (nI li), .int (nI sp), .int (nI q), .ref ms, .ref mw, .ref mu, .ref mc, .ref mn, .int en, .int (nI sz), .ref mr, .int (nI wa), .ref mq, .int la, .ref md, .int at0, .int lk])), (mu, .inl (cI, 4, .inl su)), (mc, .inl (cI, 4, .inl cu)), (mn, .inl (cI, 4, .inl nu))] [(y, .inr (5, [.int 0, .int (nI bi), .int (nI ne), .int (nI li), .int (nI sp), .int (nI q), .ref ms, .ref mw, .ref mu, .ref mc, .ref mn, .int en, .int (nI sz), .ref mr, .int (nI wa), .ref mq, .int la, .ref md, .int at0, .int lk])), (mu, .inl (cI, 4, .inl su)), (mc, .inl (cI, 4, .inl cu)), (mn, .inl (cI, 4, .inl nu))] D) 0 0 (ad [(y, .inr (5, [.int th, .int (nI bi), .int (nI ne), .int (nI li), .int (nI sp), .int (nI q), .ref ms, .ref mw, .ref mu, .ref mc, .ref mn, .int en, .int (nI sz), .ref mr, .int (nI wa), .ref mq, .int la, .ref md, .int at0, .int lk])), (mu, .inl (cI, 4, .inl su)), (mc, .inl (cI, 4, .inl cu)), (mn, .inl (cI, 4, .inl nu))]) := by
  refine Met.ofW (cc := b_M_state) (maxL := 5) (ret := (some .int)) (by decide) rfl ?_
  intro p e s m args below meth c s₁ B hml hv
  obtain ⟨rfl, hP, hK, hD0⟩ := hv
  have hx := B.exec
  have hb := B.bytes
  have hr := B.returns
  have hts := atoms_spec (ws := WSY y_M_state b_M_state 5 (some .int)) B.pre
  have hg : ∀ w ∈ GW, w.before _ s = true := fun w h => hts w (List.mem_cons_of_mem _ h)
  have hown : s.vm.findClass "LineGolombModel" = some m.cls := findClass_of_methodNamed B.named
  have hlocks := B.notSynchronized
  obtain ⟨A, hAe⟩ : ∃ A, A = ad [(y, .inr (5, [.int th, .int (nI bi), .int (nI ne), .int (nI li), .int (nI sp), .int (nI q), .ref ms, .ref mw, .ref mu, .ref mc, .ref mn, .int en, .int (nI sz), .ref mr, .int (nI wa), .ref mq, .int la, .ref md, .int at0, .int lk])), (mu, .inl (cI, 4, .inl su)), (mc, .inl (cI, 4, .inl cu)), (mn, .inl (cI, 4, .inl nu))] := ⟨_, rfl⟩
  have hD : va_D A [(y, .inr (5, [.int th, .int (nI bi), .int (nI ne), .int (nI li), .int (nI sp), .int (nI q), .ref ms, .ref mw, .ref mu, .ref mc, .ref mn, .int en, .int (nI sz), .ref mr, .int (nI wa), .ref mq, .int la, .ref md, .int at0, .int lk])), (mu, .inl (cI, 4, .inl su)), (mc, .inl (cI, 4, .inl cu)), (mn, .inl (cI, 4, .inl nu))] := by rw [hAe]; exact va_D_ad hD0
  have hS : va_S A s.heap s.heap [] := va_S.rf
  have hl := lv_entry ([.ref y, .int 1, .int 1, .int 0]) (n := 5) (Nat.le_of_ble_eq_true rfl)
  rw [lg_entry_eq]
  generalize (lg_sl ([.ref y, .int 1, .int 1, .int 0]) ++ List.replicate (5 - (lg_sl ([.ref y, .int 1, .int 1, .int 0])).length) Slot.unset).toArray = ls at hl ⊢
  have hl : lv_has ls 5 [(0, .ref y), (1, .int 1), (2, .int 1), (3, .int 0)] := hl
  refine lv_aload_n hx hb d_M_state_0 rfl (lv_at hl 0 rfl) ?_
  refine lv_aload_n hx hb d_M_state_1 rfl (lv_at hl 0 rfl) ?_
  refine lv_iload_n hx hb d_M_state_2 rfl (lv_at hl 2 rfl) ?_
  have hPc := hP.sub (ws' := [(y, .inr (5, [.int th, .int (nI bi), .int (nI ne), .int (nI li), .int (nI sp), .int (nI q), .ref ms, .ref mw, .ref mu, .ref mc, .ref mn, .int en, .int (nI sz), .ref mr, .int (nI wa), .ref mq, .int la, .ref md, .int at0, .int lk]))]) [0] rfl
  have hKc := hK.sub (tys' := []) [] rfl
  refine pci (va_runV (As := [.int 1]) (rest := [.ref y]) ⟨hx, hb, hml, hown, hg⟩ (c_M_isKind l D y ms mw mu mc mn mr mq md bi ne li sp q sz wa th en la at0 lk 1) (cwV 1 hg (gV gw_626 gw_628 gs_18 gw_7 gw_629) rfl rfl rfl (by decide +kernel) ⟨Nat.le_of_ble_eq_true rfl, Nat.le_of_ble_eq_true rfl⟩) ⟨fun a U g mk q => by obtain ⟨q0, qP, qK⟩ := q; exact ⟨q0, qP, va_K.moved (u := U) (U := U.calling g mk a) (Vm.Alike.refl U.vm) qK⟩, va_recv hKc hPc (ci := 5) (q0 := 0) rfl rfl, fun U hU hW => ⟨rfl, by rw [hU]; exact hPc, va_K.moved hW.alike hKc⟩⟩ rfl rfl hl.1 rfl (lv_room (Nat.le_of_ble_eq_true rfl)) d_M_state_3 (⟨Nat.le_of_ble_eq_true rfl, Nat.le_of_ble_eq_true rfl⟩)) ?_
  refine tpi (y := 1) (by decide) ?_
  refine lv_if_ne (tgt := 13) hx hb d_M_state_6 (by decide) (fun c_1 => ?_) (fun c_1 => ?_)
  · skip
    refine lv_iload_n hx hb d_M_state_13 rfl (lv_at hl 3 rfl) ?_
    refine lv_if_lt (tgt := 22) hx hb d_M_state_14 (by decide) (fun c_2 => ?_) (fun c_2 => ?_)
    · skip
      exact absurd c_2 (by decide)
    · skip
      refine lv_iload_n hx hb d_M_state_17 rfl (lv_at hl 3 rfl) ?_
      refine lv_iconst (v := 3) hx hb d_M_state_18 (by decide) ?_
      refine lv_icmp_le (tgt := 26) hx hb d_M_state_19 (by decide) (fun c_3 => ?_) (fun c_3 => ?_)
      · skip
        refine lv_iconst (v := 0) hx hb d_M_state_26 (by decide) ?_
        refine va_put (D := D) (ci := 5) (v := .int 0) (ty := .int) (C := R_M) (T := T_M) (N := 20) hx hb hg in_M ty_M tok_M nm_M hown hK hP hD hS 0 rfl rfl 0 (by decide) (hg _ gw_524) (fun _ h9 => h9) rfl (by decide +kernel) (rfl) (rfl) (Nat.le_of_ble_eq_true rfl) d_M_state_27 (fun H locs hP hD hS => ?_)
        have hP : va_P D CLS [(y, .inr (5, [.int 0, .int (nI bi), .int (nI ne), .int (nI li), .int (nI sp), .int (nI q), .ref ms, .ref mw, .ref mu, .ref mc, .ref mn, .int en, .int (nI sz), .ref mr, .int (nI wa), .ref mq, .int la, .ref md, .int at0, .int lk])), (mu, .inl (cI, 4, .inl su)), (mc, .inl (cI, 4, .inl cu)), (mn, .inl (cI, 4, .inl nu))] H := hP
        have hD : va_D A [(y, .inr (5, [.int 0, .int (nI bi), .int (nI ne), .int (nI li), .int (nI sp), .int (nI q), .ref ms, .ref mw, .ref mu, .ref mc, .ref mn, .int en, .int (nI sz), .ref mr, .int (nI wa), .ref mq, .int la, .ref md, .int at0, .int lk])), (mu, .inl (cI, 4, .inl su)), (mc, .inl (cI, 4, .inl cu)), (mn, .inl (cI, 4, .inl nu))] := hD
        refine lv_aload_n hx hb d_M_state_30 rfl (lv_at hl 0 rfl) ?_
        refine va_get (D := D) (ci := 5) (v := .int 0) (C := R_M) (T := T_M) (N := 20) hx hb hg in_M hown hK hP 0 rfl rfl 0 (by decide) (hg _ gw_524) (fun _ h9 => h9) rfl d_M_state_31 ?_
        refine lv_if_le (tgt := 39) hx hb d_M_state_34 (by decide) (fun c_4 => ?_) (fun c_4 => ?_)
        · skip
          refine lv_iload_n hx hb d_M_state_39 rfl (lv_at hl 1 rfl) ?_
          refine lv_if_eq (tgt := 47) hx hb d_M_state_40 (by decide) (fun c_5 => ?_) (fun c_5 => ?_)
          · skip
            exact absurd c_5 (by decide)
          · skip
            refine lv_iconst (v := 2) hx hb d_M_state_43 (by decide) ?_
            refine lv_goto (tgt := 48) hx hb d_M_state_44 (by decide) ?_
            refine lv_iload_n hx hb d_M_state_48 rfl (lv_at hl 2 rfl) ?_
            refine lv_iadd hx hb d_M_state_49 ?_
            refine tpi (y := 3) (by decide) ?_
            refine lv_istore (lv' := [(4, .int 3), (0, .ref y), (1, .int 1), (2, .int 1), (3, .int 0)]) hx hb d_M_state_50 hl (by decide) rfl (fun ls hl => ?_)
            refine lv_iload_n hx hb d_M_state_52 rfl (lv_at hl 4 rfl) ?_
            refine lv_if_ne (tgt := 66) hx hb d_M_state_53 (by decide) (fun c_6 => ?_) (fun c_6 => ?_)
            · skip
              exact absurd rfl c_6
            · skip
              refine lv_aload_n hx hb d_M_state_56 rfl (lv_at hl 1 rfl) ?_
              refine va_get (D := D) (ci := 5) (v := .ref mu) (C := R_M) (T := T_M) (N := 20) hx hb hg in_M hown hK hP 0 rfl rfl 8 (by decide) (hg _ gw_532) (fun _ h9 => h9) rfl d_M_state_57 ?_
              refine lv_iload hx hb d_M_state_60 (lv_at hl 0 rfl) ?_
              refine va_iald hx hb hK hP 1 0 rfl rfl (vp_in_nI (n := 3) (by decide) (by decide)) d_M_state_62 ?_
              refine tpi (y := nI sm) (hsu) ?_
              refine lv_goto (tgt := 102) hx hb d_M_state_63 (by decide) ?_
              exact W.iret (v := nI sm) hx hb hr (fun t ht hW => ⟨rfl, by rw [ht]; exact hP, (hAe ▸ hS).F ht⟩) (hAe ▸ hS).2.2 d_M_state_102
        · skip
          exact absurd (by decide) c_4
      · skip
        exact absurd (by decide) c_3
  · skip
    exact absurd c_1 (by decide)
set_option maxHeartbeats 4000000 in
set_option maxRecDepth 100000 in
theorem c_M_state111 (l : Launch) (D : va_G) (y ms mw mu mc mn mr mq md bi ne li sp q sz wa : Nat) (th en la at0 lk : Int32) (cI : ClassId) (su cu nu : Nat → Int32) (sm ct ng K : Nat) (hsu : su 3 = nI sm) (hcu : cu 3 = nI ct) (hnu : nu 3 = nI ng) (hc0 : ct ≤ 64) (hn0 : ng ≤ 64) (hs0 : sm < 2 ^ 30) (hKb : K ≤ 29) (hK1 : sm + ct / 2 ≤ ct * 2 ^ K) (hK2 : ∀ j, j < K → ct * 2 ^ j < sm + ct / 2) : Met l y_M_state (WSY y_M_state b_M_state 5 (some .int)) ({ frames := 2, cells := 0, slots := 0, locals := 50 }) (va_Pc [.ref y, .int 1, .int 1, .int 1] (fun U => va_P D CLS [(y, .inr (5, [.int th, .int (nI bi), .int (nI ne), .int (nI li), .int (nI sp), .int (nI q), .ref ms, .ref mw, .ref mu, .ref mc, .ref mn, .int en, .int (nI sz), .ref mr, .int (nI wa), .ref mq, .int la, .ref md, .int at0, .int lk])), (mu, .inl (cI, 4, .inl su)), (mc, .inl (cI, 4, .inl cu)), (mn, .inl (cI, 4, .inl nu))] U.heap ∧ va_K D CLS [(cI, .int)] U ∧ va_D (fun _ => True) [(y, .inr (5, [.int th, .int (nI bi), .int (nI ne), .int (nI li), .int (nI sp), .int (nI q), .ref ms, .ref mw, .ref mu, .ref mc, .ref mn, .int en, .int (nI sz), .ref mr, .int (nI wa), .ref mq, .int la, .ref md, .int at0, .int lk])), (mu, .inl (cI, 4, .inl su)), (mc, .inl (cI, 4, .inl cu)), (mn, .inl (cI, 4, .inl nu))])) (QM (some (.int (nI ct))) [(y, .inr (5, [.int th, .int (nI bi), .int (nI ne), .int (nI li), .int (nI sp), .int (nI q), .ref ms, .ref mw, .ref mu, .ref mc, .ref mn, .int en, .int (nI sz), .ref mr, .int (nI wa), .ref mq, .int la, .ref md, .int at0, .int lk])), (mu, .inl (cI, 4, .inl su)), (mc, .inl (cI, 4, .inl cu)), (mn, .inl (cI, 4, .inl nu))] [(y, .inr (5, [.int 0, .int (nI bi), .int (nI ne), .int (nI li), .int (nI sp), .int (nI q), .ref ms, .ref mw, .ref mu, .ref mc, .ref mn, .int en, .int (nI sz), .ref mr, .int (nI wa), .ref mq, .int la, .ref md, .int at0, .int lk])), (mu, .inl (cI, 4, .inl su)), (mc, .inl (cI, 4, .inl cu)), (mn, .inl (cI, 4, .inl nu))] D) 0 0 (ad [(y, .inr (5, [.int th, .int (nI bi), .int (nI ne), .int (nI li), .int (nI sp), .int (nI q), .ref ms, .ref mw, .ref mu, .ref mc, .ref mn, .int en, .int (nI sz), .ref mr, .int (nI wa), .ref mq, .int la, .ref md, .int at0, .int lk])), (mu, .inl (cI, 4, .inl su)), (mc, .inl (cI, 4, .inl cu)), (mn, .inl (cI, 4, .inl nu))]) := by
  refine Met.ofW (cc := b_M_state) (maxL := 5) (ret := (some .int)) (by decide) rfl ?_
  intro p e s m args below meth c s₁ B hml hv
  obtain ⟨rfl, hP, hK, hD0⟩ := hv
  have hx := B.exec
  have hb := B.bytes
  have hr := B.returns
  have hts := atoms_spec (ws := WSY y_M_state b_M_state 5 (some .int)) B.pre
  have hg : ∀ w ∈ GW, w.before _ s = true := fun w h => hts w (List.mem_cons_of_mem _ h)
  have hown : s.vm.findClass "LineGolombModel" = some m.cls := findClass_of_methodNamed B.named
  have hlocks := B.notSynchronized
  obtain ⟨A, hAe⟩ : ∃ A, A = ad [(y, .inr (5, [.int th, .int (nI bi), .int (nI ne), .int (nI li), .int (nI sp), .int (nI q), .ref ms, .ref mw, .ref mu, .ref mc, .ref mn, .int en, .int (nI sz), .ref mr, .int (nI wa), .ref mq, .int la, .ref md, .int at0, .int lk])), (mu, .inl (cI, 4, .inl su)), (mc, .inl (cI, 4, .inl cu)), (mn, .inl (cI, 4, .inl nu))] := ⟨_, rfl⟩
  have hD : va_D A [(y, .inr (5, [.int th, .int (nI bi), .int (nI ne), .int (nI li), .int (nI sp), .int (nI q), .ref ms, .ref mw, .ref mu, .ref mc, .ref mn, .int en, .int (nI sz), .ref mr, .int (nI wa), .ref mq, .int la, .ref md, .int at0, .int lk])), (mu, .inl (cI, 4, .inl su)), (mc, .inl (cI, 4, .inl cu)), (mn, .inl (cI, 4, .inl nu))] := by rw [hAe]; exact va_D_ad hD0
  have hS : va_S A s.heap s.heap [] := va_S.rf
  have hl := lv_entry ([.ref y, .int 1, .int 1, .int 1]) (n := 5) (Nat.le_of_ble_eq_true rfl)
  rw [lg_entry_eq]
  generalize (lg_sl ([.ref y, .int 1, .int 1, .int 1]) ++ List.replicate (5 - (lg_sl ([.ref y, .int 1, .int 1, .int 1])).length) Slot.unset).toArray = ls at hl ⊢
  have hl : lv_has ls 5 [(0, .ref y), (1, .int 1), (2, .int 1), (3, .int 1)] := hl
  refine lv_aload_n hx hb d_M_state_0 rfl (lv_at hl 0 rfl) ?_
  refine lv_aload_n hx hb d_M_state_1 rfl (lv_at hl 0 rfl) ?_
  refine lv_iload_n hx hb d_M_state_2 rfl (lv_at hl 2 rfl) ?_
  have hPc := hP.sub (ws' := [(y, .inr (5, [.int th, .int (nI bi), .int (nI ne), .int (nI li), .int (nI sp), .int (nI q), .ref ms, .ref mw, .ref mu, .ref mc, .ref mn, .int en, .int (nI sz), .ref mr, .int (nI wa), .ref mq, .int la, .ref md, .int at0, .int lk]))]) [0] rfl
  have hKc := hK.sub (tys' := []) [] rfl
  refine pci (va_runV (As := [.int 1]) (rest := [.ref y]) ⟨hx, hb, hml, hown, hg⟩ (c_M_isKind l D y ms mw mu mc mn mr mq md bi ne li sp q sz wa th en la at0 lk 1) (cwV 1 hg (gV gw_626 gw_628 gs_18 gw_7 gw_629) rfl rfl rfl (by decide +kernel) ⟨Nat.le_of_ble_eq_true rfl, Nat.le_of_ble_eq_true rfl⟩) ⟨fun a U g mk q => by obtain ⟨q0, qP, qK⟩ := q; exact ⟨q0, qP, va_K.moved (u := U) (U := U.calling g mk a) (Vm.Alike.refl U.vm) qK⟩, va_recv hKc hPc (ci := 5) (q0 := 0) rfl rfl, fun U hU hW => ⟨rfl, by rw [hU]; exact hPc, va_K.moved hW.alike hKc⟩⟩ rfl rfl hl.1 rfl (lv_room (Nat.le_of_ble_eq_true rfl)) d_M_state_3 (⟨Nat.le_of_ble_eq_true rfl, Nat.le_of_ble_eq_true rfl⟩)) ?_
  refine tpi (y := 1) (by decide) ?_
  refine lv_if_ne (tgt := 13) hx hb d_M_state_6 (by decide) (fun c_1 => ?_) (fun c_1 => ?_)
  · skip
    refine lv_iload_n hx hb d_M_state_13 rfl (lv_at hl 3 rfl) ?_
    refine lv_if_lt (tgt := 22) hx hb d_M_state_14 (by decide) (fun c_2 => ?_) (fun c_2 => ?_)
    · skip
      exact absurd c_2 (by decide)
    · skip
      refine lv_iload_n hx hb d_M_state_17 rfl (lv_at hl 3 rfl) ?_
      refine lv_iconst (v := 3) hx hb d_M_state_18 (by decide) ?_
      refine lv_icmp_le (tgt := 26) hx hb d_M_state_19 (by decide) (fun c_3 => ?_) (fun c_3 => ?_)
      · skip
        refine lv_iconst (v := 0) hx hb d_M_state_26 (by decide) ?_
        refine va_put (D := D) (ci := 5) (v := .int 0) (ty := .int) (C := R_M) (T := T_M) (N := 20) hx hb hg in_M ty_M tok_M nm_M hown hK hP hD hS 0 rfl rfl 0 (by decide) (hg _ gw_524) (fun _ h9 => h9) rfl (by decide +kernel) (rfl) (rfl) (Nat.le_of_ble_eq_true rfl) d_M_state_27 (fun H locs hP hD hS => ?_)
        have hP : va_P D CLS [(y, .inr (5, [.int 0, .int (nI bi), .int (nI ne), .int (nI li), .int (nI sp), .int (nI q), .ref ms, .ref mw, .ref mu, .ref mc, .ref mn, .int en, .int (nI sz), .ref mr, .int (nI wa), .ref mq, .int la, .ref md, .int at0, .int lk])), (mu, .inl (cI, 4, .inl su)), (mc, .inl (cI, 4, .inl cu)), (mn, .inl (cI, 4, .inl nu))] H := hP
        have hD : va_D A [(y, .inr (5, [.int 0, .int (nI bi), .int (nI ne), .int (nI li), .int (nI sp), .int (nI q), .ref ms, .ref mw, .ref mu, .ref mc, .ref mn, .int en, .int (nI sz), .ref mr, .int (nI wa), .ref mq, .int la, .ref md, .int at0, .int lk])), (mu, .inl (cI, 4, .inl su)), (mc, .inl (cI, 4, .inl cu)), (mn, .inl (cI, 4, .inl nu))] := hD
        refine lv_aload_n hx hb d_M_state_30 rfl (lv_at hl 0 rfl) ?_
        refine va_get (D := D) (ci := 5) (v := .int 0) (C := R_M) (T := T_M) (N := 20) hx hb hg in_M hown hK hP 0 rfl rfl 0 (by decide) (hg _ gw_524) (fun _ h9 => h9) rfl d_M_state_31 ?_
        refine lv_if_le (tgt := 39) hx hb d_M_state_34 (by decide) (fun c_4 => ?_) (fun c_4 => ?_)
        · skip
          refine lv_iload_n hx hb d_M_state_39 rfl (lv_at hl 1 rfl) ?_
          refine lv_if_eq (tgt := 47) hx hb d_M_state_40 (by decide) (fun c_5 => ?_) (fun c_5 => ?_)
          · skip
            exact absurd c_5 (by decide)
          · skip
            refine lv_iconst (v := 2) hx hb d_M_state_43 (by decide) ?_
            refine lv_goto (tgt := 48) hx hb d_M_state_44 (by decide) ?_
            refine lv_iload_n hx hb d_M_state_48 rfl (lv_at hl 2 rfl) ?_
            refine lv_iadd hx hb d_M_state_49 ?_
            refine tpi (y := 3) (by decide) ?_
            refine lv_istore (lv' := [(4, .int 3), (0, .ref y), (1, .int 1), (2, .int 1), (3, .int 1)]) hx hb d_M_state_50 hl (by decide) rfl (fun ls hl => ?_)
            refine lv_iload_n hx hb d_M_state_52 rfl (lv_at hl 4 rfl) ?_
            refine lv_if_ne (tgt := 66) hx hb d_M_state_53 (by decide) (fun c_6 => ?_) (fun c_6 => ?_)
            · skip
              refine lv_iload_n hx hb d_M_state_66 rfl (lv_at hl 4 rfl) ?_
              refine lv_iconst (v := 1) hx hb d_M_state_67 (by decide) ?_
              refine lv_icmp_ne (tgt := 81) hx hb d_M_state_68 (by decide) (fun c_7 => ?_) (fun c_7 => ?_)
              · skip
                exact absurd rfl c_7
              · skip
                refine lv_aload_n hx hb d_M_state_71 rfl (lv_at hl 1 rfl) ?_
                refine va_get (D := D) (ci := 5) (v := .ref mc) (C := R_M) (T := T_M) (N := 20) hx hb hg in_M hown hK hP 0 rfl rfl 9 (by decide) (hg _ gw_533) (fun _ h9 => h9) rfl d_M_state_72 ?_
                refine lv_iload hx hb d_M_state_75 (lv_at hl 0 rfl) ?_
                refine va_iald hx hb hK hP 2 0 rfl rfl (vp_in_nI (n := 3) (by decide) (by decide)) d_M_state_77 ?_
                refine tpi (y := nI ct) (hcu) ?_
                refine lv_goto (tgt := 102) hx hb d_M_state_78 (by decide) ?_
                exact W.iret (v := nI ct) hx hb hr (fun t ht hW => ⟨rfl, by rw [ht]; exact hP, (hAe ▸ hS).F ht⟩) (hAe ▸ hS).2.2 d_M_state_102
            · skip
              exact absurd c_6 (by decide)
        · skip
          exact absurd (by decide) c_4
      · skip
        exact absurd (by decide) c_3
  · skip
    exact absurd c_1 (by decide)
set_option maxHeartbeats 4000000 in
set_option maxRecDepth 100000 in
theorem c_M_state112 (l : Launch) (D : va_G) (y ms mw mu mc mn mr mq md bi ne li sp q sz wa : Nat) (th en la at0 lk : Int32) (cI : ClassId) (su cu nu : Nat → Int32) (sm ct ng K : Nat) (hsu : su 3 = nI sm) (hcu : cu 3 = nI ct) (hnu : nu 3 = nI ng) (hc0 : ct ≤ 64) (hn0 : ng ≤ 64) (hs0 : sm < 2 ^ 30) (hKb : K ≤ 29) (hK1 : sm + ct / 2 ≤ ct * 2 ^ K) (hK2 : ∀ j, j < K → ct * 2 ^ j < sm + ct / 2) : Met l y_M_state (WSY y_M_state b_M_state 5 (some .int)) ({ frames := 2, cells := 0, slots := 0, locals := 50 }) (va_Pc [.ref y, .int 1, .int 1, .int 2] (fun U => va_P D CLS [(y, .inr (5, [.int th, .int (nI bi), .int (nI ne), .int (nI li), .int (nI sp), .int (nI q), .ref ms, .ref mw, .ref mu, .ref mc, .ref mn, .int en, .int (nI sz), .ref mr, .int (nI wa), .ref mq, .int la, .ref md, .int at0, .int lk])), (mu, .inl (cI, 4, .inl su)), (mc, .inl (cI, 4, .inl cu)), (mn, .inl (cI, 4, .inl nu))] U.heap ∧ va_K D CLS [(cI, .int)] U ∧ va_D (fun _ => True) [(y, .inr (5, [.int th, .int (nI bi), .int (nI ne), .int (nI li), .int (nI sp), .int (nI q), .ref ms, .ref mw, .ref mu, .ref mc, .ref mn, .int en, .int (nI sz), .ref mr, .int (nI wa), .ref mq, .int la, .ref md, .int at0, .int lk])), (mu, .inl (cI, 4, .inl su)), (mc, .inl (cI, 4, .inl cu)), (mn, .inl (cI, 4, .inl nu))])) (QM (some (.int (nI ng))) [(y, .inr (5, [.int th, .int (nI bi), .int (nI ne), .int (nI li), .int (nI sp), .int (nI q), .ref ms, .ref mw, .ref mu, .ref mc, .ref mn, .int en, .int (nI sz), .ref mr, .int (nI wa), .ref mq, .int la, .ref md, .int at0, .int lk])), (mu, .inl (cI, 4, .inl su)), (mc, .inl (cI, 4, .inl cu)), (mn, .inl (cI, 4, .inl nu))] [(y, .inr (5, [.int 0, .int (nI bi), .int (nI ne), .int (nI li), .int (nI sp), .int (nI q), .ref ms, .ref mw, .ref mu, .ref mc, .ref mn, .int en, .int (nI sz), .ref mr, .int (nI wa), .ref mq, .int la, .ref md, .int at0, .int lk])), (mu, .inl (cI, 4, .inl su)), (mc, .inl (cI, 4, .inl cu)), (mn, .inl (cI, 4, .inl nu))] D) 0 0 (ad [(y, .inr (5, [.int th, .int (nI bi), .int (nI ne), .int (nI li), .int (nI sp), .int (nI q), .ref ms, .ref mw, .ref mu, .ref mc, .ref mn, .int en, .int (nI sz), .ref mr, .int (nI wa), .ref mq, .int la, .ref md, .int at0, .int lk])), (mu, .inl (cI, 4, .inl su)), (mc, .inl (cI, 4, .inl cu)), (mn, .inl (cI, 4, .inl nu))]) := by
  refine Met.ofW (cc := b_M_state) (maxL := 5) (ret := (some .int)) (by decide) rfl ?_
  intro p e s m args below meth c s₁ B hml hv
  obtain ⟨rfl, hP, hK, hD0⟩ := hv
  have hx := B.exec
  have hb := B.bytes
  have hr := B.returns
  have hts := atoms_spec (ws := WSY y_M_state b_M_state 5 (some .int)) B.pre
  have hg : ∀ w ∈ GW, w.before _ s = true := fun w h => hts w (List.mem_cons_of_mem _ h)
  have hown : s.vm.findClass "LineGolombModel" = some m.cls := findClass_of_methodNamed B.named
  have hlocks := B.notSynchronized
  obtain ⟨A, hAe⟩ : ∃ A, A = ad [(y, .inr (5, [.int th, .int (nI bi), .int (nI ne), .int (nI li), .int (nI sp), .int (nI q), .ref ms, .ref mw, .ref mu, .ref mc, .ref mn, .int en, .int (nI sz), .ref mr, .int (nI wa), .ref mq, .int la, .ref md, .int at0, .int lk])), (mu, .inl (cI, 4, .inl su)), (mc, .inl (cI, 4, .inl cu)), (mn, .inl (cI, 4, .inl nu))] := ⟨_, rfl⟩
  have hD : va_D A [(y, .inr (5, [.int th, .int (nI bi), .int (nI ne), .int (nI li), .int (nI sp), .int (nI q), .ref ms, .ref mw, .ref mu, .ref mc, .ref mn, .int en, .int (nI sz), .ref mr, .int (nI wa), .ref mq, .int la, .ref md, .int at0, .int lk])), (mu, .inl (cI, 4, .inl su)), (mc, .inl (cI, 4, .inl cu)), (mn, .inl (cI, 4, .inl nu))] := by rw [hAe]; exact va_D_ad hD0
  have hS : va_S A s.heap s.heap [] := va_S.rf
  have hl := lv_entry ([.ref y, .int 1, .int 1, .int 2]) (n := 5) (Nat.le_of_ble_eq_true rfl)
  rw [lg_entry_eq]
  generalize (lg_sl ([.ref y, .int 1, .int 1, .int 2]) ++ List.replicate (5 - (lg_sl ([.ref y, .int 1, .int 1, .int 2])).length) Slot.unset).toArray = ls at hl ⊢
  have hl : lv_has ls 5 [(0, .ref y), (1, .int 1), (2, .int 1), (3, .int 2)] := hl
  refine lv_aload_n hx hb d_M_state_0 rfl (lv_at hl 0 rfl) ?_
  refine lv_aload_n hx hb d_M_state_1 rfl (lv_at hl 0 rfl) ?_
  refine lv_iload_n hx hb d_M_state_2 rfl (lv_at hl 2 rfl) ?_
  have hPc := hP.sub (ws' := [(y, .inr (5, [.int th, .int (nI bi), .int (nI ne), .int (nI li), .int (nI sp), .int (nI q), .ref ms, .ref mw, .ref mu, .ref mc, .ref mn, .int en, .int (nI sz), .ref mr, .int (nI wa), .ref mq, .int la, .ref md, .int at0, .int lk]))]) [0] rfl
  have hKc := hK.sub (tys' := []) [] rfl
  refine pci (va_runV (As := [.int 1]) (rest := [.ref y]) ⟨hx, hb, hml, hown, hg⟩ (c_M_isKind l D y ms mw mu mc mn mr mq md bi ne li sp q sz wa th en la at0 lk 1) (cwV 1 hg (gV gw_626 gw_628 gs_18 gw_7 gw_629) rfl rfl rfl (by decide +kernel) ⟨Nat.le_of_ble_eq_true rfl, Nat.le_of_ble_eq_true rfl⟩) ⟨fun a U g mk q => by obtain ⟨q0, qP, qK⟩ := q; exact ⟨q0, qP, va_K.moved (u := U) (U := U.calling g mk a) (Vm.Alike.refl U.vm) qK⟩, va_recv hKc hPc (ci := 5) (q0 := 0) rfl rfl, fun U hU hW => ⟨rfl, by rw [hU]; exact hPc, va_K.moved hW.alike hKc⟩⟩ rfl rfl hl.1 rfl (lv_room (Nat.le_of_ble_eq_true rfl)) d_M_state_3 (⟨Nat.le_of_ble_eq_true rfl, Nat.le_of_ble_eq_true rfl⟩)) ?_
  refine tpi (y := 1) (by decide) ?_
  refine lv_if_ne (tgt := 13) hx hb d_M_state_6 (by decide) (fun c_1 => ?_) (fun c_1 => ?_)
  · skip
    refine lv_iload_n hx hb d_M_state_13 rfl (lv_at hl 3 rfl) ?_
    refine lv_if_lt (tgt := 22) hx hb d_M_state_14 (by decide) (fun c_2 => ?_) (fun c_2 => ?_)
    · skip
      exact absurd c_2 (by decide)
    · skip
      refine lv_iload_n hx hb d_M_state_17 rfl (lv_at hl 3 rfl) ?_
      refine lv_iconst (v := 3) hx hb d_M_state_18 (by decide) ?_
      refine lv_icmp_le (tgt := 26) hx hb d_M_state_19 (by decide) (fun c_3 => ?_) (fun c_3 => ?_)
      · skip
        refine lv_iconst (v := 0) hx hb d_M_state_26 (by decide) ?_
        refine va_put (D := D) (ci := 5) (v := .int 0) (ty := .int) (C := R_M) (T := T_M) (N := 20) hx hb hg in_M ty_M tok_M nm_M hown hK hP hD hS 0 rfl rfl 0 (by decide) (hg _ gw_524) (fun _ h9 => h9) rfl (by decide +kernel) (rfl) (rfl) (Nat.le_of_ble_eq_true rfl) d_M_state_27 (fun H locs hP hD hS => ?_)
        have hP : va_P D CLS [(y, .inr (5, [.int 0, .int (nI bi), .int (nI ne), .int (nI li), .int (nI sp), .int (nI q), .ref ms, .ref mw, .ref mu, .ref mc, .ref mn, .int en, .int (nI sz), .ref mr, .int (nI wa), .ref mq, .int la, .ref md, .int at0, .int lk])), (mu, .inl (cI, 4, .inl su)), (mc, .inl (cI, 4, .inl cu)), (mn, .inl (cI, 4, .inl nu))] H := hP
        have hD : va_D A [(y, .inr (5, [.int 0, .int (nI bi), .int (nI ne), .int (nI li), .int (nI sp), .int (nI q), .ref ms, .ref mw, .ref mu, .ref mc, .ref mn, .int en, .int (nI sz), .ref mr, .int (nI wa), .ref mq, .int la, .ref md, .int at0, .int lk])), (mu, .inl (cI, 4, .inl su)), (mc, .inl (cI, 4, .inl cu)), (mn, .inl (cI, 4, .inl nu))] := hD
        refine lv_aload_n hx hb d_M_state_30 rfl (lv_at hl 0 rfl) ?_
        refine va_get (D := D) (ci := 5) (v := .int 0) (C := R_M) (T := T_M) (N := 20) hx hb hg in_M hown hK hP 0 rfl rfl 0 (by decide) (hg _ gw_524) (fun _ h9 => h9) rfl d_M_state_31 ?_
        refine lv_if_le (tgt := 39) hx hb d_M_state_34 (by decide) (fun c_4 => ?_) (fun c_4 => ?_)
        · skip
          refine lv_iload_n hx hb d_M_state_39 rfl (lv_at hl 1 rfl) ?_
          refine lv_if_eq (tgt := 47) hx hb d_M_state_40 (by decide) (fun c_5 => ?_) (fun c_5 => ?_)
          · skip
            exact absurd c_5 (by decide)
          · skip
            refine lv_iconst (v := 2) hx hb d_M_state_43 (by decide) ?_
            refine lv_goto (tgt := 48) hx hb d_M_state_44 (by decide) ?_
            refine lv_iload_n hx hb d_M_state_48 rfl (lv_at hl 2 rfl) ?_
            refine lv_iadd hx hb d_M_state_49 ?_
            refine tpi (y := 3) (by decide) ?_
            refine lv_istore (lv' := [(4, .int 3), (0, .ref y), (1, .int 1), (2, .int 1), (3, .int 2)]) hx hb d_M_state_50 hl (by decide) rfl (fun ls hl => ?_)
            refine lv_iload_n hx hb d_M_state_52 rfl (lv_at hl 4 rfl) ?_
            refine lv_if_ne (tgt := 66) hx hb d_M_state_53 (by decide) (fun c_6 => ?_) (fun c_6 => ?_)
            · skip
              refine lv_iload_n hx hb d_M_state_66 rfl (lv_at hl 4 rfl) ?_
              refine lv_iconst (v := 1) hx hb d_M_state_67 (by decide) ?_
              refine lv_icmp_ne (tgt := 81) hx hb d_M_state_68 (by decide) (fun c_7 => ?_) (fun c_7 => ?_)
              · skip
                refine lv_iload_n hx hb d_M_state_81 rfl (lv_at hl 4 rfl) ?_
                refine lv_iconst (v := 2) hx hb d_M_state_82 (by decide) ?_
                refine lv_icmp_ne (tgt := 96) hx hb d_M_state_83 (by decide) (fun c_8 => ?_) (fun c_8 => ?_)
                · skip
                  exact absurd rfl c_8
                · skip
                  refine lv_aload_n hx hb d_M_state_86 rfl (lv_at hl 1 rfl) ?_
                  refine va_get (D := D) (ci := 5) (v := .ref mn) (C := R_M) (T := T_M) (N := 20) hx hb hg in_M hown hK hP 0 rfl rfl 10 (by decide) (hg _ gw_534) (fun _ h9 => h9) rfl d_M_state_87 ?_
                  refine lv_iload hx hb d_M_state_90 (lv_at hl 0 rfl) ?_
                  refine va_iald hx hb hK hP 3 0 rfl rfl (vp_in_nI (n := 3) (by decide) (by decide)) d_M_state_92 ?_
                  refine tpi (y := nI ng) (hnu) ?_
                  refine lv_goto (tgt := 102) hx hb d_M_state_93 (by decide) ?_
                  exact W.iret (v := nI ng) hx hb hr (fun t ht hW => ⟨rfl, by rw [ht]; exact hP, (hAe ▸ hS).F ht⟩) (hAe ▸ hS).2.2 d_M_state_102
              · skip
                exact absurd c_7 (by decide)
            · skip
              exact absurd c_6 (by decide)
        · skip
          exact absurd (by decide) c_4
      · skip
        exact absurd (by decide) c_3
  · skip
    exact absurd c_1 (by decide)
set_option maxHeartbeats 4000000 in
set_option maxRecDepth 100000 in
theorem c_M_state113 (l : Launch) (D : va_G) (y ms mw mu mc mn mr mq md bi ne li sp q sz wa : Nat) (th en la at0 lk : Int32) (cI : ClassId) (su cu nu : Nat → Int32) (sm ct ng K : Nat) (hsu : su 3 = nI sm) (hcu : cu 3 = nI ct) (hnu : nu 3 = nI ng) (hc0 : ct ≤ 64) (hn0 : ng ≤ 64) (hs0 : sm < 2 ^ 30) (hKb : K ≤ 29) (hK1 : sm + ct / 2 ≤ ct * 2 ^ K) (hK2 : ∀ j, j < K → ct * 2 ^ j < sm + ct / 2) : Met l y_M_state (WSY y_M_state b_M_state 5 (some .int)) ({ frames := 2, cells := 0, slots := 0, locals := 50 }) (va_Pc [.ref y, .int 1, .int 1, .int 3] (fun U => va_P D CLS [(y, .inr (5, [.int th, .int (nI bi), .int (nI ne), .int (nI li), .int (nI sp), .int (nI q), .ref ms, .ref mw, .ref mu, .ref mc, .ref mn, .int en, .int (nI sz), .ref mr, .int (nI wa), .ref mq, .int la, .ref md, .int at0, .int lk])), (mu, .inl (cI, 4, .inl su)), (mc, .inl (cI, 4, .inl cu)), (mn, .inl (cI, 4, .inl nu))] U.heap ∧ va_K D CLS [(cI, .int)] U ∧ va_D (fun _ => True) [(y, .inr (5, [.int th, .int (nI bi), .int (nI ne), .int (nI li), .int (nI sp), .int (nI q), .ref ms, .ref mw, .ref mu, .ref mc, .ref mn, .int en, .int (nI sz), .ref mr, .int (nI wa), .ref mq, .int la, .ref md, .int at0, .int lk])), (mu, .inl (cI, 4, .inl su)), (mc, .inl (cI, 4, .inl cu)), (mn, .inl (cI, 4, .inl nu))])) (QM (some (.int (nI K))) [(y, .inr (5, [.int th, .int (nI bi), .int (nI ne), .int (nI li), .int (nI sp), .int (nI q), .ref ms, .ref mw, .ref mu, .ref mc, .ref mn, .int en, .int (nI sz), .ref mr, .int (nI wa), .ref mq, .int la, .ref md, .int at0, .int lk])), (mu, .inl (cI, 4, .inl su)), (mc, .inl (cI, 4, .inl cu)), (mn, .inl (cI, 4, .inl nu))] [(y, .inr (5, [.int 0, .int (nI bi), .int (nI ne), .int (nI li), .int (nI sp), .int (nI q), .ref ms, .ref mw, .ref mu, .ref mc, .ref mn, .int en, .int (nI sz), .ref mr, .int (nI wa), .ref mq, .int la, .ref md, .int at0, .int lk])), (mu, .inl (cI, 4, .inl su)), (mc, .inl (cI, 4, .inl cu)), (mn, .inl (cI, 4, .inl nu))] D) 0 0 (ad [(y, .inr (5, [.int th, .int (nI bi), .int (nI ne), .int (nI li), .int (nI sp), .int (nI q), .ref ms, .ref mw, .ref mu, .ref mc, .ref mn, .int en, .int (nI sz), .ref mr, .int (nI wa), .ref mq, .int la, .ref md, .int at0, .int lk])), (mu, .inl (cI, 4, .inl su)), (mc, .inl (cI, 4, .inl cu)), (mn, .inl (cI, 4, .inl nu))]) := by
  refine Met.ofW (cc := b_M_state) (maxL := 5) (ret := (some .int)) (by decide) rfl ?_
  intro p e s m args below meth c s₁ B hml hv
  obtain ⟨rfl, hP, hK, hD0⟩ := hv
  have hx := B.exec
  have hb := B.bytes
  have hr := B.returns
  have hts := atoms_spec (ws := WSY y_M_state b_M_state 5 (some .int)) B.pre
  have hg : ∀ w ∈ GW, w.before _ s = true := fun w h => hts w (List.mem_cons_of_mem _ h)
  have hown : s.vm.findClass "LineGolombModel" = some m.cls := findClass_of_methodNamed B.named
  have hlocks := B.notSynchronized
  obtain ⟨A, hAe⟩ : ∃ A, A = ad [(y, .inr (5, [.int th, .int (nI bi), .int (nI ne), .int (nI li), .int (nI sp), .int (nI q), .ref ms, .ref mw, .ref mu, .ref mc, .ref mn, .int en, .int (nI sz), .ref mr, .int (nI wa), .ref mq, .int la, .ref md, .int at0, .int lk])), (mu, .inl (cI, 4, .inl su)), (mc, .inl (cI, 4, .inl cu)), (mn, .inl (cI, 4, .inl nu))] := ⟨_, rfl⟩
  have hD : va_D A [(y, .inr (5, [.int th, .int (nI bi), .int (nI ne), .int (nI li), .int (nI sp), .int (nI q), .ref ms, .ref mw, .ref mu, .ref mc, .ref mn, .int en, .int (nI sz), .ref mr, .int (nI wa), .ref mq, .int la, .ref md, .int at0, .int lk])), (mu, .inl (cI, 4, .inl su)), (mc, .inl (cI, 4, .inl cu)), (mn, .inl (cI, 4, .inl nu))] := by rw [hAe]; exact va_D_ad hD0
  have hS : va_S A s.heap s.heap [] := va_S.rf
  have hl := lv_entry ([.ref y, .int 1, .int 1, .int 3]) (n := 5) (Nat.le_of_ble_eq_true rfl)
  rw [lg_entry_eq]
  generalize (lg_sl ([.ref y, .int 1, .int 1, .int 3]) ++ List.replicate (5 - (lg_sl ([.ref y, .int 1, .int 1, .int 3])).length) Slot.unset).toArray = ls at hl ⊢
  have hl : lv_has ls 5 [(0, .ref y), (1, .int 1), (2, .int 1), (3, .int 3)] := hl
  refine lv_aload_n hx hb d_M_state_0 rfl (lv_at hl 0 rfl) ?_
  refine lv_aload_n hx hb d_M_state_1 rfl (lv_at hl 0 rfl) ?_
  refine lv_iload_n hx hb d_M_state_2 rfl (lv_at hl 2 rfl) ?_
  have hPc := hP.sub (ws' := [(y, .inr (5, [.int th, .int (nI bi), .int (nI ne), .int (nI li), .int (nI sp), .int (nI q), .ref ms, .ref mw, .ref mu, .ref mc, .ref mn, .int en, .int (nI sz), .ref mr, .int (nI wa), .ref mq, .int la, .ref md, .int at0, .int lk]))]) [0] rfl
  have hKc := hK.sub (tys' := []) [] rfl
  refine pci (va_runV (As := [.int 1]) (rest := [.ref y]) ⟨hx, hb, hml, hown, hg⟩ (c_M_isKind l D y ms mw mu mc mn mr mq md bi ne li sp q sz wa th en la at0 lk 1) (cwV 1 hg (gV gw_626 gw_628 gs_18 gw_7 gw_629) rfl rfl rfl (by decide +kernel) ⟨Nat.le_of_ble_eq_true rfl, Nat.le_of_ble_eq_true rfl⟩) ⟨fun a U g mk q => by obtain ⟨q0, qP, qK⟩ := q; exact ⟨q0, qP, va_K.moved (u := U) (U := U.calling g mk a) (Vm.Alike.refl U.vm) qK⟩, va_recv hKc hPc (ci := 5) (q0 := 0) rfl rfl, fun U hU hW => ⟨rfl, by rw [hU]; exact hPc, va_K.moved hW.alike hKc⟩⟩ rfl rfl hl.1 rfl (lv_room (Nat.le_of_ble_eq_true rfl)) d_M_state_3 (⟨Nat.le_of_ble_eq_true rfl, Nat.le_of_ble_eq_true rfl⟩)) ?_
  refine tpi (y := 1) (by decide) ?_
  refine lv_if_ne (tgt := 13) hx hb d_M_state_6 (by decide) (fun c_1 => ?_) (fun c_1 => ?_)
  · skip
    refine lv_iload_n hx hb d_M_state_13 rfl (lv_at hl 3 rfl) ?_
    refine lv_if_lt (tgt := 22) hx hb d_M_state_14 (by decide) (fun c_2 => ?_) (fun c_2 => ?_)
    · skip
      exact absurd c_2 (by decide)
    · skip
      refine lv_iload_n hx hb d_M_state_17 rfl (lv_at hl 3 rfl) ?_
      refine lv_iconst (v := 3) hx hb d_M_state_18 (by decide) ?_
      refine lv_icmp_le (tgt := 26) hx hb d_M_state_19 (by decide) (fun c_3 => ?_) (fun c_3 => ?_)
      · skip
        refine lv_iconst (v := 0) hx hb d_M_state_26 (by decide) ?_
        refine va_put (D := D) (ci := 5) (v := .int 0) (ty := .int) (C := R_M) (T := T_M) (N := 20) hx hb hg in_M ty_M tok_M nm_M hown hK hP hD hS 0 rfl rfl 0 (by decide) (hg _ gw_524) (fun _ h9 => h9) rfl (by decide +kernel) (rfl) (rfl) (Nat.le_of_ble_eq_true rfl) d_M_state_27 (fun H locs hP hD hS => ?_)
        have hP : va_P D CLS [(y, .inr (5, [.int 0, .int (nI bi), .int (nI ne), .int (nI li), .int (nI sp), .int (nI q), .ref ms, .ref mw, .ref mu, .ref mc, .ref mn, .int en, .int (nI sz), .ref mr, .int (nI wa), .ref mq, .int la, .ref md, .int at0, .int lk])), (mu, .inl (cI, 4, .inl su)), (mc, .inl (cI, 4, .inl cu)), (mn, .inl (cI, 4, .inl nu))] H := hP
        have hD : va_D A [(y, .inr (5, [.int 0, .int (nI bi), .int (nI ne), .int (nI li), .int (nI sp), .int (nI q), .ref ms, .ref mw, .ref mu, .ref mc, .ref mn, .int en, .int (nI sz), .ref mr, .int (nI wa), .ref mq, .int la, .ref md, .int at0, .int lk])), (mu, .inl (cI, 4, .inl su)), (mc, .inl (cI, 4, .inl cu)), (mn, .inl (cI, 4, .inl nu))] := hD
        refine lv_aload_n hx hb d_M_state_30 rfl (lv_at hl 0 rfl) ?_
        refine va_get (D := D) (ci := 5) (v := .int 0) (C := R_M) (T := T_M) (N := 20) hx hb hg in_M hown hK hP 0 rfl rfl 0 (by decide) (hg _ gw_524) (fun _ h9 => h9) rfl d_M_state_31 ?_
        refine lv_if_le (tgt := 39) hx hb d_M_state_34 (by decide) (fun c_4 => ?_) (fun c_4 => ?_)
        · skip
          refine lv_iload_n hx hb d_M_state_39 rfl (lv_at hl 1 rfl) ?_
          refine lv_if_eq (tgt := 47) hx hb d_M_state_40 (by decide) (fun c_5 => ?_) (fun c_5 => ?_)
          · skip
            exact absurd c_5 (by decide)
          · skip
            refine lv_iconst (v := 2) hx hb d_M_state_43 (by decide) ?_
            refine lv_goto (tgt := 48) hx hb d_M_state_44 (by decide) ?_
            refine lv_iload_n hx hb d_M_state_48 rfl (lv_at hl 2 rfl) ?_
            refine lv_iadd hx hb d_M_state_49 ?_
            refine tpi (y := 3) (by decide) ?_
            refine lv_istore (lv' := [(4, .int 3), (0, .ref y), (1, .int 1), (2, .int 1), (3, .int 3)]) hx hb d_M_state_50 hl (by decide) rfl (fun ls hl => ?_)
            refine lv_iload_n hx hb d_M_state_52 rfl (lv_at hl 4 rfl) ?_
            refine lv_if_ne (tgt := 66) hx hb d_M_state_53 (by decide) (fun c_6 => ?_) (fun c_6 => ?_)
            · skip
              refine lv_iload_n hx hb d_M_state_66 rfl (lv_at hl 4 rfl) ?_
              refine lv_iconst (v := 1) hx hb d_M_state_67 (by decide) ?_
              refine lv_icmp_ne (tgt := 81) hx hb d_M_state_68 (by decide) (fun c_7 => ?_) (fun c_7 => ?_)
              · skip
                refine lv_iload_n hx hb d_M_state_81 rfl (lv_at hl 4 rfl) ?_
                refine lv_iconst (v := 2) hx hb d_M_state_82 (by decide) ?_
                refine lv_icmp_ne (tgt := 96) hx hb d_M_state_83 (by decide) (fun c_8 => ?_) (fun c_8 => ?_)
                · skip
                  refine lv_aload_n hx hb d_M_state_96 rfl (lv_at hl 1 rfl) ?_
                  refine lv_iload hx hb d_M_state_97 (lv_at hl 0 rfl) ?_
                  have hPc := hP.sub (ws' := [(y, .inr (5, [.int 0, .int (nI bi), .int (nI ne), .int (nI li), .int (nI sp), .int (nI q), .ref ms, .ref mw, .ref mu, .ref mc, .ref mn, .int en, .int (nI sz), .ref mr, .int (nI wa), .ref mq, .int la, .ref md, .int at0, .int lk])), (mu, .inl (cI, 4, .inl su)), (mc, .inl (cI, 4, .inl cu)), (mn, .inl (cI, 4, .inl nu))]) [0, 1, 2, 3] rfl
                  have hKc := hK.sub (tys' := [(cI, .int)]) [0] rfl
                  refine pci (va_runV (As := [.int 3]) (rest := []) ⟨hx, hb, hml, hown, hg⟩ (c_M_kOf3 l D y ms mw mu mc mn mr mq md bi ne li sp q sz wa 0 en la at0 lk cI su cu nu sm ct ng K hsu hcu hnu hc0 hn0 hs0 hKb hK1 hK2) (cwV 1 hg (gV gw_638 gw_640 gs_21 gw_7 gw_641) rfl rfl rfl (by decide +kernel) ⟨Nat.le_of_ble_eq_true rfl, Nat.le_of_ble_eq_true rfl⟩) ⟨fun a U g mk q => by obtain ⟨q0, qP, qK⟩ := q; exact ⟨q0, qP, va_K.moved (u := U) (U := U.calling g mk a) (Vm.Alike.refl U.vm) qK⟩, va_recv hKc hPc (ci := 5) (q0 := 0) rfl rfl, fun U hU hW => ⟨rfl, by rw [hU]; exact hPc, va_K.moved hW.alike hKc⟩⟩ rfl rfl hl.1 rfl (lv_room (Nat.le_of_ble_eq_true rfl)) d_M_state_99 (⟨Nat.le_of_ble_eq_true rfl, Nat.le_of_ble_eq_true rfl⟩)) ?_
                  exact W.iret (v := nI K) hx hb hr (fun t ht hW => ⟨rfl, by rw [ht]; exact hP, (hAe ▸ hS).F ht⟩) (hAe ▸ hS).2.2 d_M_state_102
                · skip
                  exact absurd c_8 (by decide)
              · skip
                exact absurd c_7 (by decide)
            · skip
              exact absurd c_6 (by decide)
        · skip
          exact absurd (by decide) c_4
      · skip
        exact absurd (by decide) c_3
  · skip
    exact absurd c_1 (by decide)
set_option maxHeartbeats 4000000 in
set_option maxRecDepth 100000 in
theorem c_M_stateK (l : Launch) (D : va_G) (y ms mw mu mc mn mr mq md bi ne li sp q sz wa : Nat) (th en la at0 lk : Int32) (v0 v1 v2 : Int32) (hbad : ¬ (v1 = 0 ∨ v1 = 1)) : Met l y_M_state (WSY y_M_state b_M_state 5 (some .int)) ({ frames := 2, cells := 0, slots := 0, locals := 50 }) (va_Pc [.ref y, .int v0, .int v1, .int v2] (fun U => va_P D CLS [(y, .inr (5, [.int th, .int (nI bi), .int (nI ne), .int (nI li), .int (nI sp), .int (nI q), .ref ms, .ref mw, .ref mu, .ref mc, .ref mn, .int en, .int (nI sz), .ref mr, .int (nI wa), .ref mq, .int la, .ref md, .int at0, .int lk]))] U.heap ∧ va_K D CLS [] U ∧ va_D (fun _ => True) [(y, .inr (5, [.int th, .int (nI bi), .int (nI ne), .int (nI li), .int (nI sp), .int (nI q), .ref ms, .ref mw, .ref mu, .ref mc, .ref mn, .int en, .int (nI sz), .ref mr, .int (nI wa), .ref mq, .int la, .ref md, .int at0, .int lk]))])) (QM (some (.int 0)) [(y, .inr (5, [.int th, .int (nI bi), .int (nI ne), .int (nI li), .int (nI sp), .int (nI q), .ref ms, .ref mw, .ref mu, .ref mc, .ref mn, .int en, .int (nI sz), .ref mr, .int (nI wa), .ref mq, .int la, .ref md, .int at0, .int lk]))] [(y, .inr (5, [.int 1, .int (nI bi), .int (nI ne), .int (nI li), .int (nI sp), .int (nI q), .ref ms, .ref mw, .ref mu, .ref mc, .ref mn, .int en, .int (nI sz), .ref mr, .int (nI wa), .ref mq, .int la, .ref md, .int at0, .int lk]))] D) 0 0 (ad [(y, .inr (5, [.int th, .int (nI bi), .int (nI ne), .int (nI li), .int (nI sp), .int (nI q), .ref ms, .ref mw, .ref mu, .ref mc, .ref mn, .int en, .int (nI sz), .ref mr, .int (nI wa), .ref mq, .int la, .ref md, .int at0, .int lk]))]) := by
  refine Met.ofW (cc := b_M_state) (maxL := 5) (ret := (some .int)) (by decide) rfl ?_
  intro p e s m args below meth c s₁ B hml hv
  obtain ⟨rfl, hP, hK, hD0⟩ := hv
  have hx := B.exec
  have hb := B.bytes
  have hr := B.returns
  have hts := atoms_spec (ws := WSY y_M_state b_M_state 5 (some .int)) B.pre
  have hg : ∀ w ∈ GW, w.before _ s = true := fun w h => hts w (List.mem_cons_of_mem _ h)
  have hown : s.vm.findClass "LineGolombModel" = some m.cls := findClass_of_methodNamed B.named
  have hlocks := B.notSynchronized
  obtain ⟨A, hAe⟩ : ∃ A, A = ad [(y, .inr (5, [.int th, .int (nI bi), .int (nI ne), .int (nI li), .int (nI sp), .int (nI q), .ref ms, .ref mw, .ref mu, .ref mc, .ref mn, .int en, .int (nI sz), .ref mr, .int (nI wa), .ref mq, .int la, .ref md, .int at0, .int lk]))] := ⟨_, rfl⟩
  have hD : va_D A [(y, .inr (5, [.int th, .int (nI bi), .int (nI ne), .int (nI li), .int (nI sp), .int (nI q), .ref ms, .ref mw, .ref mu, .ref mc, .ref mn, .int en, .int (nI sz), .ref mr, .int (nI wa), .ref mq, .int la, .ref md, .int at0, .int lk]))] := by rw [hAe]; exact va_D_ad hD0
  have hS : va_S A s.heap s.heap [] := va_S.rf
  have hl := lv_entry ([.ref y, .int v0, .int v1, .int v2]) (n := 5) (Nat.le_of_ble_eq_true rfl)
  rw [lg_entry_eq]
  generalize (lg_sl ([.ref y, .int v0, .int v1, .int v2]) ++ List.replicate (5 - (lg_sl ([.ref y, .int v0, .int v1, .int v2])).length) Slot.unset).toArray = ls at hl ⊢
  have hl : lv_has ls 5 [(0, .ref y), (1, .int v0), (2, .int v1), (3, .int v2)] := hl
  refine lv_aload_n hx hb d_M_state_0 rfl (lv_at hl 0 rfl) ?_
  refine lv_aload_n hx hb d_M_state_1 rfl (lv_at hl 0 rfl) ?_
  refine lv_iload_n hx hb d_M_state_2 rfl (lv_at hl 2 rfl) ?_
  have hPc := hP.sub (ws' := [(y, .inr (5, [.int th, .int (nI bi), .int (nI ne), .int (nI li), .int (nI sp), .int (nI q), .ref ms, .ref mw, .ref mu, .ref mc, .ref mn, .int en, .int (nI sz), .ref mr, .int (nI wa), .ref mq, .int la, .ref md, .int at0, .int lk]))]) [0] rfl
  have hKc := hK.sub (tys' := []) [] rfl
  refine pci (va_runV (As := [.int v1]) (rest := [.ref y]) ⟨hx, hb, hml, hown, hg⟩ (c_M_isKind l D y ms mw mu mc mn mr mq md bi ne li sp q sz wa th en la at0 lk v1) (cwV 1 hg (gV gw_626 gw_628 gs_18 gw_7 gw_629) rfl rfl rfl (by decide +kernel) ⟨Nat.le_of_ble_eq_true rfl, Nat.le_of_ble_eq_true rfl⟩) ⟨fun a U g mk q => by obtain ⟨q0, qP, qK⟩ := q; exact ⟨q0, qP, va_K.moved (u := U) (U := U.calling g mk a) (Vm.Alike.refl U.vm) qK⟩, va_recv hKc hPc (ci := 5) (q0 := 0) rfl rfl, fun U hU hW => ⟨rfl, by rw [hU]; exact hPc, va_K.moved hW.alike hKc⟩⟩ rfl rfl hl.1 rfl (lv_room (Nat.le_of_ble_eq_true rfl)) d_M_state_3 (⟨Nat.le_of_ble_eq_true rfl, Nat.le_of_ble_eq_true rfl⟩)) ?_
  refine tpi (y := 0) (if_neg hbad) ?_
  refine lv_if_ne (tgt := 13) hx hb d_M_state_6 (by decide) (fun c_1 => ?_) (fun c_1 => ?_)
  · skip
    exact absurd rfl c_1
  · skip
    refine lv_iconst (v := 1) hx hb d_M_state_9 (by decide) ?_
    refine lv_goto (tgt := 27) hx hb d_M_state_10 (by decide) ?_
    refine va_put (D := D) (ci := 5) (v := .int 1) (ty := .int) (C := R_M) (T := T_M) (N := 20) hx hb hg in_M ty_M tok_M nm_M hown hK hP hD hS 0 rfl rfl 0 (by decide) (hg _ gw_524) (fun _ h9 => h9) rfl (by decide +kernel) (rfl) (rfl) (Nat.le_of_ble_eq_true rfl) d_M_state_27 (fun H locs hP hD hS => ?_)
    have hP : va_P D CLS [(y, .inr (5, [.int 1, .int (nI bi), .int (nI ne), .int (nI li), .int (nI sp), .int (nI q), .ref ms, .ref mw, .ref mu, .ref mc, .ref mn, .int en, .int (nI sz), .ref mr, .int (nI wa), .ref mq, .int la, .ref md, .int at0, .int lk]))] H := hP
    have hD : va_D A [(y, .inr (5, [.int 1, .int (nI bi), .int (nI ne), .int (nI li), .int (nI sp), .int (nI q), .ref ms, .ref mw, .ref mu, .ref mc, .ref mn, .int en, .int (nI sz), .ref mr, .int (nI wa), .ref mq, .int la, .ref md, .int at0, .int lk]))] := hD
    refine lv_aload_n hx hb d_M_state_30 rfl (lv_at hl 0 rfl) ?_
    refine va_get (D := D) (ci := 5) (v := .int 1) (C := R_M) (T := T_M) (N := 20) hx hb hg in_M hown hK hP 0 rfl rfl 0 (by decide) (hg _ gw_524) (fun _ h9 => h9) rfl d_M_state_31 ?_
    refine lv_if_le (tgt := 39) hx hb d_M_state_34 (by decide) (fun c_2 => ?_) (fun c_2 => ?_)
    · skip
      exact absurd c_2 (by decide)
    · skip
      refine lv_iconst (v := 0) hx hb d_M_state_37 (by decide) ?_
      exact W.iret (v := 0) hx hb hr (fun t ht hW => ⟨rfl, by rw [ht]; exact hP, (hAe ▸ hS).F ht⟩) (hAe ▸ hS).2.2 d_M_state_38
set_option maxHeartbeats 4000000 in
set_option maxRecDepth 100000 in
theorem c_M_stateA (l : Launch) (D : va_G) (y ms mw mu mc mn mr mq md bi ne li sp q sz wa : Nat) (th en la at0 lk : Int32) (v0 v1 v2 : Int32) (hk : v1 = 0 ∨ v1 = 1) (hbad : v2.toInt < 0 ∨ 3 < v2.toInt) : Met l y_M_state (WSY y_M_state b_M_state 5 (some .int)) ({ frames := 2, cells := 0, slots := 0, locals := 50 }) (va_Pc [.ref y, .int v0, .int v1, .int v2] (fun U => va_P D CLS [(y, .inr (5, [.int th, .int (nI bi), .int (nI ne), .int (nI li), .int (nI sp), .int (nI q), .ref ms, .ref mw, .ref mu, .ref mc, .ref mn, .int en, .int (nI sz), .ref mr, .int (nI wa), .ref mq, .int la, .ref md, .int at0, .int lk]))] U.heap ∧ va_K D CLS [] U ∧ va_D (fun _ => True) [(y, .inr (5, [.int th, .int (nI bi), .int (nI ne), .int (nI li), .int (nI sp), .int (nI q), .ref ms, .ref mw, .ref mu, .ref mc, .ref mn, .int en, .int (nI sz), .ref mr, .int (nI wa), .ref mq, .int la, .ref md, .int at0, .int lk]))])) (QM (some (.int 0)) [(y, .inr (5, [.int th, .int (nI bi), .int (nI ne), .int (nI li), .int (nI sp), .int (nI q), .ref ms, .ref mw, .ref mu, .ref mc, .ref mn, .int en, .int (nI sz), .ref mr, .int (nI wa), .ref mq, .int la, .ref md, .int at0, .int lk]))] [(y, .inr (5, [.int 2, .int (nI bi), .int (nI ne), .int (nI li), .int (nI sp), .int (nI q), .ref ms, .ref mw, .ref mu, .ref mc, .ref mn, .int en, .int (nI sz), .ref mr, .int (nI wa), .ref mq, .int la, .ref md, .int at0, .int lk]))] D) 0 0 (ad [(y, .inr (5, [.int th, .int (nI bi), .int (nI ne), .int (nI li), .int (nI sp), .int (nI q), .ref ms, .ref mw, .ref mu, .ref mc, .ref mn, .int en, .int (nI sz), .ref mr, .int (nI wa), .ref mq, .int la, .ref md, .int at0, .int lk]))]) := by
  refine Met.ofW (cc := b_M_state) (maxL := 5) (ret := (some .int)) (by decide) rfl ?_
  intro p e s m args below meth c s₁ B hml hv
  obtain ⟨rfl, hP, hK, hD0⟩ := hv
  have hx := B.exec
  have hb := B.bytes
  have hr := B.returns
  have hts := atoms_spec (ws := WSY y_M_state b_M_state 5 (some .int)) B.pre
  have hg : ∀ w ∈ GW, w.before _ s = true := fun w h => hts w (List.mem_cons_of_mem _ h)
  have hown : s.vm.findClass "LineGolombModel" = some m.cls := findClass_of_methodNamed B.named
  have hlocks := B.notSynchronized
  obtain ⟨A, hAe⟩ : ∃ A, A = ad [(y, .inr (5, [.int th, .int (nI bi), .int (nI ne), .int (nI li), .int (nI sp), .int (nI q), .ref ms, .ref mw, .ref mu, .ref mc, .ref mn, .int en, .int (nI sz), .ref mr, .int (nI wa), .ref mq, .int la, .ref md, .int at0, .int lk]))] := ⟨_, rfl⟩
  have hD : va_D A [(y, .inr (5, [.int th, .int (nI bi), .int (nI ne), .int (nI li), .int (nI sp), .int (nI q), .ref ms, .ref mw, .ref mu, .ref mc, .ref mn, .int en, .int (nI sz), .ref mr, .int (nI wa), .ref mq, .int la, .ref md, .int at0, .int lk]))] := by rw [hAe]; exact va_D_ad hD0
  have hS : va_S A s.heap s.heap [] := va_S.rf
  have hl := lv_entry ([.ref y, .int v0, .int v1, .int v2]) (n := 5) (Nat.le_of_ble_eq_true rfl)
  rw [lg_entry_eq]
  generalize (lg_sl ([.ref y, .int v0, .int v1, .int v2]) ++ List.replicate (5 - (lg_sl ([.ref y, .int v0, .int v1, .int v2])).length) Slot.unset).toArray = ls at hl ⊢
  have hl : lv_has ls 5 [(0, .ref y), (1, .int v0), (2, .int v1), (3, .int v2)] := hl
  refine lv_aload_n hx hb d_M_state_0 rfl (lv_at hl 0 rfl) ?_
  refine lv_aload_n hx hb d_M_state_1 rfl (lv_at hl 0 rfl) ?_
  refine lv_iload_n hx hb d_M_state_2 rfl (lv_at hl 2 rfl) ?_
  have hPc := hP.sub (ws' := [(y, .inr (5, [.int th, .int (nI bi), .int (nI ne), .int (nI li), .int (nI sp), .int (nI q), .ref ms, .ref mw, .ref mu, .ref mc, .ref mn, .int en, .int (nI sz), .ref mr, .int (nI wa), .ref mq, .int la, .ref md, .int at0, .int lk]))]) [0] rfl
  have hKc := hK.sub (tys' := []) [] rfl
  refine pci (va_runV (As := [.int v1]) (rest := [.ref y]) ⟨hx, hb, hml, hown, hg⟩ (c_M_isKind l D y ms mw mu mc mn mr mq md bi ne li sp q sz wa th en la at0 lk v1) (cwV 1 hg (gV gw_626 gw_628 gs_18 gw_7 gw_629) rfl rfl rfl (by decide +kernel) ⟨Nat.le_of_ble_eq_true rfl, Nat.le_of_ble_eq_true rfl⟩) ⟨fun a U g mk q => by obtain ⟨q0, qP, qK⟩ := q; exact ⟨q0, qP, va_K.moved (u := U) (U := U.calling g mk a) (Vm.Alike.refl U.vm) qK⟩, va_recv hKc hPc (ci := 5) (q0 := 0) rfl rfl, fun U hU hW => ⟨rfl, by rw [hU]; exact hPc, va_K.moved hW.alike hKc⟩⟩ rfl rfl hl.1 rfl (lv_room (Nat.le_of_ble_eq_true rfl)) d_M_state_3 (⟨Nat.le_of_ble_eq_true rfl, Nat.le_of_ble_eq_true rfl⟩)) ?_
  refine tpi (y := 1) (if_pos hk) ?_
  refine lv_if_ne (tgt := 13) hx hb d_M_state_6 (by decide) (fun c_1 => ?_) (fun c_1 => ?_)
  · skip
    refine lv_iload_n hx hb d_M_state_13 rfl (lv_at hl 3 rfl) ?_
    refine lv_if_lt (tgt := 22) hx hb d_M_state_14 (by decide) (fun c_2 => ?_) (fun c_2 => ?_)
    · skip
      refine lv_iconst (v := 2) hx hb d_M_state_22 (by decide) ?_
      refine lv_goto (tgt := 27) hx hb d_M_state_23 (by decide) ?_
      refine va_put (D := D) (ci := 5) (v := .int 2) (ty := .int) (C := R_M) (T := T_M) (N := 20) hx hb hg in_M ty_M tok_M nm_M hown hK hP hD hS 0 rfl rfl 0 (by decide) (hg _ gw_524) (fun _ h9 => h9) rfl (by decide +kernel) (rfl) (rfl) (Nat.le_of_ble_eq_true rfl) d_M_state_27 (fun H locs hP hD hS => ?_)
      have hP : va_P D CLS [(y, .inr (5, [.int 2, .int (nI bi), .int (nI ne), .int (nI li), .int (nI sp), .int (nI q), .ref ms, .ref mw, .ref mu, .ref mc, .ref mn, .int en, .int (nI sz), .ref mr, .int (nI wa), .ref mq, .int la, .ref md, .int at0, .int lk]))] H := hP
      have hD : va_D A [(y, .inr (5, [.int 2, .int (nI bi), .int (nI ne), .int (nI li), .int (nI sp), .int (nI q), .ref ms, .ref mw, .ref mu, .ref mc, .ref mn, .int en, .int (nI sz), .ref mr, .int (nI wa), .ref mq, .int la, .ref md, .int at0, .int lk]))] := hD
      refine lv_aload_n hx hb d_M_state_30 rfl (lv_at hl 0 rfl) ?_
      refine va_get (D := D) (ci := 5) (v := .int 2) (C := R_M) (T := T_M) (N := 20) hx hb hg in_M hown hK hP 0 rfl rfl 0 (by decide) (hg _ gw_524) (fun _ h9 => h9) rfl d_M_state_31 ?_
      refine lv_if_le (tgt := 39) hx hb d_M_state_34 (by decide) (fun c_3 => ?_) (fun c_3 => ?_)
      · skip
        exact absurd c_3 (by decide)
      · skip
        refine lv_iconst (v := 0) hx hb d_M_state_37 (by decide) ?_
        exact W.iret (v := 0) hx hb hr (fun t ht hW => ⟨rfl, by rw [ht]; exact hP, (hAe ▸ hS).F ht⟩) (hAe ▸ hS).2.2 d_M_state_38
    · skip
      refine lv_iload_n hx hb d_M_state_17 rfl (lv_at hl 3 rfl) ?_
      refine lv_iconst (v := 3) hx hb d_M_state_18 (by decide) ?_
      refine lv_icmp_le (tgt := 26) hx hb d_M_state_19 (by decide) (fun c_4 => ?_) (fun c_4 => ?_)
      · skip
        exfalso
        rcases hbad with q9 | q9
        · exact c_2 (by rw [ltT, zT]; exact q9)
        · have q8 := leT.mp c_4
          rw [show (3 : Int32).toInt = 3 from rfl] at q8; omega
      · skip
        refine lv_iconst (v := 2) hx hb d_M_state_22 (by decide) ?_
        refine lv_goto (tgt := 27) hx hb d_M_state_23 (by decide) ?_
        refine va_put (D := D) (ci := 5) (v := .int 2) (ty := .int) (C := R_M) (T := T_M) (N := 20) hx hb hg in_M ty_M tok_M nm_M hown hK hP hD hS 0 rfl rfl 0 (by decide) (hg _ gw_524) (fun _ h9 => h9) rfl (by decide +kernel) (rfl) (rfl) (Nat.le_of_ble_eq_true rfl) d_M_state_27 (fun H locs hP hD hS => ?_)
        have hP : va_P D CLS [(y, .inr (5, [.int 2, .int (nI bi), .int (nI ne), .int (nI li), .int (nI sp), .int (nI q), .ref ms, .ref mw, .ref mu, .ref mc, .ref mn, .int en, .int (nI sz), .ref mr, .int (nI wa), .ref mq, .int la, .ref md, .int at0, .int lk]))] H := hP
        have hD : va_D A [(y, .inr (5, [.int 2, .int (nI bi), .int (nI ne), .int (nI li), .int (nI sp), .int (nI q), .ref ms, .ref mw, .ref mu, .ref mc, .ref mn, .int en, .int (nI sz), .ref mr, .int (nI wa), .ref mq, .int la, .ref md, .int at0, .int lk]))] := hD
        refine lv_aload_n hx hb d_M_state_30 rfl (lv_at hl 0 rfl) ?_
        refine va_get (D := D) (ci := 5) (v := .int 2) (C := R_M) (T := T_M) (N := 20) hx hb hg in_M hown hK hP 0 rfl rfl 0 (by decide) (hg _ gw_524) (fun _ h9 => h9) rfl d_M_state_31 ?_
        refine lv_if_le (tgt := 39) hx hb d_M_state_34 (by decide) (fun c_5 => ?_) (fun c_5 => ?_)
        · skip
          exact absurd c_5 (by decide)
        · skip
          refine lv_iconst (v := 0) hx hb d_M_state_37 (by decide) ?_
          exact W.iret (v := 0) hx hb hr (fun t ht hW => ⟨rfl, by rw [ht]; exact hP, (hAe ▸ hS).F ht⟩) (hAe ▸ hS).2.2 d_M_state_38
  · skip
    exact absurd c_1 (by decide)
set_option maxHeartbeats 4000000 in
set_option maxRecDepth 100000 in
theorem c_M_begin (l : Launch) (D : va_G) (y ms mw mu mc mn mr mq md bi ne li sp q sz wa : Nat) (th en la at0 lk : Int32) (cI : ClassId) (st lw su cu nu : Nat → Int32) (hsp : sp ≤ 65536) : Met l y_M_begin (WSY y_M_begin b_M_begin 3 none) ({ frames := 0, cells := 0, slots := 0, locals := 0 }) (va_Pc [.ref y] (fun U => va_P D CLS [(y, .inr (5, [.int th, .int (nI bi), .int (nI ne), .int (nI li), .int (nI sp), .int (nI q), .ref ms, .ref mw, .ref mu, .ref mc, .ref mn, .int en, .int (nI sz), .ref mr, .int (nI wa), .ref mq, .int la, .ref md, .int at0, .int lk])), (ms, .inl (cI, 2, .inl st)), (mw, .inl (cI, 2, .inl lw)), (mu, .inl (cI, 4, .inl su)), (mc, .inl (cI, 4, .inl cu)), (mn, .inl (cI, 4, .inl nu))] U.heap ∧ va_K D CLS [(cI, .int)] U ∧ va_D (fun _ => True) [(y, .inr (5, [.int th, .int (nI bi), .int (nI ne), .int (nI li), .int (nI sp), .int (nI q), .ref ms, .ref mw, .ref mu, .ref mc, .ref mn, .int en, .int (nI sz), .ref mr, .int (nI wa), .ref mq, .int la, .ref md, .int at0, .int lk])), (ms, .inl (cI, 2, .inl st)), (mw, .inl (cI, 2, .inl lw)), (mu, .inl (cI, 4, .inl su)), (mc, .inl (cI, 4, .inl cu)), (mn, .inl (cI, 4, .inl nu))])) (QM none [(y, .inr (5, [.int th, .int (nI bi), .int (nI ne), .int (nI li), .int (nI sp), .int (nI q), .ref ms, .ref mw, .ref mu, .ref mc, .ref mn, .int en, .int (nI sz), .ref mr, .int (nI wa), .ref mq, .int la, .ref md, .int at0, .int lk])), (ms, .inl (cI, 2, .inl st)), (mw, .inl (cI, 2, .inl lw)), (mu, .inl (cI, 4, .inl su)), (mc, .inl (cI, 4, .inl cu)), (mn, .inl (cI, 4, .inl nu))] [(y, .inr (5, [.int th, .int (nI bi), .int (nI ne), .int (nI li), .int (nI sp), .int (nI q), .ref ms, .ref mw, .ref mu, .ref mc, .ref mn, .int 0, .int (nI 0), .ref mr, .int (nI 0), .ref mq, .int la, .ref md, .int at0, .int lk])), (ms, .inl (cI, 2, .inl (upd (upd st 0 0) 1 0))), (mw, .inl (cI, 2, .inl (upd (upd lw 0 0) 1 0))), (mu, .inl (cI, 4, .inl (upd (upd (upd (upd su 0 (nI (if (sp + 32) / 64 < 2 then 2 else (sp + 32) / 64))) 1 (nI (if (sp + 32) / 64 < 2 then 2 else (sp + 32) / 64))) 2 (nI (if (sp + 32) / 64 < 2 then 2 else (sp + 32) / 64))) 3 (nI (if (sp + 32) / 64 < 2 then 2 else (sp + 32) / 64))))), (mc, .inl (cI, 4, .inl (upd (upd (upd (upd cu 0 1) 1 1) 2 1) 3 1))), (mn, .inl (cI, 4, .inl (upd (upd (upd (upd nu 0 0) 1 0) 2 0) 3 0)))] D) 0 0 (ad [(y, .inr (5, [.int th, .int (nI bi), .int (nI ne), .int (nI li), .int (nI sp), .int (nI q), .ref ms, .ref mw, .ref mu, .ref mc, .ref mn, .int en, .int (nI sz), .ref mr, .int (nI wa), .ref mq, .int la, .ref md, .int at0, .int lk])), (ms, .inl (cI, 2, .inl st)), (mw, .inl (cI, 2, .inl lw)), (mu, .inl (cI, 4, .inl su)), (mc, .inl (cI, 4, .inl cu)), (mn, .inl (cI, 4, .inl nu))]) := by
  refine Met.ofW (cc := b_M_begin) (maxL := 3) (ret := none) (by decide) rfl ?_
  intro p e s m args below meth c s₁ B hml hv
  obtain ⟨rfl, hP, hK, hD0⟩ := hv
  have hx := B.exec
  have hb := B.bytes
  have hr := B.returns
  have hts := atoms_spec (ws := WSY y_M_begin b_M_begin 3 none) B.pre
  have hg : ∀ w ∈ GW, w.before _ s = true := fun w h => hts w (List.mem_cons_of_mem _ h)
  have hown : s.vm.findClass "LineGolombModel" = some m.cls := findClass_of_methodNamed B.named
  have hlocks := B.notSynchronized
  obtain ⟨A, hAe⟩ : ∃ A, A = ad [(y, .inr (5, [.int th, .int (nI bi), .int (nI ne), .int (nI li), .int (nI sp), .int (nI q), .ref ms, .ref mw, .ref mu, .ref mc, .ref mn, .int en, .int (nI sz), .ref mr, .int (nI wa), .ref mq, .int la, .ref md, .int at0, .int lk])), (ms, .inl (cI, 2, .inl st)), (mw, .inl (cI, 2, .inl lw)), (mu, .inl (cI, 4, .inl su)), (mc, .inl (cI, 4, .inl cu)), (mn, .inl (cI, 4, .inl nu))] := ⟨_, rfl⟩
  have hD : va_D A [(y, .inr (5, [.int th, .int (nI bi), .int (nI ne), .int (nI li), .int (nI sp), .int (nI q), .ref ms, .ref mw, .ref mu, .ref mc, .ref mn, .int en, .int (nI sz), .ref mr, .int (nI wa), .ref mq, .int la, .ref md, .int at0, .int lk])), (ms, .inl (cI, 2, .inl st)), (mw, .inl (cI, 2, .inl lw)), (mu, .inl (cI, 4, .inl su)), (mc, .inl (cI, 4, .inl cu)), (mn, .inl (cI, 4, .inl nu))] := by rw [hAe]; exact va_D_ad hD0
  have hS : va_S A s.heap s.heap [] := va_S.rf
  have hl := lv_entry ([.ref y]) (n := 3) (Nat.le_of_ble_eq_true rfl)
  rw [lg_entry_eq]
  generalize (lg_sl ([.ref y]) ++ List.replicate (3 - (lg_sl ([.ref y])).length) Slot.unset).toArray = ls at hl ⊢
  have hl : lv_has ls 3 [(0, .ref y)] := hl
  by_cases hfs : (sp + 32) / 64 < 2
  · skip
    refine lv_iconst (v := 0) hx hb d_M_begin_0 (by decide) ?_
    refine lv_istore_n (lv' := [(1, .int 0), (0, .ref y)]) hx hb d_M_begin_1 rfl hl (by decide) rfl (fun ls hl => ?_)
    refine lv_iload_n hx hb d_M_begin_2 rfl (lv_at hl 0 rfl) ?_
    refine lv_iconst (v := 2) hx hb d_M_begin_3 (by decide) ?_
    refine lv_icmp_ge (tgt := 27) hx hb d_M_begin_4 (by decide) (fun c_1 => ?_) (fun c_1 => ?_)
    · skip
      exact absurd c_1 (by decide)
    · skip
      refine lv_aload_n hx hb d_M_begin_7 rfl (lv_at hl 1 rfl) ?_
      refine va_get (D := D) (ci := 5) (v := .ref ms) (C := R_M) (T := T_M) (N := 20) hx hb hg in_M hown hK hP 0 rfl rfl 6 (by decide) (hg _ gw_530) (fun _ h9 => h9) rfl d_M_begin_8 ?_
      refine lv_iload_n hx hb d_M_begin_11 rfl (lv_at hl 0 rfl) ?_
      refine lv_iconst (v := 0) hx hb d_M_begin_12 (by decide) ?_
      refine va_iast hx hb hK hP hD hS 1 0 rfl rfl (vp_in_nI (n := 0) (by decide) (by decide)) d_M_begin_13 (fun H locs hP hD hS => ?_)
      rw [show (0 : Int32).toNatClampNeg = 0 from rfl] at hP hD
      have hP : va_P D CLS [(y, .inr (5, [.int th, .int (nI bi), .int (nI ne), .int (nI li), .int (nI sp), .int (nI q), .ref ms, .ref mw, .ref mu, .ref mc, .ref mn, .int en, .int (nI sz), .ref mr, .int (nI wa), .ref mq, .int la, .ref md, .int at0, .int lk])), (ms, .inl (cI, 2, .inl (upd st 0 0))), (mw, .inl (cI, 2, .inl lw)), (mu, .inl (cI, 4, .inl su)), (mc, .inl (cI, 4, .inl cu)), (mn, .inl (cI, 4, .inl nu))] H := hP
      have hD : va_D A [(y, .inr (5, [.int th, .int (nI bi), .int (nI ne), .int (nI li), .int (nI sp), .int (nI q), .ref ms, .ref mw, .ref mu, .ref mc, .ref mn, .int en, .int (nI sz), .ref mr, .int (nI wa), .ref mq, .int la, .ref md, .int at0, .int lk])), (ms, .inl (cI, 2, .inl (upd st 0 0))), (mw, .inl (cI, 2, .inl lw)), (mu, .inl (cI, 4, .inl su)), (mc, .inl (cI, 4, .inl cu)), (mn, .inl (cI, 4, .inl nu))] := hD
      refine lv_aload_n hx hb d_M_begin_14 rfl (lv_at hl 1 rfl) ?_
      refine va_get (D := D) (ci := 5) (v := .ref mw) (C := R_M) (T := T_M) (N := 20) hx hb hg in_M hown hK hP 0 rfl rfl 7 (by decide) (hg _ gw_531) (fun _ h9 => h9) rfl d_M_begin_15 ?_
      refine lv_iload_n hx hb d_M_begin_18 rfl (lv_at hl 0 rfl) ?_
      refine lv_iconst (v := 0) hx hb d_M_begin_19 (by decide) ?_
      refine va_iast hx hb hK hP hD hS 2 0 rfl rfl (vp_in_nI (n := 0) (by decide) (by decide)) d_M_begin_20 (fun H locs hP hD hS => ?_)
      rw [show (0 : Int32).toNatClampNeg = 0 from rfl] at hP hD
      have hP : va_P D CLS [(y, .inr (5, [.int th, .int (nI bi), .int (nI ne), .int (nI li), .int (nI sp), .int (nI q), .ref ms, .ref mw, .ref mu, .ref mc, .ref mn, .int en, .int (nI sz), .ref mr, .int (nI wa), .ref mq, .int la, .ref md, .int at0, .int lk])), (ms, .inl (cI, 2, .inl (upd st 0 0))), (mw, .inl (cI, 2, .inl (upd lw 0 0))), (mu, .inl (cI, 4, .inl su)), (mc, .inl (cI, 4, .inl cu)), (mn, .inl (cI, 4, .inl nu))] H := hP
      have hD : va_D A [(y, .inr (5, [.int th, .int (nI bi), .int (nI ne), .int (nI li), .int (nI sp), .int (nI q), .ref ms, .ref mw, .ref mu, .ref mc, .ref mn, .int en, .int (nI sz), .ref mr, .int (nI wa), .ref mq, .int la, .ref md, .int at0, .int lk])), (ms, .inl (cI, 2, .inl (upd st 0 0))), (mw, .inl (cI, 2, .inl (upd lw 0 0))), (mu, .inl (cI, 4, .inl su)), (mc, .inl (cI, 4, .inl cu)), (mn, .inl (cI, 4, .inl nu))] := hD
      refine lv_iinc (v := 1) (lv' := [(1, .int 1), (0, .ref y)]) hx hb d_M_begin_21 hl (k := 0) rfl (by decide) (by decide) rfl (fun ls hl => ?_)
      refine lv_goto (tgt := 2) hx hb d_M_begin_24 (by decide) ?_
      refine lv_iload_n hx hb d_M_begin_2 rfl (lv_at hl 0 rfl) ?_
      refine lv_iconst (v := 2) hx hb d_M_begin_3 (by decide) ?_
      refine lv_icmp_ge (tgt := 27) hx hb d_M_begin_4 (by decide) (fun c_2 => ?_) (fun c_2 => ?_)
      · skip
        exact absurd c_2 (by decide)
      · skip
        refine lv_aload_n hx hb d_M_begin_7 rfl (lv_at hl 1 rfl) ?_
        refine va_get (D := D) (ci := 5) (v := .ref ms) (C := R_M) (T := T_M) (N := 20) hx hb hg in_M hown hK hP 0 rfl rfl 6 (by decide) (hg _ gw_530) (fun _ h9 => h9) rfl d_M_begin_8 ?_
        refine lv_iload_n hx hb d_M_begin_11 rfl (lv_at hl 0 rfl) ?_
        refine lv_iconst (v := 0) hx hb d_M_begin_12 (by decide) ?_
        refine va_iast hx hb hK hP hD hS 1 0 rfl rfl (vp_in_nI (n := 1) (by decide) (by decide)) d_M_begin_13 (fun H locs hP hD hS => ?_)
        rw [show (1 : Int32).toNatClampNeg = 1 from rfl] at hP hD
        have hP : va_P D CLS [(y, .inr (5, [.int th, .int (nI bi), .int (nI ne), .int (nI li), .int (nI sp), .int (nI q), .ref ms, .ref mw, .ref mu, .ref mc, .ref mn, .int en, .int (nI sz), .ref mr, .int (nI wa), .ref mq, .int la, .ref md, .int at0, .int lk])), (ms, .inl (cI, 2, .inl (upd (upd st 0 0) 1 0))), (mw, .inl (cI, 2, .inl (upd lw 0 0))), (mu, .inl (cI, 4, .inl su)), (mc, .inl (cI, 4, .inl cu)), (mn, .inl (cI, 4, .inl nu))] H := hP
        have hD : va_D A [(y, .inr (5, [.int th, .int (nI bi), .int (nI ne), .int (nI li), .int (nI sp), .int (nI q), .ref ms, .ref mw, .ref mu, .ref mc, .ref mn, .int en, .int (nI sz), .ref mr, .int (nI wa), .ref mq, .int la, .ref md, .int at0, .int lk])), (ms, .inl (cI, 2, .inl (upd (upd st 0 0) 1 0))), (mw, .inl (cI, 2, .inl (upd lw 0 0))), (mu, .inl (cI, 4, .inl su)), (mc, .inl (cI, 4, .inl cu)), (mn, .inl (cI, 4, .inl nu))] := hD
        refine lv_aload_n hx hb d_M_begin_14 rfl (lv_at hl 1 rfl) ?_
        refine va_get (D := D) (ci := 5) (v := .ref mw) (C := R_M) (T := T_M) (N := 20) hx hb hg in_M hown hK hP 0 rfl rfl 7 (by decide) (hg _ gw_531) (fun _ h9 => h9) rfl d_M_begin_15 ?_
        refine lv_iload_n hx hb d_M_begin_18 rfl (lv_at hl 0 rfl) ?_
        refine lv_iconst (v := 0) hx hb d_M_begin_19 (by decide) ?_
        refine va_iast hx hb hK hP hD hS 2 0 rfl rfl (vp_in_nI (n := 1) (by decide) (by decide)) d_M_begin_20 (fun H locs hP hD hS => ?_)
        rw [show (1 : Int32).toNatClampNeg = 1 from rfl] at hP hD
        have hP : va_P D CLS [(y, .inr (5, [.int th, .int (nI bi), .int (nI ne), .int (nI li), .int (nI sp), .int (nI q), .ref ms, .ref mw, .ref mu, .ref mc, .ref mn, .int en, .int (nI sz), .ref mr, .int (nI wa), .ref mq, .int la, .ref md, .int at0, .int lk])), (ms, .inl (cI, 2, .inl (upd (upd st 0 0) 1 0))), (mw, .inl (cI, 2, .inl (upd (upd lw 0 0) 1 0))), (mu, .inl (cI, 4, .inl su)), (mc, .inl (cI, 4, .inl cu)), (mn, .inl (cI, 4, .inl nu))] H := hP
        have hD : va_D A [(y, .inr (5, [.int th, .int (nI bi), .int (nI ne), .int (nI li), .int (nI sp), .int (nI q), .ref ms, .ref mw, .ref mu, .ref mc, .ref mn, .int en, .int (nI sz), .ref mr, .int (nI wa), .ref mq, .int la, .ref md, .int at0, .int lk])), (ms, .inl (cI, 2, .inl (upd (upd st 0 0) 1 0))), (mw, .inl (cI, 2, .inl (upd (upd lw 0 0) 1 0))), (mu, .inl (cI, 4, .inl su)), (mc, .inl (cI, 4, .inl cu)), (mn, .inl (cI, 4, .inl nu))] := hD
        refine lv_iinc (v := 2) (lv' := [(1, .int 2), (0, .ref y)]) hx hb d_M_begin_21 hl (k := 0) rfl (by decide) (by decide) rfl (fun ls hl => ?_)
        refine lv_goto (tgt := 2) hx hb d_M_begin_24 (by decide) ?_
        refine lv_iload_n hx hb d_M_begin_2 rfl (lv_at hl 0 rfl) ?_
        refine lv_iconst (v := 2) hx hb d_M_begin_3 (by decide) ?_
        refine lv_icmp_ge (tgt := 27) hx hb d_M_begin_4 (by decide) (fun c_3 => ?_) (fun c_3 => ?_)
        · skip
          refine lv_iconst (v := 0) hx hb d_M_begin_27 (by decide) ?_
          refine lv_istore_n (lv' := [(1, .int 0), (0, .ref y)]) hx hb d_M_begin_28 rfl hl (by decide) rfl (fun ls hl => ?_)
          refine lv_iload_n hx hb d_M_begin_29 rfl (lv_at hl 0 rfl) ?_
          refine lv_iconst (v := 4) hx hb d_M_begin_30 (by decide) ?_
          refine lv_icmp_ge (tgt := 81) hx hb d_M_begin_31 (by decide) (fun c_4 => ?_) (fun c_4 => ?_)
          · skip
            exact absurd c_4 (by decide)
          · skip
            refine lv_aload_n hx hb d_M_begin_34 rfl (lv_at hl 1 rfl) ?_
            refine va_get (D := D) (ci := 5) (v := .int (nI sp)) (C := R_M) (T := T_M) (N := 20) hx hb hg in_M hown hK hP 0 rfl rfl 4 (by decide) (hg _ gw_528) (fun _ h9 => h9) rfl d_M_begin_35 ?_
            refine lv_bipush (v := 32) hx hb d_M_begin_38 (by decide) ?_
            refine lv_iadd hx hb d_M_begin_40 ?_
            refine tpi (y := nI (sp + 32)) (nI_add sp 32) ?_
            refine lv_bipush (v := 64) hx hb d_M_begin_41 (by decide) ?_
            refine lv_idiv hx hb d_M_begin_43 (by decide) ?_
            refine tpi (y := nI ((sp + 32) / 64)) (pk_div (d := 64) (by omega) (by decide) (by decide)) ?_
            refine lv_istore_n (lv' := [(2, .int (nI ((sp + 32) / 64))), (1, .int 0), (0, .ref y)]) hx hb d_M_begin_44 rfl hl (by decide) rfl (fun ls hl => ?_)
            refine lv_aload_n hx hb d_M_begin_45 rfl (lv_at hl 2 rfl) ?_
            refine va_get (D := D) (ci := 5) (v := .ref mu) (C := R_M) (T := T_M) (N := 20) hx hb hg in_M hown hK hP 0 rfl rfl 8 (by decide) (hg _ gw_532) (fun _ h9 => h9) rfl d_M_begin_46 ?_
            refine lv_iload_n hx hb d_M_begin_49 rfl (lv_at hl 1 rfl) ?_
            refine lv_iload_n hx hb d_M_begin_50 rfl (lv_at hl 0 rfl) ?_
            refine lv_iconst (v := 2) hx hb d_M_begin_51 (by decide) ?_
            refine lv_icmp_ge (tgt := 59) hx hb d_M_begin_52 (by decide) (fun c_5 => ?_) (fun c_5 => ?_)
            · skip
              exact absurd ((nI_leI (a := 2) (by omega) (by omega)).mp c_5) (by omega)
            · skip
              refine lv_iconst (v := 2) hx hb d_M_begin_55 (by decide) ?_
              refine lv_goto (tgt := 60) hx hb d_M_begin_56 (by decide) ?_
              refine tpi (y := nI (if (sp + 32) / 64 < 2 then 2 else (sp + 32) / 64)) (congrArg nI (if_pos hfs).symm) ?_
              refine va_iast hx hb hK hP hD hS 3 0 rfl rfl (vp_in_nI (n := 0) (by decide) (by decide)) d_M_begin_60 (fun H locs hP hD hS => ?_)
              rw [show (0 : Int32).toNatClampNeg = 0 from rfl] at hP hD
              have hP : va_P D CLS [(y, .inr (5, [.int th, .int (nI bi), .int (nI ne), .int (nI li), .int (nI sp), .int (nI q), .ref ms, .ref mw, .ref mu, .ref mc, .ref mn, .int en, .int (nI sz), .ref mr, .int (nI wa), .ref mq, .int la, .ref md, .int at0, .int lk])), (ms, .inl (cI, 2, .inl (upd (upd st 0 0) 1 0))), (mw, .inl (cI, 2, .inl (upd (upd lw 0 0) 1 0))), (mu, .inl (cI, 4, .inl (upd su 0 (nI (if (sp + 32) / 64 < 2 then 2 else (sp + 32) / 64))))), (mc, .inl (cI, 4, .inl cu)), (mn, .inl (cI, 4, .inl nu))] H := hP
              have hD : va_D A [(y, .inr (5, [.int th, .int (nI bi), .int (nI ne), .int (nI li), .int (nI sp), .int (nI q), .ref ms, .ref mw, .ref mu, .ref mc, .ref mn, .int en, .int (nI sz), .ref mr, .int (nI wa), .ref mq, .int la, .ref md, .int at0, .int lk])), (ms, .inl (cI, 2, .inl (upd (upd st 0 0) 1 0))), (mw, .inl (cI, 2, .inl (upd (upd lw 0 0) 1 0))), (mu, .inl (cI, 4, .inl (upd su 0 (nI (if (sp + 32) / 64 < 2 then 2 else (sp + 32) / 64))))), (mc, .inl (cI, 4, .inl cu)), (mn, .inl (cI, 4, .inl nu))] := hD
              refine lv_aload_n hx hb d_M_begin_61 rfl (lv_at hl 2 rfl) ?_
              refine va_get (D := D) (ci := 5) (v := .ref mc) (C := R_M) (T := T_M) (N := 20) hx hb hg in_M hown hK hP 0 rfl rfl 9 (by decide) (hg _ gw_533) (fun _ h9 => h9) rfl d_M_begin_62 ?_
              refine lv_iload_n hx hb d_M_begin_65 rfl (lv_at hl 1 rfl) ?_
              refine lv_iconst (v := 1) hx hb d_M_begin_66 (by decide) ?_
              refine va_iast hx hb hK hP hD hS 4 0 rfl rfl (vp_in_nI (n := 0) (by decide) (by decide)) d_M_begin_67 (fun H locs hP hD hS => ?_)
              rw [show (0 : Int32).toNatClampNeg = 0 from rfl] at hP hD
              have hP : va_P D CLS [(y, .inr (5, [.int th, .int (nI bi), .int (nI ne), .int (nI li), .int (nI sp), .int (nI q), .ref ms, .ref mw, .ref mu, .ref mc, .ref mn, .int en, .int (nI sz), .ref mr, .int (nI wa), .ref mq, .int la, .ref md, .int at0, .int lk])), (ms, .inl (cI, 2, .inl (upd (upd st 0 0) 1 0))), (mw, .inl (cI, 2, .inl (upd (upd lw 0 0) 1 0))), (mu, .inl (cI, 4, .inl (upd su 0 (nI (if (sp + 32) / 64 < 2 then 2 else (sp + 32) / 64))))), (mc, .inl (cI, 4, .inl (upd cu 0 1))), (mn, .inl (cI, 4, .inl nu))] H := hP
              have hD : va_D A [(y, .inr (5, [.int th, .int (nI bi), .int (nI ne), .int (nI li), .int (nI sp), .int (nI q), .ref ms, .ref mw, .ref mu, .ref mc, .ref mn, .int en, .int (nI sz), .ref mr, .int (nI wa), .ref mq, .int la, .ref md, .int at0, .int lk])), (ms, .inl (cI, 2, .inl (upd (upd st 0 0) 1 0))), (mw, .inl (cI, 2, .inl (upd (upd lw 0 0) 1 0))), (mu, .inl (cI, 4, .inl (upd su 0 (nI (if (sp + 32) / 64 < 2 then 2 else (sp + 32) / 64))))), (mc, .inl (cI, 4, .inl (upd cu 0 1))), (mn, .inl (cI, 4, .inl nu))] := hD
              refine lv_aload_n hx hb d_M_begin_68 rfl (lv_at hl 2 rfl) ?_
              refine va_get (D := D) (ci := 5) (v := .ref mn) (C := R_M) (T := T_M) (N := 20) hx hb hg in_M hown hK hP 0 rfl rfl 10 (by decide) (hg _ gw_534) (fun _ h9 => h9) rfl d_M_begin_69 ?_
              refine lv_iload_n hx hb d_M_begin_72 rfl (lv_at hl 1 rfl) ?_
              refine lv_iconst (v := 0) hx hb d_M_begin_73 (by decide) ?_
              refine va_iast hx hb hK hP hD hS 5 0 rfl rfl (vp_in_nI (n := 0) (by decide) (by decide)) d_M_begin_74 (fun H locs hP hD hS => ?_)
              rw [show (0 : Int32).toNatClampNeg = 0 from rfl] at hP hD
              have hP : va_P D CLS [(y, .inr (5, [.int th, .int (nI bi), .int (nI ne), .int (nI li), .int (nI sp), .int (nI q), .ref ms, .ref mw, .ref mu, .ref mc, .ref mn, .int en, .int (nI sz), .ref mr, .int (nI wa), .ref mq, .int la, .ref md, .int at0, .int lk])), (ms, .inl (cI, 2, .inl (upd (upd st 0 0) 1 0))), (mw, .inl (cI, 2, .inl (upd (upd lw 0 0) 1 0))), (mu, .inl (cI, 4, .inl (upd su 0 (nI (if (sp + 32) / 64 < 2 then 2 else (sp + 32) / 64))))), (mc, .inl (cI, 4, .inl (upd cu 0 1))), (mn, .inl (cI, 4, .inl (upd nu 0 0)))] H := hP
              have hD : va_D A [(y, .inr (5, [.int th, .int (nI bi), .int (nI ne), .int (nI li), .int (nI sp), .int (nI q), .ref ms, .ref mw, .ref mu, .ref mc, .ref mn, .int en, .int (nI sz), .ref mr, .int (nI wa), .ref mq, .int la, .ref md, .int at0, .int lk])), (ms, .inl (cI, 2, .inl (upd (upd st 0 0) 1 0))), (mw, .inl (cI, 2, .inl (upd (upd lw 0 0) 1 0))), (mu, .inl (cI, 4, .inl (upd su 0 (nI (if (sp + 32) / 64 < 2 then 2 else (sp + 32) / 64))))), (mc, .inl (cI, 4, .inl (upd cu 0 1))), (mn, .inl (cI, 4, .inl (upd nu 0 0)))] := hD
              refine lv_iinc (v := 1) (lv' := [(1, .int 1), (2, .int (nI ((sp + 32) / 64))), (0, .ref y)]) hx hb d_M_begin_75 hl (k := 1) rfl (by decide) (by decide) rfl (fun ls hl => ?_)
              refine lv_goto (tgt := 29) hx hb d_M_begin_78 (by decide) ?_
              refine lv_iload_n hx hb d_M_begin_29 rfl (lv_at hl 0 rfl) ?_
              refine lv_iconst (v := 4) hx hb d_M_begin_30 (by decide) ?_
              refine lv_icmp_ge (tgt := 81) hx hb d_M_begin_31 (by decide) (fun c_6 => ?_) (fun c_6 => ?_)
              · skip
                exact absurd c_6 (by decide)
              · skip
                refine lv_aload_n hx hb d_M_begin_34 rfl (lv_at hl 2 rfl) ?_
                refine va_get (D := D) (ci := 5) (v := .int (nI sp)) (C := R_M) (T := T_M) (N := 20) hx hb hg in_M hown hK hP 0 rfl rfl 4 (by decide) (hg _ gw_528) (fun _ h9 => h9) rfl d_M_begin_35 ?_
                refine lv_bipush (v := 32) hx hb d_M_begin_38 (by decide) ?_
                refine lv_iadd hx hb d_M_begin_40 ?_
                refine tpi (y := nI (sp + 32)) (nI_add sp 32) ?_
                refine lv_bipush (v := 64) hx hb d_M_begin_41 (by decide) ?_
                refine lv_idiv hx hb d_M_begin_43 (by decide) ?_
                refine tpi (y := nI ((sp + 32) / 64)) (pk_div (d := 64) (by omega) (by decide) (by decide)) ?_
                refine lv_istore_n (lv' := [(2, .int (nI ((sp + 32) / 64))), (1, .int 1), (0, .ref y)]) hx hb d_M_begin_44 rfl hl (by decide) rfl (fun ls hl => ?_)
                refine lv_aload_n hx hb d_M_begin_45 rfl (lv_at hl 2 rfl) ?_
                refine va_get (D := D) (ci := 5) (v := .ref mu) (C := R_M) (T := T_M) (N := 20) hx hb hg in_M hown hK hP 0 rfl rfl 8 (by decide) (hg _ gw_532) (fun _ h9 => h9) rfl d_M_begin_46 ?_
                refine lv_iload_n hx hb d_M_begin_49 rfl (lv_at hl 1 rfl) ?_
                refine lv_iload_n hx hb d_M_begin_50 rfl (lv_at hl 0 rfl) ?_
                refine lv_iconst (v := 2) hx hb d_M_begin_51 (by decide) ?_
                refine lv_icmp_ge (tgt := 59) hx hb d_M_begin_52 (by decide) (fun c_7 => ?_) (fun c_7 => ?_)
                · skip
                  exact absurd ((nI_leI (a := 2) (by omega) (by omega)).mp c_7) (by omega)
                · skip
                  refine lv_iconst (v := 2) hx hb d_M_begin_55 (by decide) ?_
                  refine lv_goto (tgt := 60) hx hb d_M_begin_56 (by decide) ?_
                  refine tpi (y := nI (if (sp + 32) / 64 < 2 then 2 else (sp + 32) / 64)) (congrArg nI (if_pos hfs).symm) ?_
                  refine va_iast hx hb hK hP hD hS 3 0 rfl rfl (vp_in_nI (n := 1) (by decide) (by decide)) d_M_begin_60 (fun H locs hP hD hS => ?_)
                  rw [show (1 : Int32).toNatClampNeg = 1 from rfl] at hP hD
                  have hP : va_P D CLS [(y, .inr (5, [.int th, .int (nI bi), .int (nI ne), .int (nI li), .int (nI sp), .int (nI q), .ref ms, .ref mw, .ref mu, .ref mc, .ref mn, .int en, .int (nI sz), .ref mr, .int (nI wa), .ref mq, .int la, .ref md, .int at0, .int lk])), (ms, .inl (cI, 2, .inl (upd (upd st 0 0) 1 0))), (mw, .inl (cI, 2, .inl (upd (upd lw 0 0) 1 0))), (mu, .inl (cI, 4, .inl (upd (upd su 0 (nI (if (sp + 32) / 64 < 2 then 2 else (sp + 32) / 64))) 1 (nI (if (sp + 32) / 64 < 2 then 2 else (sp + 32) / 64))))), (mc, .inl (cI, 4, .inl (upd cu 0 1))), (mn, .inl (cI, 4, .inl (upd nu 0 0)))] H := hP
                  have hD : va_D A [(y, .inr (5, [.int th, .int (nI bi), .int (nI ne), .int (nI li), .int (nI sp), .int (nI q), .ref ms, .ref mw, .ref mu, .ref mc, .ref mn, .int en, .int (nI sz), .ref mr, .int (nI wa), .ref mq, .int la, .ref md, .int at0, .int lk])), (ms, .inl (cI, 2, .inl (upd (upd st 0 0) 1 0))), (mw, .inl (cI, 2, .inl (upd (upd lw 0 0) 1 0))), (mu, .inl (cI, 4, .inl (upd (upd su 0 (nI (if (sp + 32) / 64 < 2 then 2 else (sp + 32) / 64))) 1 (nI (if (sp + 32) / 64 < 2 then 2 else (sp + 32) / 64))))), (mc, .inl (cI, 4, .inl (upd cu 0 1))), (mn, .inl (cI, 4, .inl (upd nu 0 0)))] := hD
                  refine lv_aload_n hx hb d_M_begin_61 rfl (lv_at hl 2 rfl) ?_
                  refine va_get (D := D) (ci := 5) (v := .ref mc) (C := R_M) (T := T_M) (N := 20) hx hb hg in_M hown hK hP 0 rfl rfl 9 (by decide) (hg _ gw_533) (fun _ h9 => h9) rfl d_M_begin_62 ?_
                  refine lv_iload_n hx hb d_M_begin_65 rfl (lv_at hl 1 rfl) ?_
                  refine lv_iconst (v := 1) hx hb d_M_begin_66 (by decide) ?_
                  refine va_iast hx hb hK hP hD hS 4 0 rfl rfl (vp_in_nI (n := 1) (by decide) (by decide)) d_M_begin_67 (fun H locs hP hD hS => ?_)
                  rw [show (1 : Int32).toNatClampNeg = 1 from rfl] at hP hD
                  have hP : va_P D CLS [(y, .inr (5, [.int th, .int (nI bi), .int (nI ne), .int (nI li), .int (nI sp), .int (nI q), .ref ms, .ref mw, .ref mu, .ref mc, .ref mn, .int en, .int (nI sz), .ref mr, .int (nI wa), .ref mq, .int la, .ref md, .int at0, .int lk])), (ms, .inl (cI, 2, .inl (upd (upd st 0 0) 1 0))), (mw, .inl (cI, 2, .inl (upd (upd lw 0 0) 1 0))), (mu, .inl (cI, 4, .inl (upd (upd su 0 (nI (if (sp + 32) / 64 < 2 then 2 else (sp + 32) / 64))) 1 (nI (if (sp + 32) / 64 < 2 then 2 else (sp + 32) / 64))))), (mc, .inl (cI, 4, .inl (upd (upd cu 0 1) 1 1))), (mn, .inl (cI, 4, .inl (upd nu 0 0)))] H := hP
                  have hD : va_D A [(y, .inr (5, [.int th, .int (nI bi), .int (nI ne), .int (nI li), .int (nI sp), .int (nI q), .ref ms, .ref mw, .ref mu, .ref mc, .ref mn, .int en, .int (nI sz), .ref mr, .int (nI wa), .ref mq, .int la, .ref md, .int at0, .int lk])), (ms, .inl (cI, 2, .inl (upd (upd st 0 0) 1 0))), (mw, .inl (cI, 2, .inl (upd (upd lw 0 0) 1 0))), (mu, .inl (cI, 4, .inl (upd (upd su 0 (nI (if (sp + 32) / 64 < 2 then 2 else (sp + 32) / 64))) 1 (nI (if (sp + 32) / 64 < 2 then 2 else (sp + 32) / 64))))), (mc, .inl (cI, 4, .inl (upd (upd cu 0 1) 1 1))), (mn, .inl (cI, 4, .inl (upd nu 0 0)))] := hD
                  refine lv_aload_n hx hb d_M_begin_68 rfl (lv_at hl 2 rfl) ?_
                  refine va_get (D := D) (ci := 5) (v := .ref mn) (C := R_M) (T := T_M) (N := 20) hx hb hg in_M hown hK hP 0 rfl rfl 10 (by decide) (hg _ gw_534) (fun _ h9 => h9) rfl d_M_begin_69 ?_
                  refine lv_iload_n hx hb d_M_begin_72 rfl (lv_at hl 1 rfl) ?_
                  refine lv_iconst (v := 0) hx hb d_M_begin_73 (by decide) ?_
                  refine va_iast hx hb hK hP hD hS 5 0 rfl rfl (vp_in_nI (n := 1) (by decide) (by decide)) d_M_begin_74 (fun H locs hP hD hS => ?_)
                  rw [show (1 : Int32).toNatClampNeg = 1 from rfl] at hP hD
                  have hP : va_P D CLS [(y, .inr (5, [.int th, .int (nI bi), .int (nI ne), .int (nI li), .int (nI sp), .int (nI q), .ref ms, .ref mw, .ref mu, .ref mc, .ref mn, .int en, .int (nI sz), .ref mr, .int (nI wa), .ref mq, .int la, .ref md, .int at0, .int lk])), (ms, .inl (cI, 2, .inl (upd (upd st 0 0) 1 0))), (mw, .inl (cI, 2, .inl (upd (upd lw 0 0) 1 0))), (mu, .inl (cI, 4, .inl (upd (upd su 0 (nI (if (sp + 32) / 64 < 2 then 2 else (sp + 32) / 64))) 1 (nI (if (sp + 32) / 64 < 2 then 2 else (sp + 32) / 64))))), (mc, .inl (cI, 4, .inl (upd (upd cu 0 1) 1 1))), (mn, .inl (cI, 4, .inl (upd (upd nu 0 0) 1 0)))] H := hP
                  have hD : va_D A [(y, .inr (5, [.int th, .int (nI bi), .int (nI ne), .int (nI li), .int (nI sp), .int (nI q), .ref ms, .ref mw, .ref mu, .ref mc, .ref mn, .int en, .int (nI sz), .ref mr, .int (nI wa), .ref mq, .int la, .ref md, .int at0, .int lk])), (ms, .inl (cI, 2, .inl (upd (upd st 0 0) 1 0))), (mw, .inl (cI, 2, .inl (upd (upd lw 0 0) 1 0))), (mu, .inl (cI, 4, .inl (upd (upd su 0 (nI (if (sp + 32) / 64 < 2 then 2 else (sp + 32) / 64))) 1 (nI (if (sp + 32) / 64 < 2 then 2 else (sp + 32) / 64))))), (mc, .inl (cI, 4, .inl (upd (upd cu 0 1) 1 1))), (mn, .inl (cI, 4, .inl (upd (upd nu 0 0) 1 0)))] := hD
                  refine lv_iinc (v := 2) (lv' := [(1, .int 2), (2, .int (nI ((sp + 32) / 64))), (0, .ref y)]) hx hb d_M_begin_75 hl (k := 1) rfl (by decide) (by decide) rfl (fun ls hl => ?_)
                  refine lv_goto (tgt := 29) hx hb d_M_begin_78 (by decide) ?_
                  refine lv_iload_n hx hb d_M_begin_29 rfl (lv_at hl 0 rfl) ?_
                  refine lv_iconst (v := 4) hx hb d_M_begin_30 (by decide) ?_
                  refine lv_icmp_ge (tgt := 81) hx hb d_M_begin_31 (by decide) (fun c_8 => ?_) (fun c_8 => ?_)
                  · skip
                    exact absurd c_8 (by decide)
                  · skip
                    refine lv_aload_n hx hb d_M_begin_34 rfl (lv_at hl 2 rfl) ?_
                    refine va_get (D := D) (ci := 5) (v := .int (nI sp)) (C := R_M) (T := T_M) (N := 20) hx hb hg in_M hown hK hP 0 rfl rfl 4 (by decide) (hg _ gw_528) (fun _ h9 => h9) rfl d_M_begin_35 ?_
                    refine lv_bipush (v := 32) hx hb d_M_begin_38 (by decide) ?_
                    refine lv_iadd hx hb d_M_begin_40 ?_
                    refine tpi (y := nI (sp + 32)) (nI_add sp 32) ?_
                    refine lv_bipush (v := 64) hx hb d_M_begin_41 (by decide) ?_
                    refine lv_idiv hx hb d_M_begin_43 (by decide) ?_
                    refine tpi (y := nI ((sp + 32) / 64)) (pk_div (d := 64) (by omega) (by decide) (by decide)) ?_
                    refine lv_istore_n (lv' := [(2, .int (nI ((sp + 32) / 64))), (1, .int 2), (0, .ref y)]) hx hb d_M_begin_44 rfl hl (by decide) rfl (fun ls hl => ?_)
                    refine lv_aload_n hx hb d_M_begin_45 rfl (lv_at hl 2 rfl) ?_
                    refine va_get (D := D) (ci := 5) (v := .ref mu) (C := R_M) (T := T_M) (N := 20) hx hb hg in_M hown hK hP 0 rfl rfl 8 (by decide) (hg _ gw_532) (fun _ h9 => h9) rfl d_M_begin_46 ?_
                    refine lv_iload_n hx hb d_M_begin_49 rfl (lv_at hl 1 rfl) ?_
                    refine lv_iload_n hx hb d_M_begin_50 rfl (lv_at hl 0 rfl) ?_
                    refine lv_iconst (v := 2) hx hb d_M_begin_51 (by decide) ?_
                    refine lv_icmp_ge (tgt := 59) hx hb d_M_begin_52 (by decide) (fun c_9 => ?_) (fun c_9 => ?_)
                    · skip
                      exact absurd ((nI_leI (a := 2) (by omega) (by omega)).mp c_9) (by omega)
                    · skip
                      refine lv_iconst (v := 2) hx hb d_M_begin_55 (by decide) ?_
                      refine lv_goto (tgt := 60) hx hb d_M_begin_56 (by decide) ?_
                      refine tpi (y := nI (if (sp + 32) / 64 < 2 then 2 else (sp + 32) / 64)) (congrArg nI (if_pos hfs).symm) ?_
                      refine va_iast hx hb hK hP hD hS 3 0 rfl rfl (vp_in_nI (n := 2) (by decide) (by decide)) d_M_begin_60 (fun H locs hP hD hS => ?_)
                      rw [show (2 : Int32).toNatClampNeg = 2 from rfl] at hP hD
                      have hP : va_P D CLS [(y, .inr (5, [.int th, .int (nI bi), .int (nI ne), .int (nI li), .int (nI sp), .int (nI q), .ref ms, .ref mw, .ref mu, .ref mc, .ref mn, .int en, .int (nI sz), .ref mr, .int (nI wa), .ref mq, .int la, .ref md, .int at0, .int lk])), (ms, .inl (cI, 2, .inl (upd (upd st 0 0) 1 0))), (mw, .inl (cI, 2, .inl (upd (upd lw 0 0) 1 0))), (mu, .inl (cI, 4, .inl (upd (upd (upd su 0 (nI (if (sp + 32) / 64 < 2 then 2 else (sp + 32) / 64))) 1 (nI (if (sp + 32) / 64 < 2 then 2 else (sp + 32) / 64))) 2 (nI (if (sp + 32) / 64 < 2 then 2 else (sp + 32) / 64))))), (mc, .inl (cI, 4, .inl (upd (upd cu 0 1) 1 1))), (mn, .inl (cI, 4, .inl (upd (upd nu 0 0) 1 0)))] H := hP
                      have hD : va_D A [(y, .inr (5, [.int th, .int (nI bi), .int (nI ne), .int (nI li), .int (nI sp), .int (nI q), .ref ms, .ref mw, .ref mu, .ref mc, .ref mn, .int en, .int (nI sz), .ref mr, .int (nI wa), .ref mq, .int la, .ref md, .int at0, .int lk])), (ms, .inl (cI, 2, .inl (upd (upd st 0 0) 1 0))), (mw, .inl (cI, 2, .inl (upd (upd lw 0 0) 1 0))), (mu, .inl (cI, 4, .inl (upd (upd (upd su 0 (nI (if (sp + 32) / 64 < 2 then 2 else (sp + 32) / 64))) 1 (nI (if (sp + 32) / 64 < 2 then 2 else (sp + 32) / 64))) 2 (nI (if (sp + 32) / 64 < 2 then 2 else (sp + 32) / 64))))), (mc, .inl (cI, 4, .inl (upd (upd cu 0 1) 1 1))), (mn, .inl (cI, 4, .inl (upd (upd nu 0 0) 1 0)))] := hD
                      refine lv_aload_n hx hb d_M_begin_61 rfl (lv_at hl 2 rfl) ?_
                      refine va_get (D := D) (ci := 5) (v := .ref mc) (C := R_M) (T := T_M) (N := 20) hx hb hg in_M hown hK hP 0 rfl rfl 9 (by decide) (hg _ gw_533) (fun _ h9 => h9) rfl d_M_begin_62 ?_
                      refine lv_iload_n hx hb d_M_begin_65 rfl (lv_at hl 1 rfl) ?_
                      refine lv_iconst (v := 1) hx hb d_M_begin_66 (by decide) ?_
                      refine va_iast hx hb hK hP hD hS 4 0 rfl rfl (vp_in_nI (n := 2) (by decide) (by decide)) d_M_begin_67 (fun H locs hP hD hS => ?_)
                      rw [show (2 : Int32).toNatClampNeg = 2 from rfl] at hP hD
                      have hP : va_P D CLS [(y, .inr (5, [.int th, .int (nI bi), .int (nI ne), .int (nI li), .int (nI sp), .int (nI q), .ref ms, .ref mw, .ref mu, .ref mc, .ref mn, .int en, .int (nI sz), .ref mr, .int (nI wa), .ref mq, .int la, .ref md, .int at0, .int lk])), (ms, .inl (cI, 2, .inl (upd (upd st 0 0) 1 0))), (mw, .inl (cI, 2, .inl (upd (upd lw 0 0) 1 0))), (mu, .inl (cI, 4, .inl (upd (upd (upd su 0 (nI (if (sp + 32) / 64 < 2 then 2 else (sp + 32) / 64))) 1 (nI (if (sp + 32) / 64 < 2 then 2 else (sp + 32) / 64))) 2 (nI (if (sp + 32) / 64 < 2 then 2 else (sp + 32) / 64))))), (mc, .inl (cI, 4, .inl (upd (upd (upd cu 0 1) 1 1) 2 1))), (mn, .inl (cI, 4, .inl (upd (upd nu 0 0) 1 0)))] H := hP
                      have hD : va_D A [(y, .inr (5, [.int th, .int (nI bi), .int (nI ne), .int (nI li), .int (nI sp), .int (nI q), .ref ms, .ref mw, .ref mu, .ref mc, .ref mn, .int en, .int (nI sz), .ref mr, .int (nI wa), .ref mq, .int la, .ref md, .int at0, .int lk])), (ms, .inl (cI, 2, .inl (upd (upd st 0 0) 1 0))), (mw, .inl (cI, 2, .inl (upd (upd lw 0 0) 1 0))), (mu, .inl (cI, 4, .inl (upd (upd (upd su 0 (nI (if (sp + 32) / 64 < 2 then 2 else (sp + 32) / 64))) 1 (nI (if (sp + 32) / 64 < 2 then 2 else (sp + 32) / 64))) 2 (nI (if (sp + 32) / 64 < 2 then 2 else (sp + 32) / 64))))), (mc, .inl (cI, 4, .inl (upd (upd (upd cu 0 1) 1 1) 2 1))), (mn, .inl (cI, 4, .inl (upd (upd nu 0 0) 1 0)))] := hD
                      refine lv_aload_n hx hb d_M_begin_68 rfl (lv_at hl 2 rfl) ?_
                      refine va_get (D := D) (ci := 5) (v := .ref mn) (C := R_M) (T := T_M) (N := 20) hx hb hg in_M hown hK hP 0 rfl rfl 10 (by decide) (hg _ gw_534) (fun _ h9 => h9) rfl d_M_begin_69 ?_
                      refine lv_iload_n hx hb d_M_begin_72 rfl (lv_at hl 1 rfl) ?_
                      refine lv_iconst (v := 0) hx hb d_M_begin_73 (by decide) ?_
                      refine va_iast hx hb hK hP hD hS 5 0 rfl rfl (vp_in_nI (n := 2) (by decide) (by decide)) d_M_begin_74 (fun H locs hP hD hS => ?_)
                      rw [show (2 : Int32).toNatClampNeg = 2 from rfl] at hP hD
                      have hP : va_P D CLS [(y, .inr (5, [.int th, .int (nI bi), .int (nI ne), .int (nI li), .int (nI sp), .int (nI q), .ref ms, .ref mw, .ref mu, .ref mc, .ref mn, .int en, .int (nI sz), .ref mr, .int (nI wa), .ref mq, .int la, .ref md, .int at0, .int lk])), (ms, .inl (cI, 2, .inl (upd (upd st 0 0) 1 0))), (mw, .inl (cI, 2, .inl (upd (upd lw 0 0) 1 0))), (mu, .inl (cI, 4, .inl (upd (upd (upd su 0 (nI (if (sp + 32) / 64 < 2 then 2 else (sp + 32) / 64))) 1 (nI (if (sp + 32) / 64 < 2 then 2 else (sp + 32) / 64))) 2 (nI (if (sp + 32) / 64 < 2 then 2 else (sp + 32) / 64))))), (mc, .inl (cI, 4, .inl (upd (upd (upd cu 0 1) 1 1) 2 1))), (mn, .inl (cI, 4, .inl (upd (upd (upd nu 0 0) 1 0) 2 0)))] H := hP
                      have hD : va_D A [(y, .inr (5, [.int th, .int (nI bi), .int (nI ne), .int (nI li), .int (nI sp), .int (nI q), .ref ms, .ref mw, .ref mu, .ref mc, .ref mn, .int en, .int (nI sz), .ref mr, .int (nI wa), .ref mq, .int la, .ref md, .int at0, .int lk])), (ms, .inl (cI, 2, .inl (upd (upd st 0 0) 1 0))), (mw, .inl (cI, 2, .inl (upd (upd lw 0 0) 1 0))), (mu, .inl (cI, 4, .inl (upd (upd (upd su 0 (nI (if (sp + 32) / 64 < 2 then 2 else (sp + 32) / 64))) 1 (nI (if (sp + 32) / 64 < 2 then 2 else (sp + 32) / 64))) 2 (nI (if (sp + 32) / 64 < 2 then 2 else (sp + 32) / 64))))), (mc, .inl (cI, 4, .inl (upd (upd (upd cu 0 1) 1 1) 2 1))), (mn, .inl (cI, 4, .inl (upd (upd (upd nu 0 0) 1 0) 2 0)))] := hD
                      refine lv_iinc (v := 3) (lv' := [(1, .int 3), (2, .int (nI ((sp + 32) / 64))), (0, .ref y)]) hx hb d_M_begin_75 hl (k := 1) rfl (by decide) (by decide) rfl (fun ls hl => ?_)
                      refine lv_goto (tgt := 29) hx hb d_M_begin_78 (by decide) ?_
                      refine lv_iload_n hx hb d_M_begin_29 rfl (lv_at hl 0 rfl) ?_
                      refine lv_iconst (v := 4) hx hb d_M_begin_30 (by decide) ?_
                      refine lv_icmp_ge (tgt := 81) hx hb d_M_begin_31 (by decide) (fun c_10 => ?_) (fun c_10 => ?_)
                      · skip
                        exact absurd c_10 (by decide)
                      · skip
                        refine lv_aload_n hx hb d_M_begin_34 rfl (lv_at hl 2 rfl) ?_
                        refine va_get (D := D) (ci := 5) (v := .int (nI sp)) (C := R_M) (T := T_M) (N := 20) hx hb hg in_M hown hK hP 0 rfl rfl 4 (by decide) (hg _ gw_528) (fun _ h9 => h9) rfl d_M_begin_35 ?_
                        refine lv_bipush (v := 32) hx hb d_M_begin_38 (by decide) ?_
                        refine lv_iadd hx hb d_M_begin_40 ?_
                        refine tpi (y := nI (sp + 32)) (nI_add sp 32) ?_
                        refine lv_bipush (v := 64) hx hb d_M_begin_41 (by decide) ?_
                        refine lv_idiv hx hb d_M_begin_43 (by decide) ?_
                        refine tpi (y := nI ((sp + 32) / 64)) (pk_div (d := 64) (by omega) (by decide) (by decide)) ?_
                        refine lv_istore_n (lv' := [(2, .int (nI ((sp + 32) / 64))), (1, .int 3), (0, .ref y)]) hx hb d_M_begin_44 rfl hl (by decide) rfl (fun ls hl => ?_)
                        refine lv_aload_n hx hb d_M_begin_45 rfl (lv_at hl 2 rfl) ?_
                        refine va_get (D := D) (ci := 5) (v := .ref mu) (C := R_M) (T := T_M) (N := 20) hx hb hg in_M hown hK hP 0 rfl rfl 8 (by decide) (hg _ gw_532) (fun _ h9 => h9) rfl d_M_begin_46 ?_
                        refine lv_iload_n hx hb d_M_begin_49 rfl (lv_at hl 1 rfl) ?_
                        refine lv_iload_n hx hb d_M_begin_50 rfl (lv_at hl 0 rfl) ?_
                        refine lv_iconst (v := 2) hx hb d_M_begin_51 (by decide) ?_
                        refine lv_icmp_ge (tgt := 59) hx hb d_M_begin_52 (by decide) (fun c_11 => ?_) (fun c_11 => ?_)
                        · skip
                          exact absurd ((nI_leI (a := 2) (by omega) (by omega)).mp c_11) (by omega)
                        · skip
                          refine lv_iconst (v := 2) hx hb d_M_begin_55 (by decide) ?_
                          refine lv_goto (tgt := 60) hx hb d_M_begin_56 (by decide) ?_
                          refine tpi (y := nI (if (sp + 32) / 64 < 2 then 2 else (sp + 32) / 64)) (congrArg nI (if_pos hfs).symm) ?_
                          refine va_iast hx hb hK hP hD hS 3 0 rfl rfl (vp_in_nI (n := 3) (by decide) (by decide)) d_M_begin_60 (fun H locs hP hD hS => ?_)
                          rw [show (3 : Int32).toNatClampNeg = 3 from rfl] at hP hD
                          have hP : va_P D CLS [(y, .inr (5, [.int th, .int (nI bi), .int (nI ne), .int (nI li), .int (nI sp), .int (nI q), .ref ms, .ref mw, .ref mu, .ref mc, .ref mn, .int en, .int (nI sz), .ref mr, .int (nI wa), .ref mq, .int la, .ref md, .int at0, .int lk])), (ms, .inl (cI, 2, .inl (upd (upd st 0 0) 1 0))), (mw, .inl (cI, 2, .inl (upd (upd lw 0 0) 1 0))), (mu, .inl (cI, 4, .inl (upd (upd (upd (upd su 0 (nI (if (sp + 32) / 64 < 2 then 2 else (sp + 32) / 64))) 1 (nI (if (sp + 32) / 64 < 2 then 2 else (sp + 32) / 64))) 2 (nI (if (sp + 32) / 64 < 2 then 2 else (sp + 32) / 64))) 3 (nI (if (sp + 32) / 64 < 2 then 2 else (sp + 32) / 64))))), (mc, .inl (cI, 4, .inl (upd (upd (upd cu 0 1) 1 1) 2 1))), (mn, .inl (cI, 4, .inl (upd (upd (upd nu 0 0) 1 0) 2 0)))] H := hP
                          have hD : va_D A [(y, .inr (5, [.int th, .int (nI bi), .int (nI ne), .int (nI li), .int (nI sp), .int (nI q), .ref ms, .ref mw, .ref mu, .ref mc, .ref mn, .int en, .int (nI sz), .ref mr, .int (nI wa), .ref mq, .int la, .ref md, .int at0, .int lk])), (ms, .inl (cI, 2, .inl (upd (upd st 0 0) 1 0))), (mw, .inl (cI, 2, .inl (upd (upd lw 0 0) 1 0))), (mu, .inl (cI, 4, .inl (upd (upd (upd (upd su 0 (nI (if (sp + 32) / 64 < 2 then 2 else (sp + 32) / 64))) 1 (nI (if (sp + 32) / 64 < 2 then 2 else (sp + 32) / 64))) 2 (nI (if (sp + 32) / 64 < 2 then 2 else (sp + 32) / 64))) 3 (nI (if (sp + 32) / 64 < 2 then 2 else (sp + 32) / 64))))), (mc, .inl (cI, 4, .inl (upd (upd (upd cu 0 1) 1 1) 2 1))), (mn, .inl (cI, 4, .inl (upd (upd (upd nu 0 0) 1 0) 2 0)))] := hD
                          refine lv_aload_n hx hb d_M_begin_61 rfl (lv_at hl 2 rfl) ?_
                          refine va_get (D := D) (ci := 5) (v := .ref mc) (C := R_M) (T := T_M) (N := 20) hx hb hg in_M hown hK hP 0 rfl rfl 9 (by decide) (hg _ gw_533) (fun _ h9 => h9) rfl d_M_begin_62 ?_
                          refine lv_iload_n hx hb d_M_begin_65 rfl (lv_at hl 1 rfl) ?_
                          refine lv_iconst (v := 1) hx hb d_M_begin_66 (by decide) ?_
                          refine va_iast hx hb hK hP hD hS 4 0 rfl rfl (vp_in_nI (n := 3) (by decide) (by decide)) d_M_begin_67 (fun H locs hP hD hS => ?_)
                          rw [show (3 : Int32).toNatClampNeg = 3 from rfl] at hP hD
                          have hP : va_P D CLS [(y, .inr (5, [.int th, .int (nI bi), .int (nI ne), .int (nI li), .int (nI sp), .int (nI q), .ref ms, .ref mw, .ref mu, .ref mc, .ref mn, .int en, .int (nI sz), .ref mr, .int (nI wa), .ref mq, .int la, .ref md, .int at0, .int lk])), (ms, .inl (cI, 2, .inl (upd (upd st 0 0) 1 0))), (mw, .inl (cI, 2, .inl (upd (upd lw 0 0) 1 0))), (mu, .inl (cI, 4, .inl (upd (upd (upd (upd su 0 (nI (if (sp + 32) / 64 < 2 then 2 else (sp + 32) / 64))) 1 (nI (if (sp + 32) / 64 < 2 then 2 else (sp + 32) / 64))) 2 (nI (if (sp + 32) / 64 < 2 then 2 else (sp + 32) / 64))) 3 (nI (if (sp + 32) / 64 < 2 then 2 else (sp + 32) / 64))))), (mc, .inl (cI, 4, .inl (upd (upd (upd (upd cu 0 1) 1 1) 2 1) 3 1))), (mn, .inl (cI, 4, .inl (upd (upd (upd nu 0 0) 1 0) 2 0)))] H := hP
                          have hD : va_D A [(y, .inr (5, [.int th, .int (nI bi), .int (nI ne), .int (nI li), .int (nI sp), .int (nI q), .ref ms, .ref mw, .ref mu, .ref mc, .ref mn, .int en, .int (nI sz), .ref mr, .int (nI wa), .ref mq, .int la, .ref md, .int at0, .int lk])), (ms, .inl (cI, 2, .inl (upd (upd st 0 0) 1 0))), (mw, .inl (cI, 2, .inl (upd (upd lw 0 0) 1 0))), (mu, .inl (cI, 4, .inl (upd (upd (upd (upd su 0 (nI (if (sp + 32) / 64 < 2 then 2 else (sp + 32) / 64))) 1 (nI (if (sp + 32) / 64 < 2 then 2 else (sp + 32) / 64))) 2 (nI (if (sp + 32) / 64 < 2 then 2 else (sp + 32) / 64))) 3 (nI (if (sp + 32) / 64 < 2 then 2 else (sp + 32) / 64))))), (mc, .inl (cI, 4, .inl (upd (upd (upd (upd cu 0 1) 1 1) 2 1) 3 1))), (mn, .inl (cI, 4, .inl (upd (upd (upd nu 0 0) 1 0) 2 0)))] := hD
                          refine lv_aload_n hx hb d_M_begin_68 rfl (lv_at hl 2 rfl) ?_
                          refine va_get (D := D) (ci := 5) (v := .ref mn) (C := R_M) (T := T_M) (N := 20) hx hb hg in_M hown hK hP 0 rfl rfl 10 (by decide) (hg _ gw_534) (fun _ h9 => h9) rfl d_M_begin_69 ?_
                          refine lv_iload_n hx hb d_M_begin_72 rfl (lv_at hl 1 rfl) ?_
                          refine lv_iconst (v := 0) hx hb d_M_begin_73 (by decide) ?_
                          refine va_iast hx hb hK hP hD hS 5 0 rfl rfl (vp_in_nI (n := 3) (by decide) (by decide)) d_M_begin_74 (fun H locs hP hD hS => ?_)
                          rw [show (3 : Int32).toNatClampNeg = 3 from rfl] at hP hD
                          have hP : va_P D CLS [(y, .inr (5, [.int th, .int (nI bi), .int (nI ne), .int (nI li), .int (nI sp), .int (nI q), .ref ms, .ref mw, .ref mu, .ref mc, .ref mn, .int en, .int (nI sz), .ref mr, .int (nI wa), .ref mq, .int la, .ref md, .int at0, .int lk])), (ms, .inl (cI, 2, .inl (upd (upd st 0 0) 1 0))), (mw, .inl (cI, 2, .inl (upd (upd lw 0 0) 1 0))), (mu, .inl (cI, 4, .inl (upd (upd (upd (upd su 0 (nI (if (sp + 32) / 64 < 2 then 2 else (sp + 32) / 64))) 1 (nI (if (sp + 32) / 64 < 2 then 2 else (sp + 32) / 64))) 2 (nI (if (sp + 32) / 64 < 2 then 2 else (sp + 32) / 64))) 3 (nI (if (sp + 32) / 64 < 2 then 2 else (sp + 32) / 64))))), (mc, .inl (cI, 4, .inl (upd (upd (upd (upd cu 0 1) 1 1) 2 1) 3 1))), (mn, .inl (cI, 4, .inl (upd (upd (upd (upd nu 0 0) 1 0) 2 0) 3 0)))] H := hP
                          have hD : va_D A [(y, .inr (5, [.int th, .int (nI bi), .int (nI ne), .int (nI li), .int (nI sp), .int (nI q), .ref ms, .ref mw, .ref mu, .ref mc, .ref mn, .int en, .int (nI sz), .ref mr, .int (nI wa), .ref mq, .int la, .ref md, .int at0, .int lk])), (ms, .inl (cI, 2, .inl (upd (upd st 0 0) 1 0))), (mw, .inl (cI, 2, .inl (upd (upd lw 0 0) 1 0))), (mu, .inl (cI, 4, .inl (upd (upd (upd (upd su 0 (nI (if (sp + 32) / 64 < 2 then 2 else (sp + 32) / 64))) 1 (nI (if (sp + 32) / 64 < 2 then 2 else (sp + 32) / 64))) 2 (nI (if (sp + 32) / 64 < 2 then 2 else (sp + 32) / 64))) 3 (nI (if (sp + 32) / 64 < 2 then 2 else (sp + 32) / 64))))), (mc, .inl (cI, 4, .inl (upd (upd (upd (upd cu 0 1) 1 1) 2 1) 3 1))), (mn, .inl (cI, 4, .inl (upd (upd (upd (upd nu 0 0) 1 0) 2 0) 3 0)))] := hD
                          refine lv_iinc (v := 4) (lv' := [(1, .int 4), (2, .int (nI ((sp + 32) / 64))), (0, .ref y)]) hx hb d_M_begin_75 hl (k := 1) rfl (by decide) (by decide) rfl (fun ls hl => ?_)
                          refine lv_goto (tgt := 29) hx hb d_M_begin_78 (by decide) ?_
                          refine lv_iload_n hx hb d_M_begin_29 rfl (lv_at hl 0 rfl) ?_
                          refine lv_iconst (v := 4) hx hb d_M_begin_30 (by decide) ?_
                          refine lv_icmp_ge (tgt := 81) hx hb d_M_begin_31 (by decide) (fun c_12 => ?_) (fun c_12 => ?_)
                          · skip
                            refine lv_aload_n hx hb d_M_begin_81 rfl (lv_at hl 2 rfl) ?_
                            refine lv_iconst (v := 0) hx hb d_M_begin_82 (by decide) ?_
                            refine va_put (D := D) (ci := 5) (v := .int 0) (ty := .boolean) (C := R_M) (T := T_M) (N := 20) hx hb hg in_M ty_M tok_M nm_M hown hK hP hD hS 0 rfl rfl 11 (by decide) (hg _ gw_535) (fun _ h9 => h9) rfl (by decide +kernel) (rfl) (rfl) (Nat.le_of_ble_eq_true rfl) d_M_begin_83 (fun H locs hP hD hS => ?_)
                            have hP : va_P D CLS [(y, .inr (5, [.int th, .int (nI bi), .int (nI ne), .int (nI li), .int (nI sp), .int (nI q), .ref ms, .ref mw, .ref mu, .ref mc, .ref mn, .int 0, .int (nI sz), .ref mr, .int (nI wa), .ref mq, .int la, .ref md, .int at0, .int lk])), (ms, .inl (cI, 2, .inl (upd (upd st 0 0) 1 0))), (mw, .inl (cI, 2, .inl (upd (upd lw 0 0) 1 0))), (mu, .inl (cI, 4, .inl (upd (upd (upd (upd su 0 (nI (if (sp + 32) / 64 < 2 then 2 else (sp + 32) / 64))) 1 (nI (if (sp + 32) / 64 < 2 then 2 else (sp + 32) / 64))) 2 (nI (if (sp + 32) / 64 < 2 then 2 else (sp + 32) / 64))) 3 (nI (if (sp + 32) / 64 < 2 then 2 else (sp + 32) / 64))))), (mc, .inl (cI, 4, .inl (upd (upd (upd (upd cu 0 1) 1 1) 2 1) 3 1))), (mn, .inl (cI, 4, .inl (upd (upd (upd (upd nu 0 0) 1 0) 2 0) 3 0)))] H := hP
                            have hD : va_D A [(y, .inr (5, [.int th, .int (nI bi), .int (nI ne), .int (nI li), .int (nI sp), .int (nI q), .ref ms, .ref mw, .ref mu, .ref mc, .ref mn, .int 0, .int (nI sz), .ref mr, .int (nI wa), .ref mq, .int la, .ref md, .int at0, .int lk])), (ms, .inl (cI, 2, .inl (upd (upd st 0 0) 1 0))), (mw, .inl (cI, 2, .inl (upd (upd lw 0 0) 1 0))), (mu, .inl (cI, 4, .inl (upd (upd (upd (upd su 0 (nI (if (sp + 32) / 64 < 2 then 2 else (sp + 32) / 64))) 1 (nI (if (sp + 32) / 64 < 2 then 2 else (sp + 32) / 64))) 2 (nI (if (sp + 32) / 64 < 2 then 2 else (sp + 32) / 64))) 3 (nI (if (sp + 32) / 64 < 2 then 2 else (sp + 32) / 64))))), (mc, .inl (cI, 4, .inl (upd (upd (upd (upd cu 0 1) 1 1) 2 1) 3 1))), (mn, .inl (cI, 4, .inl (upd (upd (upd (upd nu 0 0) 1 0) 2 0) 3 0)))] := hD
                            refine lv_aload_n hx hb d_M_begin_86 rfl (lv_at hl 2 rfl) ?_
                            refine lv_iconst (v := 0) hx hb d_M_begin_87 (by decide) ?_
                            refine va_put (D := D) (ci := 5) (v := .int 0) (ty := .int) (C := R_M) (T := T_M) (N := 20) hx hb hg in_M ty_M tok_M nm_M hown hK hP hD hS 0 rfl rfl 12 (by decide) (hg _ gw_536) (fun _ h9 => h9) rfl (by decide +kernel) (rfl) (rfl) (Nat.le_of_ble_eq_true rfl) d_M_begin_88 (fun H locs hP hD hS => ?_)
                            have hP : va_P D CLS [(y, .inr (5, [.int th, .int (nI bi), .int (nI ne), .int (nI li), .int (nI sp), .int (nI q), .ref ms, .ref mw, .ref mu, .ref mc, .ref mn, .int 0, .int 0, .ref mr, .int (nI wa), .ref mq, .int la, .ref md, .int at0, .int lk])), (ms, .inl (cI, 2, .inl (upd (upd st 0 0) 1 0))), (mw, .inl (cI, 2, .inl (upd (upd lw 0 0) 1 0))), (mu, .inl (cI, 4, .inl (upd (upd (upd (upd su 0 (nI (if (sp + 32) / 64 < 2 then 2 else (sp + 32) / 64))) 1 (nI (if (sp + 32) / 64 < 2 then 2 else (sp + 32) / 64))) 2 (nI (if (sp + 32) / 64 < 2 then 2 else (sp + 32) / 64))) 3 (nI (if (sp + 32) / 64 < 2 then 2 else (sp + 32) / 64))))), (mc, .inl (cI, 4, .inl (upd (upd (upd (upd cu 0 1) 1 1) 2 1) 3 1))), (mn, .inl (cI, 4, .inl (upd (upd (upd (upd nu 0 0) 1 0) 2 0) 3 0)))] H := hP
                            have hD : va_D A [(y, .inr (5, [.int th, .int (nI bi), .int (nI ne), .int (nI li), .int (nI sp), .int (nI q), .ref ms, .ref mw, .ref mu, .ref mc, .ref mn, .int 0, .int 0, .ref mr, .int (nI wa), .ref mq, .int la, .ref md, .int at0, .int lk])), (ms, .inl (cI, 2, .inl (upd (upd st 0 0) 1 0))), (mw, .inl (cI, 2, .inl (upd (upd lw 0 0) 1 0))), (mu, .inl (cI, 4, .inl (upd (upd (upd (upd su 0 (nI (if (sp + 32) / 64 < 2 then 2 else (sp + 32) / 64))) 1 (nI (if (sp + 32) / 64 < 2 then 2 else (sp + 32) / 64))) 2 (nI (if (sp + 32) / 64 < 2 then 2 else (sp + 32) / 64))) 3 (nI (if (sp + 32) / 64 < 2 then 2 else (sp + 32) / 64))))), (mc, .inl (cI, 4, .inl (upd (upd (upd (upd cu 0 1) 1 1) 2 1) 3 1))), (mn, .inl (cI, 4, .inl (upd (upd (upd (upd nu 0 0) 1 0) 2 0) 3 0)))] := hD
                            refine lv_aload_n hx hb d_M_begin_91 rfl (lv_at hl 2 rfl) ?_
                            refine lv_iconst (v := 0) hx hb d_M_begin_92 (by decide) ?_
                            refine va_put (D := D) (ci := 5) (v := .int 0) (ty := .int) (C := R_M) (T := T_M) (N := 20) hx hb hg in_M ty_M tok_M nm_M hown hK hP hD hS 0 rfl rfl 14 (by decide) (hg _ gw_538) (fun _ h9 => h9) rfl (by decide +kernel) (rfl) (rfl) (Nat.le_of_ble_eq_true rfl) d_M_begin_93 (fun H locs hP hD hS => ?_)
                            have hP : va_P D CLS [(y, .inr (5, [.int th, .int (nI bi), .int (nI ne), .int (nI li), .int (nI sp), .int (nI q), .ref ms, .ref mw, .ref mu, .ref mc, .ref mn, .int 0, .int 0, .ref mr, .int 0, .ref mq, .int la, .ref md, .int at0, .int lk])), (ms, .inl (cI, 2, .inl (upd (upd st 0 0) 1 0))), (mw, .inl (cI, 2, .inl (upd (upd lw 0 0) 1 0))), (mu, .inl (cI, 4, .inl (upd (upd (upd (upd su 0 (nI (if (sp + 32) / 64 < 2 then 2 else (sp + 32) / 64))) 1 (nI (if (sp + 32) / 64 < 2 then 2 else (sp + 32) / 64))) 2 (nI (if (sp + 32) / 64 < 2 then 2 else (sp + 32) / 64))) 3 (nI (if (sp + 32) / 64 < 2 then 2 else (sp + 32) / 64))))), (mc, .inl (cI, 4, .inl (upd (upd (upd (upd cu 0 1) 1 1) 2 1) 3 1))), (mn, .inl (cI, 4, .inl (upd (upd (upd (upd nu 0 0) 1 0) 2 0) 3 0)))] H := hP
                            have hD : va_D A [(y, .inr (5, [.int th, .int (nI bi), .int (nI ne), .int (nI li), .int (nI sp), .int (nI q), .ref ms, .ref mw, .ref mu, .ref mc, .ref mn, .int 0, .int 0, .ref mr, .int 0, .ref mq, .int la, .ref md, .int at0, .int lk])), (ms, .inl (cI, 2, .inl (upd (upd st 0 0) 1 0))), (mw, .inl (cI, 2, .inl (upd (upd lw 0 0) 1 0))), (mu, .inl (cI, 4, .inl (upd (upd (upd (upd su 0 (nI (if (sp + 32) / 64 < 2 then 2 else (sp + 32) / 64))) 1 (nI (if (sp + 32) / 64 < 2 then 2 else (sp + 32) / 64))) 2 (nI (if (sp + 32) / 64 < 2 then 2 else (sp + 32) / 64))) 3 (nI (if (sp + 32) / 64 < 2 then 2 else (sp + 32) / 64))))), (mc, .inl (cI, 4, .inl (upd (upd (upd (upd cu 0 1) 1 1) 2 1) 3 1))), (mn, .inl (cI, 4, .inl (upd (upd (upd (upd nu 0 0) 1 0) 2 0) 3 0)))] := hD
                            exact W.vret hx hb hr (fun t ht hW => ⟨rfl, by rw [ht]; exact hP, (hAe ▸ hS).F ht⟩) (hAe ▸ hS).2.2 d_M_begin_96
                          · skip
                            exact absurd (by decide) c_12
        · skip
          exact absurd (by decide) c_3
  · skip
    refine lv_iconst (v := 0) hx hb d_M_begin_0 (by decide) ?_
    refine lv_istore_n (lv' := [(1, .int 0), (0, .ref y)]) hx hb d_M_begin_1 rfl hl (by decide) rfl (fun ls hl => ?_)
    refine lv_iload_n hx hb d_M_begin_2 rfl (lv_at hl 0 rfl) ?_
    refine lv_iconst (v := 2) hx hb d_M_begin_3 (by decide) ?_
    refine lv_icmp_ge (tgt := 27) hx hb d_M_begin_4 (by decide) (fun c_13 => ?_) (fun c_13 => ?_)
    · skip
      exact absurd c_13 (by decide)
    · skip
      refine lv_aload_n hx hb d_M_begin_7 rfl (lv_at hl 1 rfl) ?_
      refine va_get (D := D) (ci := 5) (v := .ref ms) (C := R_M) (T := T_M) (N := 20) hx hb hg in_M hown hK hP 0 rfl rfl 6 (by decide) (hg _ gw_530) (fun _ h9 => h9) rfl d_M_begin_8 ?_
      refine lv_iload_n hx hb d_M_begin_11 rfl (lv_at hl 0 rfl) ?_
      refine lv_iconst (v := 0) hx hb d_M_begin_12 (by decide) ?_
      refine va_iast hx hb hK hP hD hS 1 0 rfl rfl (vp_in_nI (n := 0) (by decide) (by decide)) d_M_begin_13 (fun H locs hP hD hS => ?_)
      rw [show (0 : Int32).toNatClampNeg = 0 from rfl] at hP hD
      have hP : va_P D CLS [(y, .inr (5, [.int th, .int (nI bi), .int (nI ne), .int (nI li), .int (nI sp), .int (nI q), .ref ms, .ref mw, .ref mu, .ref mc, .ref mn, .int en, .int (nI sz), .ref mr, .int (nI wa), .ref mq, .int la, .ref md, .int at0, .int lk])), (ms, .inl (cI, 2, .inl (upd st 0 0))), (mw, .inl (cI, 2, .inl lw)), (mu, .inl (cI, 4, .inl su)), (mc, .inl (cI, 4, .inl cu)), (mn, .inl (cI, 4, .inl nu))] H := hP
      have hD : va_D A [(y, .inr (5, [.int th, .int (nI bi), .int (nI ne), .int (nI li), .int (nI sp), .int (nI q), .ref ms, .ref mw, .ref mu, .ref mc, .ref mn, .int en, .int (nI sz), .ref mr, .int (nI wa), .ref mq, .int la, .ref md, .int at0, .int lk])), (ms, .inl (cI, 2, .inl (upd st 0 0))), (mw, .inl (cI, 2, .inl lw)), (mu, .inl (cI, 4, .inl su)), (mc, .inl (cI, 4, .inl cu)), (mn, .inl (cI, 4, .inl nu))] := hD
      refine lv_aload_n hx hb d_M_begin_14 rfl (lv_at hl 1 rfl) ?_
      refine va_get (D := D) (ci := 5) (v := .ref mw) (C := R_M) (T := T_M) (N := 20) hx hb hg in_M hown hK hP 0 rfl rfl 7 (by decide) (hg _ gw_531) (fun _ h9 => h9) rfl d_M_begin_15 ?_
      refine lv_iload_n hx hb d_M_begin_18 rfl (lv_at hl 0 rfl) ?_
      refine lv_iconst (v := 0) hx hb d_M_begin_19 (by decide) ?_
      refine va_iast hx hb hK hP hD hS 2 0 rfl rfl (vp_in_nI (n := 0) (by decide) (by decide)) d_M_begin_20 (fun H locs hP hD hS => ?_)
      rw [show (0 : Int32).toNatClampNeg = 0 from rfl] at hP hD
      have hP : va_P D CLS [(y, .inr (5, [.int th, .int (nI bi), .int (nI ne), .int (nI li), .int (nI sp), .int (nI q), .ref ms, .ref mw, .ref mu, .ref mc, .ref mn, .int en, .int (nI sz), .ref mr, .int (nI wa), .ref mq, .int la, .ref md, .int at0, .int lk])), (ms, .inl (cI, 2, .inl (upd st 0 0))), (mw, .inl (cI, 2, .inl (upd lw 0 0))), (mu, .inl (cI, 4, .inl su)), (mc, .inl (cI, 4, .inl cu)), (mn, .inl (cI, 4, .inl nu))] H := hP
      have hD : va_D A [(y, .inr (5, [.int th, .int (nI bi), .int (nI ne), .int (nI li), .int (nI sp), .int (nI q), .ref ms, .ref mw, .ref mu, .ref mc, .ref mn, .int en, .int (nI sz), .ref mr, .int (nI wa), .ref mq, .int la, .ref md, .int at0, .int lk])), (ms, .inl (cI, 2, .inl (upd st 0 0))), (mw, .inl (cI, 2, .inl (upd lw 0 0))), (mu, .inl (cI, 4, .inl su)), (mc, .inl (cI, 4, .inl cu)), (mn, .inl (cI, 4, .inl nu))] := hD
      refine lv_iinc (v := 1) (lv' := [(1, .int 1), (0, .ref y)]) hx hb d_M_begin_21 hl (k := 0) rfl (by decide) (by decide) rfl (fun ls hl => ?_)
      refine lv_goto (tgt := 2) hx hb d_M_begin_24 (by decide) ?_
      refine lv_iload_n hx hb d_M_begin_2 rfl (lv_at hl 0 rfl) ?_
      refine lv_iconst (v := 2) hx hb d_M_begin_3 (by decide) ?_
      refine lv_icmp_ge (tgt := 27) hx hb d_M_begin_4 (by decide) (fun c_14 => ?_) (fun c_14 => ?_)
      · skip
        exact absurd c_14 (by decide)
      · skip
        refine lv_aload_n hx hb d_M_begin_7 rfl (lv_at hl 1 rfl) ?_
        refine va_get (D := D) (ci := 5) (v := .ref ms) (C := R_M) (T := T_M) (N := 20) hx hb hg in_M hown hK hP 0 rfl rfl 6 (by decide) (hg _ gw_530) (fun _ h9 => h9) rfl d_M_begin_8 ?_
        refine lv_iload_n hx hb d_M_begin_11 rfl (lv_at hl 0 rfl) ?_
        refine lv_iconst (v := 0) hx hb d_M_begin_12 (by decide) ?_
        refine va_iast hx hb hK hP hD hS 1 0 rfl rfl (vp_in_nI (n := 1) (by decide) (by decide)) d_M_begin_13 (fun H locs hP hD hS => ?_)
        rw [show (1 : Int32).toNatClampNeg = 1 from rfl] at hP hD
        have hP : va_P D CLS [(y, .inr (5, [.int th, .int (nI bi), .int (nI ne), .int (nI li), .int (nI sp), .int (nI q), .ref ms, .ref mw, .ref mu, .ref mc, .ref mn, .int en, .int (nI sz), .ref mr, .int (nI wa), .ref mq, .int la, .ref md, .int at0, .int lk])), (ms, .inl (cI, 2, .inl (upd (upd st 0 0) 1 0))), (mw, .inl (cI, 2, .inl (upd lw 0 0))), (mu, .inl (cI, 4, .inl su)), (mc, .inl (cI, 4, .inl cu)), (mn, .inl (cI, 4, .inl nu))] H := hP
        have hD : va_D A [(y, .inr (5, [.int th, .int (nI bi), .int (nI ne), .int (nI li), .int (nI sp), .int (nI q), .ref ms, .ref mw, .ref mu, .ref mc, .ref mn, .int en, .int (nI sz), .ref mr, .int (nI wa), .ref mq, .int la, .ref md, .int at0, .int lk])), (ms, .inl (cI, 2, .inl (upd (upd st 0 0) 1 0))), (mw, .inl (cI, 2, .inl (upd lw 0 0))), (mu, .inl (cI, 4, .inl su)), (mc, .inl (cI, 4, .inl cu)), (mn, .inl (cI, 4, .inl nu))] := hD
        refine lv_aload_n hx hb d_M_begin_14 rfl (lv_at hl 1 rfl) ?_
        refine va_get (D := D) (ci := 5) (v := .ref mw) (C := R_M) (T := T_M) (N := 20) hx hb hg in_M hown hK hP 0 rfl rfl 7 (by decide) (hg _ gw_531) (fun _ h9 => h9) rfl d_M_begin_15 ?_
        refine lv_iload_n hx hb d_M_begin_18 rfl (lv_at hl 0 rfl) ?_
        refine lv_iconst (v := 0) hx hb d_M_begin_19 (by decide) ?_
        refine va_iast hx hb hK hP hD hS 2 0 rfl rfl (vp_in_nI (n := 1) (by decide) (by decide)) d_M_begin_20 (fun H locs hP hD hS => ?_)
        rw [show (1 : Int32).toNatClampNeg = 1 from rfl] at hP hD
        have hP : va_P D CLS [(y, .inr (5, [.int th, .int (nI bi), .int (nI ne), .int (nI li), .int (nI sp), .int (nI q), .ref ms, .ref mw, .ref mu, .ref mc, .ref mn, .int en, .int (nI sz), .ref mr, .int (nI wa), .ref mq, .int la, .ref md, .int at0, .int lk])), (ms, .inl (cI, 2, .inl (upd (upd st 0 0) 1 0))), (mw, .inl (cI, 2, .inl (upd (upd lw 0 0) 1 0))), (mu, .inl (cI, 4, .inl su)), (mc, .inl (cI, 4, .inl cu)), (mn, .inl (cI, 4, .inl nu))] H := hP
        have hD : va_D A [(y, .inr (5, [.int th, .int (nI bi), .int (nI ne), .int (nI li), .int (nI sp), .int (nI q), .ref ms, .ref mw, .ref mu, .ref mc, .ref mn, .int en, .int (nI sz), .ref mr, .int (nI wa), .ref mq, .int la, .ref md, .int at0, .int lk])), (ms, .inl (cI, 2, .inl (upd (upd st 0 0) 1 0))), (mw, .inl (cI, 2, .inl (upd (upd lw 0 0) 1 0))), (mu, .inl (cI, 4, .inl su)), (mc, .inl (cI, 4, .inl cu)), (mn, .inl (cI, 4, .inl nu))] := hD
        refine lv_iinc (v := 2) (lv' := [(1, .int 2), (0, .ref y)]) hx hb d_M_begin_21 hl (k := 0) rfl (by decide) (by decide) rfl (fun ls hl => ?_)
        refine lv_goto (tgt := 2) hx hb d_M_begin_24 (by decide) ?_
        refine lv_iload_n hx hb d_M_begin_2 rfl (lv_at hl 0 rfl) ?_
        refine lv_iconst (v := 2) hx hb d_M_begin_3 (by decide) ?_
        refine lv_icmp_ge (tgt := 27) hx hb d_M_begin_4 (by decide) (fun c_15 => ?_) (fun c_15 => ?_)
        · skip
          refine lv_iconst (v := 0) hx hb d_M_begin_27 (by decide) ?_
          refine lv_istore_n (lv' := [(1, .int 0), (0, .ref y)]) hx hb d_M_begin_28 rfl hl (by decide) rfl (fun ls hl => ?_)
          refine lv_iload_n hx hb d_M_begin_29 rfl (lv_at hl 0 rfl) ?_
          refine lv_iconst (v := 4) hx hb d_M_begin_30 (by decide) ?_
          refine lv_icmp_ge (tgt := 81) hx hb d_M_begin_31 (by decide) (fun c_16 => ?_) (fun c_16 => ?_)
          · skip
            exact absurd c_16 (by decide)
          · skip
            refine lv_aload_n hx hb d_M_begin_34 rfl (lv_at hl 1 rfl) ?_
            refine va_get (D := D) (ci := 5) (v := .int (nI sp)) (C := R_M) (T := T_M) (N := 20) hx hb hg in_M hown hK hP 0 rfl rfl 4 (by decide) (hg _ gw_528) (fun _ h9 => h9) rfl d_M_begin_35 ?_
            refine lv_bipush (v := 32) hx hb d_M_begin_38 (by decide) ?_
            refine lv_iadd hx hb d_M_begin_40 ?_
            refine tpi (y := nI (sp + 32)) (nI_add sp 32) ?_
            refine lv_bipush (v := 64) hx hb d_M_begin_41 (by decide) ?_
            refine lv_idiv hx hb d_M_begin_43 (by decide) ?_
            refine tpi (y := nI ((sp + 32) / 64)) (pk_div (d := 64) (by omega) (by decide) (by decide)) ?_
            refine lv_istore_n (lv' := [(2, .int (nI ((sp + 32) / 64))), (1, .int 0), (0, .ref y)]) hx hb d_M_begin_44 rfl hl (by decide) rfl (fun ls hl => ?_)
            refine lv_aload_n hx hb d_M_begin_45 rfl (lv_at hl 2 rfl) ?_
            refine va_get (D := D) (ci := 5) (v := .ref mu) (C := R_M) (T := T_M) (N := 20) hx hb hg in_M hown hK hP 0 rfl rfl 8 (by decide) (hg _ gw_532) (fun _ h9 => h9) rfl d_M_begin_46 ?_
            refine lv_iload_n hx hb d_M_begin_49 rfl (lv_at hl 1 rfl) ?_
            refine lv_iload_n hx hb d_M_begin_50 rfl (lv_at hl 0 rfl) ?_
            refine lv_iconst (v := 2) hx hb d_M_begin_51 (by decide) ?_
            refine lv_icmp_ge (tgt := 59) hx hb d_M_begin_52 (by decide) (fun c_17 => ?_) (fun c_17 => ?_)
            · skip
              refine lv_iload_n hx hb d_M_begin_59 rfl (lv_at hl 0 rfl) ?_
              refine tpi (y := nI (if (sp + 32) / 64 < 2 then 2 else (sp + 32) / 64)) (congrArg nI (if_neg hfs).symm) ?_
              refine va_iast hx hb hK hP hD hS 3 0 rfl rfl (vp_in_nI (n := 0) (by decide) (by decide)) d_M_begin_60 (fun H locs hP hD hS => ?_)
              rw [show (0 : Int32).toNatClampNeg = 0 from rfl] at hP hD
              have hP : va_P D CLS [(y, .inr (5, [.int th, .int (nI bi), .int (nI ne), .int (nI li), .int (nI sp), .int (nI q), .ref ms, .ref mw, .ref mu, .ref mc, .ref mn, .int en, .int (nI sz), .ref mr, .int (nI wa), .ref mq, .int la, .ref md, .int at0, .int lk])), (ms, .inl (cI, 2, .inl (upd (upd st 0 0) 1 0))), (mw, .inl (cI, 2, .inl (upd (upd lw 0 0) 1 0))), (mu, .inl (cI, 4, .inl (upd su 0 (nI (if (sp + 32) / 64 < 2 then 2 else (sp + 32) / 64))))), (mc, .inl (cI, 4, .inl cu)), (mn, .inl (cI, 4, .inl nu))] H := hP
              have hD : va_D A [(y, .inr (5, [.int th, .int (nI bi), .int (nI ne), .int (nI li), .int (nI sp), .int (nI q), .ref ms, .ref mw, .ref mu, .ref mc, .ref mn, .int en, .int (nI sz), .ref mr, .int (nI wa), .ref mq, .int la, .ref md, .int at0, .int lk])), (ms, .inl (cI, 2, .inl (upd (upd st 0 0) 1 0))), (mw, .inl (cI, 2, .inl (upd (upd lw 0 0) 1 0))), (mu, .inl (cI, 4, .inl (upd su 0 (nI (if (sp + 32) / 64 < 2 then 2 else (sp + 32) / 64))))), (mc, .inl (cI, 4, .inl cu)), (mn, .inl (cI, 4, .inl nu))] := hD
              refine lv_aload_n hx hb d_M_begin_61 rfl (lv_at hl 2 rfl) ?_
              refine va_get (D := D) (ci := 5) (v := .ref mc) (C := R_M) (T := T_M) (N := 20) hx hb hg in_M hown hK hP 0 rfl rfl 9 (by decide) (hg _ gw_533) (fun _ h9 => h9) rfl d_M_begin_62 ?_
              refine lv_iload_n hx hb d_M_begin_65 rfl (lv_at hl 1 rfl) ?_
              refine lv_iconst (v := 1) hx hb d_M_begin_66 (by decide) ?_
              refine va_iast hx hb hK hP hD hS 4 0 rfl rfl (vp_in_nI (n := 0) (by decide) (by decide)) d_M_begin_67 (fun H locs hP hD hS => ?_)
              rw [show (0 : Int32).toNatClampNeg = 0 from rfl] at hP hD
              have hP : va_P D CLS [(y, .inr (5, [.int th, .int (nI bi), .int (nI ne), .int (nI li), .int (nI sp), .int (nI q), .ref ms, .ref mw, .ref mu, .ref mc, .ref mn, .int en, .int (nI sz), .ref mr, .int (nI wa), .ref mq, .int la, .ref md, .int at0, .int lk])), (ms, .inl (cI, 2, .inl (upd (upd st 0 0) 1 0))), (mw, .inl (cI, 2, .inl (upd (upd lw 0 0) 1 0))), (mu, .inl (cI, 4, .inl (upd su 0 (nI (if (sp + 32) / 64 < 2 then 2 else (sp + 32) / 64))))), (mc, .inl (cI, 4, .inl (upd cu 0 1))), (mn, .inl (cI, 4, .inl nu))] H := hP
              have hD : va_D A [(y, .inr (5, [.int th, .int (nI bi), .int (nI ne), .int (nI li), .int (nI sp), .int (nI q), .ref ms, .ref mw, .ref mu, .ref mc, .ref mn, .int en, .int (nI sz), .ref mr, .int (nI wa), .ref mq, .int la, .ref md, .int at0, .int lk])), (ms, .inl (cI, 2, .inl (upd (upd st 0 0) 1 0))), (mw, .inl (cI, 2, .inl (upd (upd lw 0 0) 1 0))), (mu, .inl (cI, 4, .inl (upd su 0 (nI (if (sp + 32) / 64 < 2 then 2 else (sp + 32) / 64))))), (mc, .inl (cI, 4, .inl (upd cu 0 1))), (mn, .inl (cI, 4, .inl nu))] := hD
              refine lv_aload_n hx hb d_M_begin_68 rfl (lv_at hl 2 rfl) ?_
              refine va_get (D := D) (ci := 5) (v := .ref mn) (C := R_M) (T := T_M) (N := 20) hx hb hg in_M hown hK hP 0 rfl rfl 10 (by decide) (hg _ gw_534) (fun _ h9 => h9) rfl d_M_begin_69 ?_
              refine lv_iload_n hx hb d_M_begin_72 rfl (lv_at hl 1 rfl) ?_
              refine lv_iconst (v := 0) hx hb d_M_begin_73 (by decide) ?_
              refine va_iast hx hb hK hP hD hS 5 0 rfl rfl (vp_in_nI (n := 0) (by decide) (by decide)) d_M_begin_74 (fun H locs hP hD hS => ?_)
              rw [show (0 : Int32).toNatClampNeg = 0 from rfl] at hP hD
              have hP : va_P D CLS [(y, .inr (5, [.int th, .int (nI bi), .int (nI ne), .int (nI li), .int (nI sp), .int (nI q), .ref ms, .ref mw, .ref mu, .ref mc, .ref mn, .int en, .int (nI sz), .ref mr, .int (nI wa), .ref mq, .int la, .ref md, .int at0, .int lk])), (ms, .inl (cI, 2, .inl (upd (upd st 0 0) 1 0))), (mw, .inl (cI, 2, .inl (upd (upd lw 0 0) 1 0))), (mu, .inl (cI, 4, .inl (upd su 0 (nI (if (sp + 32) / 64 < 2 then 2 else (sp + 32) / 64))))), (mc, .inl (cI, 4, .inl (upd cu 0 1))), (mn, .inl (cI, 4, .inl (upd nu 0 0)))] H := hP
              have hD : va_D A [(y, .inr (5, [.int th, .int (nI bi), .int (nI ne), .int (nI li), .int (nI sp), .int (nI q), .ref ms, .ref mw, .ref mu, .ref mc, .ref mn, .int en, .int (nI sz), .ref mr, .int (nI wa), .ref mq, .int la, .ref md, .int at0, .int lk])), (ms, .inl (cI, 2, .inl (upd (upd st 0 0) 1 0))), (mw, .inl (cI, 2, .inl (upd (upd lw 0 0) 1 0))), (mu, .inl (cI, 4, .inl (upd su 0 (nI (if (sp + 32) / 64 < 2 then 2 else (sp + 32) / 64))))), (mc, .inl (cI, 4, .inl (upd cu 0 1))), (mn, .inl (cI, 4, .inl (upd nu 0 0)))] := hD
              refine lv_iinc (v := 1) (lv' := [(1, .int 1), (2, .int (nI ((sp + 32) / 64))), (0, .ref y)]) hx hb d_M_begin_75 hl (k := 1) rfl (by decide) (by decide) rfl (fun ls hl => ?_)
              refine lv_goto (tgt := 29) hx hb d_M_begin_78 (by decide) ?_
              refine lv_iload_n hx hb d_M_begin_29 rfl (lv_at hl 0 rfl) ?_
              refine lv_iconst (v := 4) hx hb d_M_begin_30 (by decide) ?_
              refine lv_icmp_ge (tgt := 81) hx hb d_M_begin_31 (by decide) (fun c_18 => ?_) (fun c_18 => ?_)
              · skip
                exact absurd c_18 (by decide)
              · skip
                refine lv_aload_n hx hb d_M_begin_34 rfl (lv_at hl 2 rfl) ?_
                refine va_get (D := D) (ci := 5) (v := .int (nI sp)) (C := R_M) (T := T_M) (N := 20) hx hb hg in_M hown hK hP 0 rfl rfl 4 (by decide) (hg _ gw_528) (fun _ h9 => h9) rfl d_M_begin_35 ?_
                refine lv_bipush (v := 32) hx hb d_M_begin_38 (by decide) ?_
                refine lv_iadd hx hb d_M_begin_40 ?_
                refine tpi (y := nI (sp + 32)) (nI_add sp 32) ?_
                refine lv_bipush (v := 64) hx hb d_M_begin_41 (by decide) ?_
                refine lv_idiv hx hb d_M_begin_43 (by decide) ?_
                refine tpi (y := nI ((sp + 32) / 64)) (pk_div (d := 64) (by omega) (by decide) (by decide)) ?_
                refine lv_istore_n (lv' := [(2, .int (nI ((sp + 32) / 64))), (1, .int 1), (0, .ref y)]) hx hb d_M_begin_44 rfl hl (by decide) rfl (fun ls hl => ?_)
                refine lv_aload_n hx hb d_M_begin_45 rfl (lv_at hl 2 rfl) ?_
                refine va_get (D := D) (ci := 5) (v := .ref mu) (C := R_M) (T := T_M) (N := 20) hx hb hg in_M hown hK hP 0 rfl rfl 8 (by decide) (hg _ gw_532) (fun _ h9 => h9) rfl d_M_begin_46 ?_
                refine lv_iload_n hx hb d_M_begin_49 rfl (lv_at hl 1 rfl) ?_
                refine lv_iload_n hx hb d_M_begin_50 rfl (lv_at hl 0 rfl) ?_
                refine lv_iconst (v := 2) hx hb d_M_begin_51 (by decide) ?_
                refine lv_icmp_ge (tgt := 59) hx hb d_M_begin_52 (by decide) (fun c_19 => ?_) (fun c_19 => ?_)
                · skip
                  refine lv_iload_n hx hb d_M_begin_59 rfl (lv_at hl 0 rfl) ?_
                  refine tpi (y := nI (if (sp + 32) / 64 < 2 then 2 else (sp + 32) / 64)) (congrArg nI (if_neg hfs).symm) ?_
                  refine va_iast hx hb hK hP hD hS 3 0 rfl rfl (vp_in_nI (n := 1) (by decide) (by decide)) d_M_begin_60 (fun H locs hP hD hS => ?_)
                  rw [show (1 : Int32).toNatClampNeg = 1 from rfl] at hP hD
                  have hP : va_P D CLS [(y, .inr (5, [.int th, .int (nI bi), .int (nI ne), .int (nI li), .int (nI sp), .int (nI q), .ref ms, .ref mw, .ref mu, .ref mc, .ref mn, .int en, .int (nI sz), .ref mr, .int (nI wa), .ref mq, .int la, .ref md, .int at0, .int lk])), (ms, .inl (cI, 2, .inl (upd (upd st 0 0) 1 0))), (mw, .inl (cI, 2, .inl (upd (upd lw 0 0) 1 0))), (mu, .inl (cI, 4, .inl (upd (upd su 0 (nI (if (sp + 32) / 64 < 2 then 2 else (sp + 32) / 64))) 1 (nI (if (sp + 32) / 64 < 2 then 2 else (sp + 32) / 64))))), (mc, .inl (cI, 4, .inl (upd cu 0 1))), (mn, .inl (cI, 4, .inl (upd nu 0 0)))] H := hP
                  have hD : va_D A [(y, .inr (5, [.int th, .int (nI bi), .int (nI ne), .int (nI li), .int (nI sp), .int (nI q), .ref ms, .ref mw, .ref mu, .ref mc, .ref mn, .int en, .int (nI sz), .ref mr, .int (nI wa), .ref mq, .int la, .ref md, .int at0, .int lk])), (ms, .inl (cI, 2, .inl (upd (upd st 0 0) 1 0))), (mw, .inl (cI, 2, .inl (upd (upd lw 0 0) 1 0))), (mu, .inl (cI, 4, .inl (upd (upd su 0 (nI (if (sp + 32) / 64 < 2 then 2 else (sp + 32) / 64))) 1 (nI (if (sp + 32) / 64 < 2 then 2 else (sp + 32) / 64))))), (mc, .inl (cI, 4, .inl (upd cu 0 1))), (mn, .inl (cI, 4, .inl (upd nu 0 0)))] := hD
                  refine lv_aload_n hx hb d_M_begin_61 rfl (lv_at hl 2 rfl) ?_
                  refine va_get (D := D) (ci := 5) (v := .ref mc) (C := R_M) (T := T_M) (N := 20) hx hb hg in_M hown hK hP 0 rfl rfl 9 (by decide) (hg _ gw_533) (fun _ h9 => h9) rfl d_M_begin_62 ?_
                  refine lv_iload_n hx hb d_M_begin_65 rfl (lv_at hl 1 rfl) ?_
                  refine lv_iconst (v := 1) hx hb d_M_begin_66 (by decide) ?_
                  refine va_iast hx hb hK hP hD hS 4 0 rfl rfl (vp_in_nI (n := 1) (by decide) (by decide)) d_M_begin_67 (fun H locs hP hD hS => ?_)
                  rw [show (1 : Int32).toNatClampNeg = 1 from rfl] at hP hD
                  have hP : va_P D CLS [(y, .inr (5, [.int th, .int (nI bi), .int (nI ne), .int (nI li), .int (nI sp), .int (nI q), .ref ms, .ref mw, .ref mu, .ref mc, .ref mn, .int en, .int (nI sz), .ref mr, .int (nI wa), .ref mq, .int la, .ref md, .int at0, .int lk])), (ms, .inl (cI, 2, .inl (upd (upd st 0 0) 1 0))), (mw, .inl (cI, 2, .inl (upd (upd lw 0 0) 1 0))), (mu, .inl (cI, 4, .inl (upd (upd su 0 (nI (if (sp + 32) / 64 < 2 then 2 else (sp + 32) / 64))) 1 (nI (if (sp + 32) / 64 < 2 then 2 else (sp + 32) / 64))))), (mc, .inl (cI, 4, .inl (upd (upd cu 0 1) 1 1))), (mn, .inl (cI, 4, .inl (upd nu 0 0)))] H := hP
                  have hD : va_D A [(y, .inr (5, [.int th, .int (nI bi), .int (nI ne), .int (nI li), .int (nI sp), .int (nI q), .ref ms, .ref mw, .ref mu, .ref mc, .ref mn, .int en, .int (nI sz), .ref mr, .int (nI wa), .ref mq, .int la, .ref md, .int at0, .int lk])), (ms, .inl (cI, 2, .inl (upd (upd st 0 0) 1 0))), (mw, .inl (cI, 2, .inl (upd (upd lw 0 0) 1 0))), (mu, .inl (cI, 4, .inl (upd (upd su 0 (nI (if (sp + 32) / 64 < 2 then 2 else (sp + 32) / 64))) 1 (nI (if (sp + 32) / 64 < 2 then 2 else (sp + 32) / 64))))), (mc, .inl (cI, 4, .inl (upd (upd cu 0 1) 1 1))), (mn, .inl (cI, 4, .inl (upd nu 0 0)))] := hD
                  refine lv_aload_n hx hb d_M_begin_68 rfl (lv_at hl 2 rfl) ?_
                  refine va_get (D := D) (ci := 5) (v := .ref mn) (C := R_M) (T := T_M) (N := 20) hx hb hg in_M hown hK hP 0 rfl rfl 10 (by decide) (hg _ gw_534) (fun _ h9 => h9) rfl d_M_begin_69 ?_
                  refine lv_iload_n hx hb d_M_begin_72 rfl (lv_at hl 1 rfl) ?_
                  refine lv_iconst (v := 0) hx hb d_M_begin_73 (by decide) ?_
                  refine va_iast hx hb hK hP hD hS 5 0 rfl rfl (vp_in_nI (n := 1) (by decide) (by decide)) d_M_begin_74 (fun H locs hP hD hS => ?_)
                  rw [show (1 : Int32).toNatClampNeg = 1 from rfl] at hP hD
                  have hP : va_P D CLS [(y, .inr (5, [.int th, .int (nI bi), .int (nI ne), .int (nI li), .int (nI sp), .int (nI q), .ref ms, .ref mw, .ref mu, .ref mc, .ref mn, .int en, .int (nI sz), .ref mr, .int (nI wa), .ref mq, .int la, .ref md, .int at0, .int lk])), (ms, .inl (cI, 2, .inl (upd (upd st 0 0) 1 0))), (mw, .inl (cI, 2, .inl (upd (upd lw 0 0) 1 0))), (mu, .inl (cI, 4, .inl (upd (upd su 0 (nI (if (sp + 32) / 64 < 2 then 2 else (sp + 32) / 64))) 1 (nI (if (sp + 32) / 64 < 2 then 2 else (sp + 32) / 64))))), (mc, .inl (cI, 4, .inl (upd (upd cu 0 1) 1 1))), (mn, .inl (cI, 4, .inl (upd (upd nu 0 0) 1 0)))] H := hP
                  have hD : va_D A [(y, .inr (5, [.int th, .int (nI bi), .int (nI ne), .int (nI li), .int (nI sp), .int (nI q), .ref ms, .ref mw, .ref mu, .ref mc, .ref mn, .int en, .int (nI sz), .ref mr, .int (nI wa), .ref mq, .int la, .ref md, .int at0, .int lk])), (ms, .inl (cI, 2, .inl (upd (upd st 0 0) 1 0))), (mw, .inl (cI, 2, .inl (upd (upd lw 0 0) 1 0))), (mu, .inl (cI, 4, .inl (upd (upd su 0 (nI (if (sp + 32) / 64 < 2 then 2 else (sp + 32) / 64))) 1 (nI (if (sp + 32) / 64 < 2 then 2 else (sp + 32) / 64))))), (mc, .inl (cI, 4, .inl (upd (upd cu 0 1) 1 1))), (mn, .inl (cI, 4, .inl (upd (upd nu 0 0) 1 0)))] := hD
                  refine lv_iinc (v := 2) (lv' := [(1, .int 2), (2, .int (nI ((sp + 32) / 64))), (0, .ref y)]) hx hb d_M_begin_75 hl (k := 1) rfl (by decide) (by decide) rfl (fun ls hl => ?_)
                  refine lv_goto (tgt := 29) hx hb d_M_begin_78 (by decide) ?_
                  refine lv_iload_n hx hb d_M_begin_29 rfl (lv_at hl 0 rfl) ?_
                  refine lv_iconst (v := 4) hx hb d_M_begin_30 (by decide) ?_
                  refine lv_icmp_ge (tgt := 81) hx hb d_M_begin_31 (by decide) (fun c_20 => ?_) (fun c_20 => ?_)
                  · skip
                    exact absurd c_20 (by decide)
                  · skip
                    refine lv_aload_n hx hb d_M_begin_34 rfl (lv_at hl 2 rfl) ?_
                    refine va_get (D := D) (ci := 5) (v := .int (nI sp)) (C := R_M) (T := T_M) (N := 20) hx hb hg in_M hown hK hP 0 rfl rfl 4 (by decide) (hg _ gw_528) (fun _ h9 => h9) rfl d_M_begin_35 ?_
                    refine lv_bipush (v := 32) hx hb d_M_begin_38 (by decide) ?_
                    refine lv_iadd hx hb d_M_begin_40 ?_
                    refine tpi (y := nI (sp + 32)) (nI_add sp 32) ?_
                    refine lv_bipush (v := 64) hx hb d_M_begin_41 (by decide) ?_
                    refine lv_idiv hx hb d_M_begin_43 (by decide) ?_
                    refine tpi (y := nI ((sp + 32) / 64)) (pk_div (d := 64) (by omega) (by decide) (by decide)) ?_
                    refine lv_istore_n (lv' := [(2, .int (nI ((sp + 32) / 64))), (1, .int 2), (0, .ref y)]) hx hb d_M_begin_44 rfl hl (by decide) rfl (fun ls hl => ?_)
                    refine lv_aload_n hx hb d_M_begin_45 rfl (lv_at hl 2 rfl) ?_
                    refine va_get (D := D) (ci := 5) (v := .ref mu) (C := R_M) (T := T_M) (N := 20) hx hb hg in_M hown hK hP 0 rfl rfl 8 (by decide) (hg _ gw_532) (fun _ h9 => h9) rfl d_M_begin_46 ?_
                    refine lv_iload_n hx hb d_M_begin_49 rfl (lv_at hl 1 rfl) ?_
                    refine lv_iload_n hx hb d_M_begin_50 rfl (lv_at hl 0 rfl) ?_
                    refine lv_iconst (v := 2) hx hb d_M_begin_51 (by decide) ?_
                    refine lv_icmp_ge (tgt := 59) hx hb d_M_begin_52 (by decide) (fun c_21 => ?_) (fun c_21 => ?_)
                    · skip
                      refine lv_iload_n hx hb d_M_begin_59 rfl (lv_at hl 0 rfl) ?_
                      refine tpi (y := nI (if (sp + 32) / 64 < 2 then 2 else (sp + 32) / 64)) (congrArg nI (if_neg hfs).symm) ?_
                      refine va_iast hx hb hK hP hD hS 3 0 rfl rfl (vp_in_nI (n := 2) (by decide) (by decide)) d_M_begin_60 (fun H locs hP hD hS => ?_)
                      rw [show (2 : Int32).toNatClampNeg = 2 from rfl] at hP hD
                      have hP : va_P D CLS [(y, .inr (5, [.int th, .int (nI bi), .int (nI ne), .int (nI li), .int (nI sp), .int (nI q), .ref ms, .ref mw, .ref mu, .ref mc, .ref mn, .int en, .int (nI sz), .ref mr, .int (nI wa), .ref mq, .int la, .ref md, .int at0, .int lk])), (ms, .inl (cI, 2, .inl (upd (upd st 0 0) 1 0))), (mw, .inl (cI, 2, .inl (upd (upd lw 0 0) 1 0))), (mu, .inl (cI, 4, .inl (upd (upd (upd su 0 (nI (if (sp + 32) / 64 < 2 then 2 else (sp + 32) / 64))) 1 (nI (if (sp + 32) / 64 < 2 then 2 else (sp + 32) / 64))) 2 (nI (if (sp + 32) / 64 < 2 then 2 else (sp + 32) / 64))))), (mc, .inl (cI, 4, .inl (upd (upd cu 0 1) 1 1))), (mn, .inl (cI, 4, .inl (upd (upd nu 0 0) 1 0)))] H := hP
                      have hD : va_D A [(y, .inr (5, [.int th, .int (nI bi), .int (nI ne), .int (nI li), .int (nI sp), .int (nI q), .ref ms, .ref mw, .ref mu, .ref mc, .ref mn, .int en, .int (nI sz), .ref mr, .int (nI wa), .ref mq, .int la, .ref md, .int at0, .int lk])), (ms, .inl (cI, 2, .inl (upd (upd st 0 0) 1 0))), (mw, .inl (cI, 2, .inl (upd (upd lw 0 0) 1 0))), (mu, .inl (cI, 4, .inl (upd (upd (upd su 0 (nI (if (sp + 32) / 64 < 2 then 2 else (sp + 32) / 64))) 1 (nI (if (sp + 32) / 64 < 2 then 2 else (sp + 32) / 64))) 2 (nI (if (sp + 32) / 64 < 2 then 2 else (sp + 32) / 64))))), (mc, .inl (cI, 4, .inl (upd (upd cu 0 1) 1 1))), (mn, .inl (cI, 4, .inl (upd (upd nu 0 0) 1 0)))] := hD
                      refine lv_aload_n hx hb d_M_begin_61 rfl (lv_at hl 2 rfl) ?_
                      refine va_get (D := D) (ci := 5) (v := .ref mc) (C := R_M) (T := T_M) (N := 20) hx hb hg in_M hown hK hP 0 rfl rfl 9 (by decide) (hg _ gw_533) (fun _ h9 => h9) rfl d_M_begin_62 ?_
                      refine lv_iload_n hx hb d_M_begin_65 rfl (lv_at hl 1 rfl) ?_
                      refine lv_iconst (v := 1) hx hb d_M_begin_66 (by decide) ?_
                      refine va_iast hx hb hK hP hD hS 4 0 rfl rfl (vp_in_nI (n := 2) (by decide) (by decide)) d_M_begin_67 (fun H locs hP hD hS => ?_)
                      rw [show (2 : Int32).toNatClampNeg = 2 from rfl] at hP hD
                      have hP : va_P D CLS [(y, .inr (5, [.int th, .int (nI bi), .int (nI ne), .int (nI li), .int (nI sp), .int (nI q), .ref ms, .ref mw, .ref mu, .ref mc, .ref mn, .int en, .int (nI sz), .ref mr, .int (nI wa), .ref mq, .int la, .ref md, .int at0, .int lk])), (ms, .inl (cI, 2, .inl (upd (upd st 0 0) 1 0))), (mw, .inl (cI, 2, .inl (upd (upd lw 0 0) 1 0))), (mu, .inl (cI, 4, .inl (upd (upd (upd su 0 (nI (if (sp + 32) / 64 < 2 then 2 else (sp + 32) / 64))) 1 (nI (if (sp + 32) / 64 < 2 then 2 else (sp + 32) / 64))) 2 (nI (if (sp + 32) / 64 < 2 then 2 else (sp + 32) / 64))))), (mc, .inl (cI, 4, .inl (upd (upd (upd cu 0 1) 1 1) 2 1))), (mn, .inl (cI, 4, .inl (upd (upd nu 0 0) 1 0)))] H := hP
                      have hD : va_D A [(y, .inr (5, [.int th, .int (nI bi), .int (nI ne), .int (nI li), .int (nI sp), .int (nI q), .ref ms, .ref mw, .ref mu, .ref mc, .ref mn, .int en, .int (nI sz), .ref mr, .int (nI wa), .ref mq, .int la, .ref md, .int at0, .int lk])), (ms, .inl (cI, 2, .inl (upd (upd st 0 0) 1 0))), (mw, .inl (cI, 2, .inl (upd (upd lw 0 0) 1 0))), (mu, .inl (cI, 4, .inl (upd (upd (upd su 0 (nI (if (sp + 32) / 64 < 2 then 2 else (sp + 32) / 64))) 1 (nI (if (sp + 32) / 64 < 2 then 2 else (sp + 32) / 64))) 2 (nI (if (sp + 32) / 64 < 2 then 2 else (sp + 32) / 64))))), (mc, .inl (cI, 4, .inl (upd (upd (upd cu 0 1) 1 1) 2 1))), (mn, .inl (cI, 4, .inl (upd (upd nu 0 0) 1 0)))] := hD
                      refine lv_aload_n hx hb d_M_begin_68 rfl (lv_at hl 2 rfl) ?_
                      refine va_get (D := D) (ci := 5) (v := .ref mn) (C := R_M) (T := T_M) (N := 20) hx hb hg in_M hown hK hP 0 rfl rfl 10 (by decide) (hg _ gw_534) (fun _ h9 => h9) rfl d_M_begin_69 ?_
                      refine lv_iload_n hx hb d_M_begin_72 rfl (lv_at hl 1 rfl) ?_
                      refine lv_iconst (v := 0) hx hb d_M_begin_73 (by decide) ?_
                      refine va_iast hx hb hK hP hD hS 5 0 rfl rfl (vp_in_nI (n := 2) (by decide) (by decide)) d_M_begin_74 (fun H locs hP hD hS => ?_)
                      rw [show (2 : Int32).toNatClampNeg = 2 from rfl] at hP hD
                      have hP : va_P D CLS [(y, .inr (5, [.int th, .int (nI bi), .int (nI ne), .int (nI li), .int (nI sp), .int (nI q), .ref ms, .ref mw, .ref mu, .ref mc, .ref mn, .int en, .int (nI sz), .ref mr, .int (nI wa), .ref mq, .int la, .ref md, .int at0, .int lk])), (ms, .inl (cI, 2, .inl (upd (upd st 0 0) 1 0))), (mw, .inl (cI, 2, .inl (upd (upd lw 0 0) 1 0))), (mu, .inl (cI, 4, .inl (upd (upd (upd su 0 (nI (if (sp + 32) / 64 < 2 then 2 else (sp + 32) / 64))) 1 (nI (if (sp + 32) / 64 < 2 then 2 else (sp + 32) / 64))) 2 (nI (if (sp + 32) / 64 < 2 then 2 else (sp + 32) / 64))))), (mc, .inl (cI, 4, .inl (upd (upd (upd cu 0 1) 1 1) 2 1))), (mn, .inl (cI, 4, .inl (upd (upd (upd nu 0 0) 1 0) 2 0)))] H := hP
                      have hD : va_D A [(y, .inr (5, [.int th, .int (nI bi), .int (nI ne), .int (nI li), .int (nI sp), .int (nI q), .ref ms, .ref mw, .ref mu, .ref mc, .ref mn, .int en, .int (nI sz), .ref mr, .int (nI wa), .ref mq, .int la, .ref md, .int at0, .int lk])), (ms, .inl (cI, 2, .inl (upd (upd st 0 0) 1 0))), (mw, .inl (cI, 2, .inl (upd (upd lw 0 0) 1 0))), (mu, .inl (cI, 4, .inl (upd (upd (upd su 0 (nI (if (sp + 32) / 64 < 2 then 2 else (sp + 32) / 64))) 1 (nI (if (sp + 32) / 64 < 2 then 2 else (sp + 32) / 64))) 2 (nI (if (sp + 32) / 64 < 2 then 2 else (sp + 32) / 64))))), (mc, .inl (cI, 4, .inl (upd (upd (upd cu 0 1) 1 1) 2 1))), (mn, .inl (cI, 4, .inl (upd (upd (upd nu 0 0) 1 0) 2 0)))] := hD
                      refine lv_iinc (v := 3) (lv' := [(1, .int 3), (2, .int (nI ((sp + 32) / 64))), (0, .ref y)]) hx hb d_M_begin_75 hl (k := 1) rfl (by decide) (by decide) rfl (fun ls hl => ?_)
                      refine lv_goto (tgt := 29) hx hb d_M_begin_78 (by decide) ?_
                      refine lv_iload_n hx hb d_M_begin_29 rfl (lv_at hl 0 rfl) ?_
                      refine lv_iconst (v := 4) hx hb d_M_begin_30 (by decide) ?_
                      refine lv_icmp_ge (tgt := 81) hx hb d_M_begin_31 (by decide) (fun c_22 => ?_) (fun c_22 => ?_)
                      · skip
                        exact absurd c_22 (by decide)
                      · skip
                        refine lv_aload_n hx hb d_M_begin_34 rfl (lv_at hl 2 rfl) ?_
                        refine va_get (D := D) (ci := 5) (v := .int (nI sp)) (C := R_M) (T := T_M) (N := 20) hx hb hg in_M hown hK hP 0 rfl rfl 4 (by decide) (hg _ gw_528) (fun _ h9 => h9) rfl d_M_begin_35 ?_
                        refine lv_bipush (v := 32) hx hb d_M_begin_38 (by decide) ?_
                        refine lv_iadd hx hb d_M_begin_40 ?_
                        refine tpi (y := nI (sp + 32)) (nI_add sp 32) ?_
                        refine lv_bipush (v := 64) hx hb d_M_begin_41 (by decide) ?_
                        refine lv_idiv hx hb d_M_begin_43 (by decide) ?_
                        refine tpi (y := nI ((sp + 32) / 64)) (pk_div (d := 64) (by omega) (by decide) (by decide)) ?_
                        refine lv_istore_n (lv' := [(2, .int (nI ((sp + 32) / 64))), (1, .int 3), (0, .ref y)]) hx hb d_M_begin_44 rfl hl (by decide) rfl (fun ls hl => ?_)
                        refine lv_aload_n hx hb d_M_begin_45 rfl (lv_at hl 2 rfl) ?_
                        refine va_get (D := D) (ci := 5) (v := .ref mu) (C := R_M) (T := T_M) (N := 20) hx hb hg in_M hown hK hP 0 rfl rfl 8 (by decide) (hg _ gw_532) (fun _ h9 => h9) rfl d_M_begin_46 ?_
                        refine lv_iload_n hx hb d_M_begin_49 rfl (lv_at hl 1 rfl) ?_
                        refine lv_iload_n hx hb d_M_begin_50 rfl (lv_at hl 0 rfl) ?_
                        refine lv_iconst (v := 2) hx hb d_M_begin_51 (by decide) ?_
                        refine lv_icmp_ge (tgt := 59) hx hb d_M_begin_52 (by decide) (fun c_23 => ?_) (fun c_23 => ?_)
                        · skip
                          refine lv_iload_n hx hb d_M_begin_59 rfl (lv_at hl 0 rfl) ?_
                          refine tpi (y := nI (if (sp + 32) / 64 < 2 then 2 else (sp + 32) / 64)) (congrArg nI (if_neg hfs).symm) ?_
                          refine va_iast hx hb hK hP hD hS 3 0 rfl rfl (vp_in_nI (n := 3) (by decide) (by decide)) d_M_begin_60 (fun H locs hP hD hS => ?_)
                          rw [show (3 : Int32).toNatClampNeg = 3 from rfl] at hP hD
                          have hP : va_P D CLS [(y, .inr (5, [.int th, .int (nI bi), .int (nI ne), .int (nI li), .int (nI sp), .int (nI q), .ref ms, .ref mw, .ref mu, .ref mc, .ref mn, .int en, .int (nI sz), .ref mr, .int (nI wa), .ref mq, .int la, .ref md, .int at0, .int lk])), (ms, .inl (cI, 2, .inl (upd (upd st 0 0) 1 0))), (mw, .inl (cI, 2, .inl (upd (upd lw 0 0) 1 0))), (mu, .inl (cI, 4, .inl (upd (upd (upd (upd su 0 (nI (if (sp + 32) / 64 < 2 then 2 else (sp + 32) / 64))) 1 (nI (if (sp + 32) / 64 < 2 then 2 else (sp + 32) / 64))) 2 (nI (if (sp + 32) / 64 < 2 then 2 else (sp + 32) / 64))) 3 (nI (if (sp + 32) / 64 < 2 then 2 else (sp + 32) / 64))))), (mc, .inl (cI, 4, .inl (upd (upd (upd cu 0 1) 1 1) 2 1))), (mn, .inl (cI, 4, .inl (upd (upd (upd nu 0 0) 1 0) 2 0)))] H := hP
                          have hD : va_D A [(y, .inr (5, [.int th, .int (nI bi), .int (nI ne), .int (nI li), .int (nI sp), .int (nI q), .ref ms, .ref mw, .ref mu, .ref mc, .ref mn, .int en, .int (nI sz), .ref mr, .int (nI wa), .ref mq, .int la, .ref md, .int at0, .int lk])), (ms, .inl (cI, 2, .inl (upd (upd st 0 0) 1 0))), (mw, .inl (cI, 2, .inl (upd (upd lw 0 0) 1 0))), (mu, .inl (cI, 4, .inl (upd (upd (upd (upd su 0 (nI (if (sp + 32) / 64 < 2 then 2 else (sp + 32) / 64))) 1 (nI (if (sp + 32) / 64 < 2 then 2 else (sp + 32) / 64))) 2 (nI (if (sp + 32) / 64 < 2 then 2 else (sp + 32) / 64))) 3 (nI (if (sp + 32) / 64 < 2 then 2 else (sp + 32) / 64))))), (mc, .inl (cI, 4, .inl (upd (upd (upd cu 0 1) 1 1) 2 1))), (mn, .inl (cI, 4, .inl (upd (upd (upd nu 0 0) 1 0) 2 0)))] := hD
                          refine lv_aload_n hx hb d_M_begin_61 rfl (lv_at hl 2 rfl) ?_
                          refine va_get (D := D) (ci := 5) (v := .ref mc) (C := R_M) (T := T_M) (N := 20) hx hb hg in_M hown hK hP 0 rfl rfl 9 (by decide) (hg _ gw_533) (fun _ h9 => h9) rfl d_M_begin_62 ?_
                          refine lv_iload_n hx hb d_M_begin_65 rfl (lv_at hl 1 rfl) ?_
                          refine lv_iconst (v := 1) hx hb d_M_begin_66 (by decide) ?_
                          refine va_iast hx hb hK hP hD hS 4 0 rfl rfl (vp_in_nI (n := 3) (by decide) (by decide)) d_M_begin_67 (fun H locs hP hD hS => ?_)
                          rw [show (3 : Int32).toNatClampNeg = 3 from rfl] at hP hD
                          have hP : va_P D CLS [(y, .inr (5, [.int th, .int (nI bi), .int (nI ne), .int (nI li), .int (nI sp), .int (nI q), .ref ms, .ref mw, .ref mu, .ref mc, .ref mn, .int en, .int (nI sz), .ref mr, .int (nI wa), .ref mq, .int la, .ref md, .int at0, .int lk])), (ms, .inl (cI, 2, .inl (upd (upd st 0 0) 1 0))), (mw, .inl (cI, 2, .inl (upd (upd lw 0 0) 1 0))), (mu, .inl (cI, 4, .inl (upd (upd (upd (upd su 0 (nI (if (sp + 32) / 64 < 2 then 2 else (sp + 32) / 64))) 1 (nI (if (sp + 32) / 64 < 2 then 2 else (sp + 32) / 64))) 2 (nI (if (sp + 32) / 64 < 2 then 2 else (sp + 32) / 64))) 3 (nI (if (sp + 32) / 64 < 2 then 2 else (sp + 32) / 64))))), (mc, .inl (cI, 4, .inl (upd (upd (upd (upd cu 0 1) 1 1) 2 1) 3 1))), (mn, .inl (cI, 4, .inl (upd (upd (upd nu 0 0) 1 0) 2 0)))] H := hP
                          have hD : va_D A [(y, .inr (5, [.int th, .int (nI bi), .int (nI ne), .int (nI li), .int (nI sp), .int (nI q), .ref ms, .ref mw, .ref mu, .ref mc, .ref mn, .int en, .int (nI sz), .ref mr, .int (nI wa), .ref mq, .int la, .ref md, .int at0, .int lk])), (ms, .inl (cI, 2, .inl (upd (upd st 0 0) 1 0))), (mw, .inl (cI, 2, .inl (upd (upd lw 0 0) 1 0))), (mu, .inl (cI, 4, .inl (upd (upd (upd (upd su 0 (nI (if (sp + 32) / 64 < 2 then 2 else (sp + 32) / 64))) 1 (nI (if (sp + 32) / 64 < 2 then 2 else (sp + 32) / 64))) 2 (nI (if (sp + 32) / 64 < 2 then 2 else (sp + 32) / 64))) 3 (nI (if (sp + 32) / 64 < 2 then 2 else (sp + 32) / 64))))), (mc, .inl (cI, 4, .inl (upd (upd (upd (upd cu 0 1) 1 1) 2 1) 3 1))), (mn, .inl (cI, 4, .inl (upd (upd (upd nu 0 0) 1 0) 2 0)))] := hD
                          refine lv_aload_n hx hb d_M_begin_68 rfl (lv_at hl 2 rfl) ?_
                          refine va_get (D := D) (ci := 5) (v := .ref mn) (C := R_M) (T := T_M) (N := 20) hx hb hg in_M hown hK hP 0 rfl rfl 10 (by decide) (hg _ gw_534) (fun _ h9 => h9) rfl d_M_begin_69 ?_
                          refine lv_iload_n hx hb d_M_begin_72 rfl (lv_at hl 1 rfl) ?_
                          refine lv_iconst (v := 0) hx hb d_M_begin_73 (by decide) ?_
                          refine va_iast hx hb hK hP hD hS 5 0 rfl rfl (vp_in_nI (n := 3) (by decide) (by decide)) d_M_begin_74 (fun H locs hP hD hS => ?_)
                          rw [show (3 : Int32).toNatClampNeg = 3 from rfl] at hP hD
                          have hP : va_P D CLS [(y, .inr (5, [.int th, .int (nI bi), .int (nI ne), .int (nI li), .int (nI sp), .int (nI q), .ref ms, .ref mw, .ref mu, .ref mc, .ref mn, .int en, .int (nI sz), .ref mr, .int (nI wa), .ref mq, .int la, .ref md, .int at0, .int lk])), (ms, .inl (cI, 2, .inl (upd (upd st 0 0) 1 0))), (mw, .inl (cI, 2, .inl (upd (upd lw 0 0) 1 0))), (mu, .inl (cI, 4, .inl (upd (upd (upd (upd su 0 (nI (if (sp + 32) / 64 < 2 then 2 else (sp + 32) / 64))) 1 (nI (if (sp + 32) / 64 < 2 then 2 else (sp + 32) / 64))) 2 (nI (if (sp + 32) / 64 < 2 then 2 else (sp + 32) / 64))) 3 (nI (if (sp + 32) / 64 < 2 then 2 else (sp + 32) / 64))))), (mc, .inl (cI, 4, .inl (upd (upd (upd (upd cu 0 1) 1 1) 2 1) 3 1))), (mn, .inl (cI, 4, .inl (upd (upd (upd (upd nu 0 0) 1 0) 2 0) 3 0)))] H := hP
                          have hD : va_D A [(y, .inr (5, [.int th, .int (nI bi), .int (nI ne), .int (nI li), .int (nI sp), .int (nI q), .ref ms, .ref mw, .ref mu, .ref mc, .ref mn, .int en, .int (nI sz), .ref mr, .int (nI wa), .ref mq, .int la, .ref md, .int at0, .int lk])), (ms, .inl (cI, 2, .inl (upd (upd st 0 0) 1 0))), (mw, .inl (cI, 2, .inl (upd (upd lw 0 0) 1 0))), (mu, .inl (cI, 4, .inl (upd (upd (upd (upd su 0 (nI (if (sp + 32) / 64 < 2 then 2 else (sp + 32) / 64))) 1 (nI (if (sp + 32) / 64 < 2 then 2 else (sp + 32) / 64))) 2 (nI (if (sp + 32) / 64 < 2 then 2 else (sp + 32) / 64))) 3 (nI (if (sp + 32) / 64 < 2 then 2 else (sp + 32) / 64))))), (mc, .inl (cI, 4, .inl (upd (upd (upd (upd cu 0 1) 1 1) 2 1) 3 1))), (mn, .inl (cI, 4, .inl (upd (upd (upd (upd nu 0 0) 1 0) 2 0) 3 0)))] := hD
                          refine lv_iinc (v := 4) (lv' := [(1, .int 4), (2, .int (nI ((sp + 32) / 64))), (0, .ref y)]) hx hb d_M_begin_75 hl (k := 1) rfl (by decide) (by decide) rfl (fun ls hl => ?_)
                          refine lv_goto (tgt := 29) hx hb d_M_begin_78 (by decide) ?_
                          refine lv_iload_n hx hb d_M_begin_29 rfl (lv_at hl 0 rfl) ?_
                          refine lv_iconst (v := 4) hx hb d_M_begin_30 (by decide) ?_
                          refine lv_icmp_ge (tgt := 81) hx hb d_M_begin_31 (by decide) (fun c_24 => ?_) (fun c_24 => ?_)
                          · skip
                            refine lv_aload_n hx hb d_M_begin_81 rfl (lv_at hl 2 rfl) ?_
                            refine lv_iconst (v := 0) hx hb d_M_begin_82 (by decide) ?_
                            refine va_put (D := D) (ci := 5) (v := .int 0) (ty := .boolean) (C := R_M) (T := T_M) (N := 20) hx hb hg in_M ty_M tok_M nm_M hown hK hP hD hS 0 rfl rfl 11 (by decide) (hg _ gw_535) (fun _ h9 => h9) rfl (by decide +kernel) (rfl) (rfl) (Nat.le_of_ble_eq_true rfl) d_M_begin_83 (fun H locs hP hD hS => ?_)
                            have hP : va_P D CLS [(y, .inr (5, [.int th, .int (nI bi), .int (nI ne), .int (nI li), .int (nI sp), .int (nI q), .ref ms, .ref mw, .ref mu, .ref mc, .ref mn, .int 0, .int (nI sz), .ref mr, .int (nI wa), .ref mq, .int la, .ref md, .int at0, .int lk])), (ms, .inl (cI, 2, .inl (upd (upd st 0 0) 1 0))), (mw, .inl (cI, 2, .inl (upd (upd lw 0 0) 1 0))), (mu, .inl (cI, 4, .inl (upd (upd (upd (upd su 0 (nI (if (sp + 32) / 64 < 2 then 2 else (sp + 32) / 64))) 1 (nI (if (sp + 32) / 64 < 2 then 2 else (sp + 32) / 64))) 2 (nI (if (sp + 32) / 64 < 2 then 2 else (sp + 32) / 64))) 3 (nI (if (sp + 32) / 64 < 2 then 2 else (sp + 32) / 64))))), (mc, .inl (cI, 4, .inl (upd (upd (upd (upd cu 0 1) 1 1) 2 1) 3 1))), (mn, .inl (cI, 4, .inl (upd (upd (upd (upd nu 0 0) 1 0) 2 0) 3 0)))] H := hP
                            have hD : va_D A [(y, .inr (5, [.int th, .int (nI bi), .int (nI ne), .int (nI li), .int (nI sp), .int (nI q), .ref ms, .ref mw, .ref mu, .ref mc, .ref mn, .int 0, .int (nI sz), .ref mr, .int (nI wa), .ref mq, .int la, .ref md, .int at0, .int lk])), (ms, .inl (cI, 2, .inl (upd (upd st 0 0) 1 0))), (mw, .inl (cI, 2, .inl (upd (upd lw 0 0) 1 0))), (mu, .inl (cI, 4, .inl (upd (upd (upd (upd su 0 (nI (if (sp + 32) / 64 < 2 then 2 else (sp + 32) / 64))) 1 (nI (if (sp + 32) / 64 < 2 then 2 else (sp + 32) / 64))) 2 (nI (if (sp + 32) / 64 < 2 then 2 else (sp + 32) / 64))) 3 (nI (if (sp + 32) / 64 < 2 then 2 else (sp + 32) / 64))))), (mc, .inl (cI, 4, .inl (upd (upd (upd (upd cu 0 1) 1 1) 2 1) 3 1))), (mn, .inl (cI, 4, .inl (upd (upd (upd (upd nu 0 0) 1 0) 2 0) 3 0)))] := hD
                            refine lv_aload_n hx hb d_M_begin_86 rfl (lv_at hl 2 rfl) ?_
                            refine lv_iconst (v := 0) hx hb d_M_begin_87 (by decide) ?_
                            refine va_put (D := D) (ci := 5) (v := .int 0) (ty := .int) (C := R_M) (T := T_M) (N := 20) hx hb hg in_M ty_M tok_M nm_M hown hK hP hD hS 0 rfl rfl 12 (by decide) (hg _ gw_536) (fun _ h9 => h9) rfl (by decide +kernel) (rfl) (rfl) (Nat.le_of_ble_eq_true rfl) d_M_begin_88 (fun H locs hP hD hS => ?_)
                            have hP : va_P D CLS [(y, .inr (5, [.int th, .int (nI bi), .int (nI ne), .int (nI li), .int (nI sp), .int (nI q), .ref ms, .ref mw, .ref mu, .ref mc, .ref mn, .int 0, .int 0, .ref mr, .int (nI wa), .ref mq, .int la, .ref md, .int at0, .int lk])), (ms, .inl (cI, 2, .inl (upd (upd st 0 0) 1 0))), (mw, .inl (cI, 2, .inl (upd (upd lw 0 0) 1 0))), (mu, .inl (cI, 4, .inl (upd (upd (upd (upd su 0 (nI (if (sp + 32) / 64 < 2 then 2 else (sp + 32) / 64))) 1 (nI (if (sp + 32) / 64 < 2 then 2 else (sp + 32) / 64))) 2 (nI (if (sp + 32) / 64 < 2 then 2 else (sp + 32) / 64))) 3 (nI (if (sp + 32) / 64 < 2 then 2 else (sp + 32) / 64))))), (mc, .inl (cI, 4, .inl (upd (upd (upd (upd cu 0 1) 1 1) 2 1) 3 1))), (mn, .inl (cI, 4, .inl (upd (upd (upd (upd nu 0 0) 1 0) 2 0) 3 0)))] H := hP
                            have hD : va_D A [(y, .inr (5, [.int th, .int (nI bi), .int (nI ne), .int (nI li), .int (nI sp), .int (nI q), .ref ms, .ref mw, .ref mu, .ref mc, .ref mn, .int 0, .int 0, .ref mr, .int (nI wa), .ref mq, .int la, .ref md, .int at0, .int lk])), (ms, .inl (cI, 2, .inl (upd (upd st 0 0) 1 0))), (mw, .inl (cI, 2, .inl (upd (upd lw 0 0) 1 0))), (mu, .inl (cI, 4, .inl (upd (upd (upd (upd su 0 (nI (if (sp + 32) / 64 < 2 then 2 else (sp + 32) / 64))) 1 (nI (if (sp + 32) / 64 < 2 then 2 else (sp + 32) / 64))) 2 (nI (if (sp + 32) / 64 < 2 then 2 else (sp + 32) / 64))) 3 (nI (if (sp + 32) / 64 < 2 then 2 else (sp + 32) / 64))))), (mc, .inl (cI, 4, .inl (upd (upd (upd (upd cu 0 1) 1 1) 2 1) 3 1))), (mn, .inl (cI, 4, .inl (upd (upd (upd (upd nu 0 0) 1 0) 2 0) 3 0)))] := hD
                            refine lv_aload_n hx hb d_M_begin_91 rfl (lv_at hl 2 rfl) ?_
                            refine lv_iconst (v := 0) hx hb d_M_begin_92 (by decide) ?_
                            refine va_put (D := D) (ci := 5) (v := .int 0) (ty := .int) (C := R_M) (T := T_M) (N := 20) hx hb hg in_M ty_M tok_M nm_M hown hK hP hD hS 0 rfl rfl 14 (by decide) (hg _ gw_538) (fun _ h9 => h9) rfl (by decide +kernel) (rfl) (rfl) (Nat.le_of_ble_eq_true rfl) d_M_begin_93 (fun H locs hP hD hS => ?_)
                            have hP : va_P D CLS [(y, .inr (5, [.int th, .int (nI bi), .int (nI ne), .int (nI li), .int (nI sp), .int (nI q), .ref ms, .ref mw, .ref mu, .ref mc, .ref mn, .int 0, .int 0, .ref mr, .int 0, .ref mq, .int la, .ref md, .int at0, .int lk])), (ms, .inl (cI, 2, .inl (upd (upd st 0 0) 1 0))), (mw, .inl (cI, 2, .inl (upd (upd lw 0 0) 1 0))), (mu, .inl (cI, 4, .inl (upd (upd (upd (upd su 0 (nI (if (sp + 32) / 64 < 2 then 2 else (sp + 32) / 64))) 1 (nI (if (sp + 32) / 64 < 2 then 2 else (sp + 32) / 64))) 2 (nI (if (sp + 32) / 64 < 2 then 2 else (sp + 32) / 64))) 3 (nI (if (sp + 32) / 64 < 2 then 2 else (sp + 32) / 64))))), (mc, .inl (cI, 4, .inl (upd (upd (upd (upd cu 0 1) 1 1) 2 1) 3 1))), (mn, .inl (cI, 4, .inl (upd (upd (upd (upd nu 0 0) 1 0) 2 0) 3 0)))] H := hP
                            have hD : va_D A [(y, .inr (5, [.int th, .int (nI bi), .int (nI ne), .int (nI li), .int (nI sp), .int (nI q), .ref ms, .ref mw, .ref mu, .ref mc, .ref mn, .int 0, .int 0, .ref mr, .int 0, .ref mq, .int la, .ref md, .int at0, .int lk])), (ms, .inl (cI, 2, .inl (upd (upd st 0 0) 1 0))), (mw, .inl (cI, 2, .inl (upd (upd lw 0 0) 1 0))), (mu, .inl (cI, 4, .inl (upd (upd (upd (upd su 0 (nI (if (sp + 32) / 64 < 2 then 2 else (sp + 32) / 64))) 1 (nI (if (sp + 32) / 64 < 2 then 2 else (sp + 32) / 64))) 2 (nI (if (sp + 32) / 64 < 2 then 2 else (sp + 32) / 64))) 3 (nI (if (sp + 32) / 64 < 2 then 2 else (sp + 32) / 64))))), (mc, .inl (cI, 4, .inl (upd (upd (upd (upd cu 0 1) 1 1) 2 1) 3 1))), (mn, .inl (cI, 4, .inl (upd (upd (upd (upd nu 0 0) 1 0) 2 0) 3 0)))] := hD
                            exact W.vret hx hb hr (fun t ht hW => ⟨rfl, by rw [ht]; exact hP, (hAe ▸ hS).F ht⟩) (hAe ▸ hS).2.2 d_M_begin_96
                          · skip
                            exact absurd (by decide) c_24
                        · skip
                          exact absurd ((nI_leI (a := 2) (by omega) (by omega)).mpr (by omega)) c_23
                    · skip
                      exact absurd ((nI_leI (a := 2) (by omega) (by omega)).mpr (by omega)) c_21
                · skip
                  exact absurd ((nI_leI (a := 2) (by omega) (by omega)).mpr (by omega)) c_19
            · skip
              exact absurd ((nI_leI (a := 2) (by omega) (by omega)).mpr (by omega)) c_17
        · skip
          exact absurd (by decide) c_15
set_option maxHeartbeats 4000000 in
set_option maxRecDepth 100000 in
theorem c_M_clear (l : Launch) (D : va_G) (y ms mw mu mc mn mr mq md bi ne li sp q sz wa : Nat) (th en la at0 lk : Int32) (cI : ClassId) (st lw su cu nu : Nat → Int32) (hsp : sp ≤ 65536) : Met l y_M_clear (WSY y_M_clear b_M_clear 1 none) ({ frames := 1, cells := 0, slots := 0, locals := 25 }) (va_Pc [.ref y] (fun U => va_P D CLS [(y, .inr (5, [.int th, .int (nI bi), .int (nI ne), .int (nI li), .int (nI sp), .int (nI q), .ref ms, .ref mw, .ref mu, .ref mc, .ref mn, .int en, .int (nI sz), .ref mr, .int (nI wa), .ref mq, .int la, .ref md, .int at0, .int lk])), (ms, .inl (cI, 2, .inl st)), (mw, .inl (cI, 2, .inl lw)), (mu, .inl (cI, 4, .inl su)), (mc, .inl (cI, 4, .inl cu)), (mn, .inl (cI, 4, .inl nu))] U.heap ∧ va_K D CLS [(cI, .int)] U ∧ va_D (fun _ => True) [(y, .inr (5, [.int th, .int (nI bi), .int (nI ne), .int (nI li), .int (nI sp), .int (nI q), .ref ms, .ref mw, .ref mu, .ref mc, .ref mn, .int en, .int (nI sz), .ref mr, .int (nI wa), .ref mq, .int la, .ref md, .int at0, .int lk])), (ms, .inl (cI, 2, .inl st)), (mw, .inl (cI, 2, .inl lw)), (mu, .inl (cI, 4, .inl su)), (mc, .inl (cI, 4, .inl cu)), (mn, .inl (cI, 4, .inl nu))])) (QM none [(y, .inr (5, [.int th, .int (nI bi), .int (nI ne), .int (nI li), .int (nI sp), .int (nI q), .ref ms, .ref mw, .ref mu, .ref mc, .ref mn, .int en, .int (nI sz), .ref mr, .int (nI wa), .ref mq, .int la, .ref md, .int at0, .int lk])), (ms, .inl (cI, 2, .inl st)), (mw, .inl (cI, 2, .inl lw)), (mu, .inl (cI, 4, .inl su)), (mc, .inl (cI, 4, .inl cu)), (mn, .inl (cI, 4, .inl nu))] [(y, .inr (5, [.int 0, .int (nI bi), .int (nI ne), .int (nI li), .int (nI sp), .int (nI q), .ref ms, .ref mw, .ref mu, .ref mc, .ref mn, .int 0, .int (nI 0), .ref mr, .int (nI 0), .ref mq, .int la, .ref md, .int at0, .int lk])), (ms, .inl (cI, 2, .inl (upd (upd st 0 0) 1 0))), (mw, .inl (cI, 2, .inl (upd (upd lw 0 0) 1 0))), (mu, .inl (cI, 4, .inl (upd (upd (upd (upd su 0 (nI (if (sp + 32) / 64 < 2 then 2 else (sp + 32) / 64))) 1 (nI (if (sp + 32) / 64 < 2 then 2 else (sp + 32) / 64))) 2 (nI (if (sp + 32) / 64 < 2 then 2 else (sp + 32) / 64))) 3 (nI (if (sp + 32) / 64 < 2 then 2 else (sp + 32) / 64))))), (mc, .inl (cI, 4, .inl (upd (upd (upd (upd cu 0 1) 1 1) 2 1) 3 1))), (mn, .inl (cI, 4, .inl (upd (upd (upd (upd nu 0 0) 1 0) 2 0) 3 0)))] D) 0 0 (ad [(y, .inr (5, [.int th, .int (nI bi), .int (nI ne), .int (nI li), .int (nI sp), .int (nI q), .ref ms, .ref mw, .ref mu, .ref mc, .ref mn, .int en, .int (nI sz), .ref mr, .int (nI wa), .ref mq, .int la, .ref md, .int at0, .int lk])), (ms, .inl (cI, 2, .inl st)), (mw, .inl (cI, 2, .inl lw)), (mu, .inl (cI, 4, .inl su)), (mc, .inl (cI, 4, .inl cu)), (mn, .inl (cI, 4, .inl nu))]) := by
  refine Met.ofW (cc := b_M_clear) (maxL := 1) (ret := none) (by decide) rfl ?_
  intro p e s m args below meth c s₁ B hml hv
  obtain ⟨rfl, hP, hK, hD0⟩ := hv
  have hx := B.exec
  have hb := B.bytes
  have hr := B.returns
  have hts := atoms_spec (ws := WSY y_M_clear b_M_clear 1 none) B.pre
  have hg : ∀ w ∈ GW, w.before _ s = true := fun w h => hts w (List.mem_cons_of_mem _ h)
  have hown : s.vm.findClass "LineGolombModel" = some m.cls := findClass_of_methodNamed B.named
  have hlocks := B.notSynchronized
  obtain ⟨A, hAe⟩ : ∃ A, A = ad [(y, .inr (5, [.int th, .int (nI bi), .int (nI ne), .int (nI li), .int (nI sp), .int (nI q), .ref ms, .ref mw, .ref mu, .ref mc, .ref mn, .int en, .int (nI sz), .ref mr, .int (nI wa), .ref mq, .int la, .ref md, .int at0, .int lk])), (ms, .inl (cI, 2, .inl st)), (mw, .inl (cI, 2, .inl lw)), (mu, .inl (cI, 4, .inl su)), (mc, .inl (cI, 4, .inl cu)), (mn, .inl (cI, 4, .inl nu))] := ⟨_, rfl⟩
  have hD : va_D A [(y, .inr (5, [.int th, .int (nI bi), .int (nI ne), .int (nI li), .int (nI sp), .int (nI q), .ref ms, .ref mw, .ref mu, .ref mc, .ref mn, .int en, .int (nI sz), .ref mr, .int (nI wa), .ref mq, .int la, .ref md, .int at0, .int lk])), (ms, .inl (cI, 2, .inl st)), (mw, .inl (cI, 2, .inl lw)), (mu, .inl (cI, 4, .inl su)), (mc, .inl (cI, 4, .inl cu)), (mn, .inl (cI, 4, .inl nu))] := by rw [hAe]; exact va_D_ad hD0
  have hS : va_S A s.heap s.heap [] := va_S.rf
  have hl := lv_entry ([.ref y]) (n := 1) (Nat.le_of_ble_eq_true rfl)
  rw [lg_entry_eq]
  generalize (lg_sl ([.ref y]) ++ List.replicate (1 - (lg_sl ([.ref y])).length) Slot.unset).toArray = ls at hl ⊢
  have hl : lv_has ls 1 [(0, .ref y)] := hl
  refine lv_aload_n hx hb d_M_clear_0 rfl (lv_at hl 0 rfl) ?_
  refine lv_iconst (v := 0) hx hb d_M_clear_1 (by decide) ?_
  refine va_put (D := D) (ci := 5) (v := .int 0) (ty := .int) (C := R_M) (T := T_M) (N := 20) hx hb hg in_M ty_M tok_M nm_M hown hK hP hD hS 0 rfl rfl 0 (by decide) (hg _ gw_524) (fun _ h9 => h9) rfl (by decide +kernel) (rfl) (rfl) (Nat.le_of_ble_eq_true rfl) d_M_clear_2 (fun H locs hP hD hS => ?_)
  have hP : va_P D CLS [(y, .inr (5, [.int 0, .int (nI bi), .int (nI ne), .int (nI li), .int (nI sp), .int (nI q), .ref ms, .ref mw, .ref mu, .ref mc, .ref mn, .int en, .int (nI sz), .ref mr, .int (nI wa), .ref mq, .int la, .ref md, .int at0, .int lk])), (ms, .inl (cI, 2, .inl st)), (mw, .inl (cI, 2, .inl lw)), (mu, .inl (cI, 4, .inl su)), (mc, .inl (cI, 4, .inl cu)), (mn, .inl (cI, 4, .inl nu))] H := hP
  have hD : va_D A [(y, .inr (5, [.int 0, .int (nI bi), .int (nI ne), .int (nI li), .int (nI sp), .int (nI q), .ref ms, .ref mw, .ref mu, .ref mc, .ref mn, .int en, .int (nI sz), .ref mr, .int (nI wa), .ref mq, .int la, .ref md, .int at0, .int lk])), (ms, .inl (cI, 2, .inl st)), (mw, .inl (cI, 2, .inl lw)), (mu, .inl (cI, 4, .inl su)), (mc, .inl (cI, 4, .inl cu)), (mn, .inl (cI, 4, .inl nu))] := hD
  refine lv_aload_n hx hb d_M_clear_5 rfl (lv_at hl 0 rfl) ?_
  have hPc := hP.sub (ws' := [(y, .inr (5, [.int 0, .int (nI bi), .int (nI ne), .int (nI li), .int (nI sp), .int (nI q), .ref ms, .ref mw, .ref mu, .ref mc, .ref mn, .int en, .int (nI sz), .ref mr, .int (nI wa), .ref mq, .int la, .ref md, .int at0, .int lk])), (ms, .inl (cI, 2, .inl st)), (mw, .inl (cI, 2, .inl lw)), (mu, .inl (cI, 4, .inl su)), (mc, .inl (cI, 4, .inl cu)), (mn, .inl (cI, 4, .inl nu))]) [0, 1, 2, 3, 4, 5] rfl
  have hDc := hD.sub (ws' := [(y, .inr (5, [.int 0, .int (nI bi), .int (nI ne), .int (nI li), .int (nI sp), .int (nI q), .ref ms, .ref mw, .ref mu, .ref mc, .ref mn, .int en, .int (nI sz), .ref mr, .int (nI wa), .ref mq, .int la, .ref md, .int at0, .int lk])), (ms, .inl (cI, 2, .inl st)), (mw, .inl (cI, 2, .inl lw)), (mu, .inl (cI, 4, .inl su)), (mc, .inl (cI, 4, .inl cu)), (mn, .inl (cI, 4, .inl nu))]) [0, 1, 2, 3, 4, 5] (by decide) rfl
  have hKc := hK.sub (tys' := [(cI, .int)]) [0] rfl
  refine mcv (va_runV (As := []) (rest := []) ⟨hx, hb, hml, hown, hg⟩ (c_M_begin l D y ms mw mu mc mn mr mq md bi ne li sp q sz wa 0 en la at0 lk cI st lw su cu nu hsp) (cwV 0 hg (gV gw_520 gw_522 gs_12 gw_7 gw_523) rfl rfl rfl (by decide +kernel) ⟨Nat.le_of_ble_eq_true rfl, Nat.le_of_ble_eq_true rfl⟩) ⟨fun a U g mk q => by obtain ⟨q0, qP, qK, qD⟩ := q; exact ⟨q0, qP, va_K.moved (u := U) (U := U.calling g mk a) (Vm.Alike.refl U.vm) qK, qD⟩, va_recv hKc hPc (ci := 5) (q0 := 0) rfl rfl, fun U hU hW => ⟨rfl, by rw [hU]; exact hPc, va_K.moved hW.alike hKc, hDc.weaken (fun _ _ _ _ => trivial)⟩⟩ rfl rfl hl.1 rfl (lv_room (Nat.le_of_ble_eq_true rfl)) d_M_clear_6 (⟨Nat.le_of_ble_eq_true rfl, Nat.le_of_ble_eq_true rfl⟩)) hS hP hD [0, 1, 2, 3, 4, 5] rfl rfl rfl (fun H locs hP hD hS => ?_)
  have hP : va_P D CLS [(y, .inr (5, [.int 0, .int (nI bi), .int (nI ne), .int (nI li), .int (nI sp), .int (nI q), .ref ms, .ref mw, .ref mu, .ref mc, .ref mn, .int 0, .int (nI 0), .ref mr, .int (nI 0), .ref mq, .int la, .ref md, .int at0, .int lk])), (ms, .inl (cI, 2, .inl (upd (upd st 0 0) 1 0))), (mw, .inl (cI, 2, .inl (upd (upd lw 0 0) 1 0))), (mu, .inl (cI, 4, .inl (upd (upd (upd (upd su 0 (nI (if (sp + 32) / 64 < 2 then 2 else (sp + 32) / 64))) 1 (nI (if (sp + 32) / 64 < 2 then 2 else (sp + 32) / 64))) 2 (nI (if (sp + 32) / 64 < 2 then 2 else (sp + 32) / 64))) 3 (nI (if (sp + 32) / 64 < 2 then 2 else (sp + 32) / 64))))), (mc, .inl (cI, 4, .inl (upd (upd (upd (upd cu 0 1) 1 1) 2 1) 3 1))), (mn, .inl (cI, 4, .inl (upd (upd (upd (upd nu 0 0) 1 0) 2 0) 3 0)))] H := hP
  have hD : va_D A [(y, .inr (5, [.int 0, .int (nI bi), .int (nI ne), .int (nI li), .int (nI sp), .int (nI q), .ref ms, .ref mw, .ref mu, .ref mc, .ref mn, .int 0, .int (nI 0), .ref mr, .int (nI 0), .ref mq, .int la, .ref md, .int at0, .int lk])), (ms, .inl (cI, 2, .inl (upd (upd st 0 0) 1 0))), (mw, .inl (cI, 2, .inl (upd (upd lw 0 0) 1 0))), (mu, .inl (cI, 4, .inl (upd (upd (upd (upd su 0 (nI (if (sp + 32) / 64 < 2 then 2 else (sp + 32) / 64))) 1 (nI (if (sp + 32) / 64 < 2 then 2 else (sp + 32) / 64))) 2 (nI (if (sp + 32) / 64 < 2 then 2 else (sp + 32) / 64))) 3 (nI (if (sp + 32) / 64 < 2 then 2 else (sp + 32) / 64))))), (mc, .inl (cI, 4, .inl (upd (upd (upd (upd cu 0 1) 1 1) 2 1) 3 1))), (mn, .inl (cI, 4, .inl (upd (upd (upd (upd nu 0 0) 1 0) 2 0) 3 0)))] := hD
  exact W.vret hx hb hr (fun t ht hW => ⟨rfl, by rw [ht]; exact hP, (hAe ▸ hS).F ht⟩) (hAe ▸ hS).2.2 d_M_clear_9
