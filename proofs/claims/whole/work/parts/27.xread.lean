/-! LineGolomb: readRun, readInterrupt, where they return -/
set_option maxHeartbeats 4000000 in
set_option maxRecDepth 100000 in
theorem c_X_readRunW (l : Launch) (D : va_G) (x sw sr br bq bi ne li sp q : Nat) (lb : Int32) (e0 e1 pl rw qa : Nat) (cB : ClassId) (fi h : Nat) (g : Nat → Int32) (tw n0 m0 : Nat) (hf : fi < 1000) (hh : h ≤ 1000) (hpl : pl < 32) (hn1 : 1 ≤ n0) (hn : n0 ≤ 65535) (hm1 : ∀ j, j < m0 → 2 ^ wdt (rac pl j) < rrc n0 pl j) (hmb : ∀ j, j < m0 → ¬ qb g fi h j = 0) (hmh : m0 ≤ h) (hW0 : m0 = h) : Met l y_X_readRun (WSY y_X_readRun b_X_readRun 6 (some .int)) ({ frames := 5, cells := 0, slots := 0, locals := 117 }) (va_Pc [.ref x, .int (nI n0)] (fun U => va_P D CLS [(x, .inr (4, [.int (nI bi), .int (nI ne), .int (nI li), .int (nI sp), .int (nI q), .ref sw, .ref sr, .ref br, .ref bq, .int lb])), (sr, .inr (3, [.ref e0, .ref e1, .int (nI pl), .int (nI rw)])), (bq, .inr (0, [.ref qa, .int (nI fi), .int (nI h)])), (qa, .inl (cB, 1000, .inl g))] U.heap ∧ va_K D CLS [(cB, .byte)] U ∧ va_D (fun _ => True) [(x, .inr (4, [.int (nI bi), .int (nI ne), .int (nI li), .int (nI sp), .int (nI q), .ref sw, .ref sr, .ref br, .ref bq, .int lb])), (sr, .inr (3, [.ref e0, .ref e1, .int (nI pl), .int (nI rw)])), (bq, .inr (0, [.ref qa, .int (nI fi), .int (nI h)])), (qa, .inl (cB, 1000, .inl g))] ∧ EV (ad [(x, .inr (4, [.int (nI bi), .int (nI ne), .int (nI li), .int (nI sp), .int (nI q), .ref sw, .ref sr, .ref br, .ref bq, .int lb])), (sr, .inr (3, [.ref e0, .ref e1, .int (nI pl), .int (nI rw)])), (bq, .inr (0, [.ref qa, .int (nI fi), .int (nI h)])), (qa, .inl (cB, 1000, .inl g))]) tw U)) (QM (some (.int (-1))) [(x, .inr (4, [.int (nI bi), .int (nI ne), .int (nI li), .int (nI sp), .int (nI q), .ref sw, .ref sr, .ref br, .ref bq, .int lb])), (sr, .inr (3, [.ref e0, .ref e1, .int (nI pl), .int (nI rw)])), (bq, .inr (0, [.ref qa, .int (nI fi), .int (nI h)])), (qa, .inl (cB, 1000, .inl g))] [(x, .inr (4, [.int (nI bi), .int (nI ne), .int (nI li), .int (nI sp), .int (nI q), .ref sw, .ref sr, .ref br, .ref bq, .int lb])), (sr, .inr (3, [.ref e0, .ref e1, .int (nI pl), .int (nI rw)])), (bq, .inr (0, [.ref qa, .int (nI fi), .int (nI h)])), (qa, .inl (cB, 1000, .inl g))] D) 0 0 (ad [(x, .inr (4, [.int (nI bi), .int (nI ne), .int (nI li), .int (nI sp), .int (nI q), .ref sw, .ref sr, .ref br, .ref bq, .int lb])), (sr, .inr (3, [.ref e0, .ref e1, .int (nI pl), .int (nI rw)])), (bq, .inr (0, [.ref qa, .int (nI fi), .int (nI h)])), (qa, .inl (cB, 1000, .inl g))]) := by
  refine Met.ofW (cc := b_X_readRun) (maxL := 6) (ret := (some .int)) (by decide) rfl ?_
  intro p e s m args below meth c s₁ B hml hv
  obtain ⟨rfl, hP, hK, hD0, hE⟩ := hv
  have hx := B.exec
  have hb := B.bytes
  have hr := B.returns
  have hts := atoms_spec (ws := WSY y_X_readRun b_X_readRun 6 (some .int)) B.pre
  have hg : ∀ w ∈ GW, w.before _ s = true := fun w h => hts w (List.mem_cons_of_mem _ h)
  have hown : s.vm.findClass "LineGolomb" = some m.cls := findClass_of_methodNamed B.named
  have hlocks := B.notSynchronized
  obtain ⟨A, hAe⟩ : ∃ A, A = ad [(x, .inr (4, [.int (nI bi), .int (nI ne), .int (nI li), .int (nI sp), .int (nI q), .ref sw, .ref sr, .ref br, .ref bq, .int lb])), (sr, .inr (3, [.ref e0, .ref e1, .int (nI pl), .int (nI rw)])), (bq, .inr (0, [.ref qa, .int (nI fi), .int (nI h)])), (qa, .inl (cB, 1000, .inl g))] := ⟨_, rfl⟩
  have hD : va_D A [(x, .inr (4, [.int (nI bi), .int (nI ne), .int (nI li), .int (nI sp), .int (nI q), .ref sw, .ref sr, .ref br, .ref bq, .int lb])), (sr, .inr (3, [.ref e0, .ref e1, .int (nI pl), .int (nI rw)])), (bq, .inr (0, [.ref qa, .int (nI fi), .int (nI h)])), (qa, .inl (cB, 1000, .inl g))] := by rw [hAe]; exact va_D_ad hD0
  have hS : va_S A s.heap s.heap [] := va_S.rf
  rw [← hAe] at hE
  have hl := lv_entry ([.ref x, .int (nI n0)]) (n := 6) (Nat.le_of_ble_eq_true rfl)
  rw [lg_entry_eq]
  generalize (lg_sl ([.ref x, .int (nI n0)]) ++ List.replicate (6 - (lg_sl ([.ref x, .int (nI n0)])).length) Slot.unset).toArray = ls at hl ⊢
  have hl : lv_has ls 6 [(0, .ref x), (1, .int (nI n0))] := hl
  refine lv_iload_n hx hb d_X_readRun_0 rfl (lv_at hl 1 rfl) ?_
  refine lv_iconst (v := 1) hx hb d_X_readRun_1 (by decide) ?_
  refine lv_icmp_lt (tgt := 11) hx hb d_X_readRun_2 (by decide) (fun c_1 => ?_) (fun c_1 => ?_)
  · skip
    exact absurd ((nI_ltI (b := 1) (by omega) (by omega)).mp c_1) (by omega)
  · skip
    refine lv_iload_n hx hb d_X_readRun_5 rfl (lv_at hl 1 rfl) ?_
    refine lv_ldc (v := 65535) hx hb hown (hg _ gw_317) d_X_readRun_6 ?_
    refine lv_icmp_le (tgt := 21) hx hb d_X_readRun_8 (by decide) (fun c_2 => ?_) (fun c_2 => ?_)
    · skip
      refine lv_iload_n hx hb d_X_readRun_21 rfl (lv_at hl 1 rfl) ?_
      refine lv_istore_n (lv' := [(2, .int (nI n0)), (0, .ref x), (1, .int (nI n0))]) hx hb d_X_readRun_22 rfl hl (by decide) rfl (fun ls hl => ?_)
      refine lv_aload_n hx hb d_X_readRun_23 rfl (lv_at hl 1 rfl) ?_
      refine va_get (D := D) (ci := 4) (v := .ref sr) (C := R_X) (T := T_X) (N := 10) hx hb hg in_X hown hK hP 0 rfl rfl 6 (by decide) (hg _ gw_122) (fun _ h9 => h9) rfl d_X_readRun_24 ?_
      refine va_getN (D := D) (ci := 3) (v := .int (nI pl)) (C := R_S) (T := T_S) (N := 4) hx hb hg in_S hown hK hP 1 rfl rfl 2 (by decide) (va_Nw.use rfl (hE.nw nw_104)) (fun _ h9 => h9) rfl d_X_readRun_27 ?_
      refine lv_istore_n (lv' := [(3, .int (nI pl)), (2, .int (nI n0)), (0, .ref x), (1, .int (nI n0))]) hx hb d_X_readRun_30 rfl hl (by decide) rfl (fun ls hl => ?_)
      refine lv_iconst (v := 0) hx hb d_X_readRun_31 (by decide) ?_
      refine lv_istore (lv' := [(4, .int 0), (3, .int (nI pl)), (2, .int (nI n0)), (0, .ref x), (1, .int (nI n0))]) hx hb d_X_readRun_32 hl (by decide) rfl (fun ls hl => ?_)
      have loop : ∀ (d j : Nat), j + d = m0 → ∀ (ls : Array Slot), lv_has ls 6 [(4, .int (nI j)), (3, .int (nI (rac pl j))), (2, .int (nI (rrc n0 pl j))), (0, .ref x), (1, .int (nI n0))] → W p l e (headSpec (WSY y_X_readRun b_X_readRun 6 (some .int)) ({ frames := 5, cells := 0, slots := 0, locals := 117 })).room s m ([.ref x, .int (nI n0)] : List Value).toArray below meth c s.heap [] 0 0 (MQ below (QM (some (.int (-1))) [(x, .inr (4, [.int (nI bi), .int (nI ne), .int (nI li), .int (nI sp), .int (nI q), .ref sw, .ref sr, .ref br, .ref bq, .int lb])), (sr, .inr (3, [.ref e0, .ref e1, .int (nI pl), .int (nI rw)])), (bq, .inr (0, [.ref qa, .int (nI fi), .int (nI h)])), (qa, .inl (cB, 1000, .inl g))] [(x, .inr (4, [.int (nI bi), .int (nI ne), .int (nI li), .int (nI sp), .int (nI q), .ref sw, .ref sr, .ref br, .ref bq, .int lb])), (sr, .inr (3, [.ref e0, .ref e1, .int (nI pl), .int (nI rw)])), (bq, .inr (0, [.ref qa, .int (nI fi), .int (nI h)])), (qa, .inl (cB, 1000, .inl g))] D) ([.ref x, .int (nI n0)] : List Value).toArray s 0 0 (ad [(x, .inr (4, [.int (nI bi), .int (nI ne), .int (nI li), .int (nI sp), .int (nI q), .ref sw, .ref sr, .ref br, .ref bq, .int lb])), (sr, .inr (3, [.ref e0, .ref e1, .int (nI pl), .int (nI rw)])), (bq, .inr (0, [.ref qa, .int (nI fi), .int (nI h)])), (qa, .inl (cB, 1000, .inl g))])) (F0 m 34 ls []) := by
        intro d
        induction d with
        | zero =>
          intro j hj ls hl
          obtain rfl : m0 = j := by omega
          have hwj := wdt_le (rac pl m0) (rac_lt hpl m0)
          have hpj := pw15 hwj
          have hrj := rrc_le n0 pl m0
          refine lv_iload hx hb d_X_readRun_34 (lv_at hl 0 rfl) ?_
          refine lv_aload_n hx hb d_X_readRun_36 rfl (lv_at hl 3 rfl) ?_
          refine va_get (D := D) (ci := 4) (v := .ref bq) (C := R_X) (T := T_X) (N := 10) hx hb hg in_X hown hK hP 0 rfl rfl 8 (by decide) (hg _ gw_124) (fun _ h9 => h9) rfl d_X_readRun_37 ?_
          refine va_getN (D := D) (ci := 0) (v := .int (nI h)) (C := R_Q) (T := T_Q) (N := 3) hx hb hg in_Q hown hK hP 2 rfl rfl 2 (by decide) (va_Nw.use rfl (hE.nw nw_46)) (fun _ h9 => h9) rfl d_X_readRun_40 ?_
          refine lv_icmp_ge (tgt := 126) hx hb d_X_readRun_43 (by decide) (fun c_3 => ?_) (fun c_3 => ?_)
          · skip
            refine lv_iconst (v := (-1)) hx hb d_X_readRun_126 (by decide) ?_
            exact W.iret (v := (-1)) hx hb hr (fun t ht hW => ⟨rfl, by rw [ht]; exact hP, (hAe ▸ hS).F ht⟩) (hAe ▸ hS).2.2 d_X_readRun_127
          · skip
            exact absurd (nI_le (by omega) (by omega)) c_3
        | succ d ih =>
          intro j hj ls hl
          have hwj := wdt_le (rac pl j) (rac_lt hpl j)
          have hpj := pw15 hwj
          have hrj := rrc_le n0 pl j
          refine lv_iload hx hb d_X_readRun_34 (lv_at hl 0 rfl) ?_
          refine lv_aload_n hx hb d_X_readRun_36 rfl (lv_at hl 3 rfl) ?_
          refine va_get (D := D) (ci := 4) (v := .ref bq) (C := R_X) (T := T_X) (N := 10) hx hb hg in_X hown hK hP 0 rfl rfl 8 (by decide) (hg _ gw_124) (fun _ h9 => h9) rfl d_X_readRun_37 ?_
          refine va_getN (D := D) (ci := 0) (v := .int (nI h)) (C := R_Q) (T := T_Q) (N := 3) hx hb hg in_Q hown hK hP 2 rfl rfl 2 (by decide) (va_Nw.use rfl (hE.nw nw_46)) (fun _ h9 => h9) rfl d_X_readRun_40 ?_
          refine lv_icmp_ge (tgt := 126) hx hb d_X_readRun_43 (by decide) (fun c_4 => ?_) (fun c_4 => ?_)
          · skip
            exact absurd ((nI_leI (by omega) (by omega)).mp c_4) (by omega)
          · skip
            refine lv_aload_n hx hb d_X_readRun_46 rfl (lv_at hl 3 rfl) ?_
            refine va_get (D := D) (ci := 4) (v := .ref bq) (C := R_X) (T := T_X) (N := 10) hx hb hg in_X hown hK hP 0 rfl rfl 8 (by decide) (hg _ gw_124) (fun _ h9 => h9) rfl d_X_readRun_47 ?_
            refine lv_iload hx hb d_X_readRun_50 (lv_at hl 0 rfl) ?_
            have hPc := hP.sub (ws' := [(bq, .inr (0, [.ref qa, .int (nI fi), .int (nI h)])), (qa, .inl (cB, 1000, .inl g))]) [2, 3] rfl
            have hKc := hK.sub (tys' := [(cB, .byte)]) [0] rfl
            refine pci (va_runV (As := [.int (nI j)]) (rest := []) ⟨hx, hb, hml, hown, hg⟩ (c_Q_look l D bq qa cB fi h g j hf hh (by omega)) (cwV 1 hg (gV gw_461 gw_446 gw_447 gw_3 gw_448) rfl rfl rfl (by decide +kernel) ⟨Nat.le_of_ble_eq_true rfl, Nat.le_of_ble_eq_true rfl⟩) ⟨fun a U g mk q => by obtain ⟨q0, qP, qK⟩ := q; exact ⟨q0, qP, va_K.moved (u := U) (U := U.calling g mk a) (Vm.Alike.refl U.vm) qK⟩, va_recv hKc hPc (ci := 0) (q0 := 0) rfl rfl, fun U hU hW => ⟨rfl, by rw [hU]; exact hPc, va_K.moved hW.alike hKc⟩⟩ rfl rfl hl.1 rfl (lv_room (Nat.le_of_ble_eq_true rfl)) d_X_readRun_52 (⟨Nat.le_of_ble_eq_true rfl, Nat.le_of_ble_eq_true rfl⟩)) ?_
            refine lv_if_ne (tgt := 68) hx hb d_X_readRun_55 (by decide) (fun c_5 => ?_) (fun c_5 => ?_)
            · skip
              refine lv_iconst (v := 1) hx hb d_X_readRun_68 (by decide) ?_
              refine lv_iload_n hx hb d_X_readRun_69 rfl (lv_at hl 1 rfl) ?_
              have hPc := hP.sub (ws' := []) [] rfl
              have hKc := hK.sub (tys' := []) [] rfl
              refine pci (va_runS (As := [.int (nI (rac pl j))]) (rest := [.int 1]) ⟨hx, hb, hml, hown, hg⟩ (c_X_widthOf l D tw (rac pl j) (rac_lt hpl j)) (va_cwS 1 hg (gS gw_319 gw_320 gw_1 gw_321) rfl rfl rfl (by decide +kernel) ⟨Nat.le_of_ble_eq_true rfl, Nat.le_of_ble_eq_true rfl⟩) ⟨fun a U g mk q => by obtain ⟨q0, qP, qK, qX⟩ := q; exact ⟨q0, qP, va_K.moved (u := U) (U := U.calling g mk a) (Vm.Alike.refl U.vm) qK, qX.blind⟩, fun U hU hW => ⟨rfl, by rw [hU]; exact hPc, va_K.moved hW.alike hKc, hE.call hS noF hU hW⟩⟩ rfl rfl hl.1 rfl (lv_room (Nat.le_of_ble_eq_true rfl)) d_X_readRun_70 (⟨Nat.le_of_ble_eq_true rfl, Nat.le_of_ble_eq_true rfl⟩)) ?_
              refine lv_ishl hx hb d_X_readRun_73 ?_
              refine tpi (y := nI (2 ^ wdt (rac pl j))) (sh1 (by omega)) ?_
              refine lv_istore (lv' := [(5, .int (nI (2 ^ wdt (rac pl j)))), (4, .int (nI j)), (3, .int (nI (rac pl j))), (2, .int (nI (rrc n0 pl j))), (0, .ref x), (1, .int (nI n0))]) hx hb d_X_readRun_74 hl (by decide) rfl (fun ls hl => ?_)
              refine lv_iload hx hb d_X_readRun_76 (lv_at hl 0 rfl) ?_
              refine lv_iload_n hx hb d_X_readRun_78 rfl (lv_at hl 3 rfl) ?_
              refine lv_icmp_gt (tgt := 95) hx hb d_X_readRun_79 (by decide) (fun c_6 => ?_) (fun c_6 => ?_)
              · skip
                exact absurd ((nI_ltI (by omega) (by omega)).mp c_6) (by have := hm1 j (by omega); omega)
              · skip
                have hmj := hm1 j (by omega)
                refine lv_iload_n hx hb d_X_readRun_82 rfl (lv_at hl 3 rfl) ?_
                refine lv_iload hx hb d_X_readRun_83 (lv_at hl 0 rfl) ?_
                refine lv_isub hx hb d_X_readRun_85 ?_
                refine tpi (y := nI (rrc n0 pl (j + 1))) (pk_sub (by omega)) ?_
                refine lv_istore_n (lv' := [(2, .int (nI (rrc n0 pl (j + 1)))), (5, .int (nI (2 ^ wdt (rac pl j)))), (4, .int (nI j)), (3, .int (nI (rac pl j))), (0, .ref x), (1, .int (nI n0))]) hx hb d_X_readRun_86 rfl hl (by decide) rfl (fun ls hl => ?_)
                refine lv_iload_n hx hb d_X_readRun_87 rfl (lv_at hl 3 rfl) ?_
                have hPc := hP.sub (ws' := []) [] rfl
                have hKc := hK.sub (tys' := []) [] rfl
                refine pci (va_runS (As := [.int (nI (rac pl j))]) (rest := []) ⟨hx, hb, hml, hown, hg⟩ (c_X_stepAbove l D tw (rac pl j) (rac_lt hpl j)) (va_cwS 1 hg (gS gw_324 gw_325 gw_1 gw_326) rfl rfl rfl (by decide +kernel) ⟨Nat.le_of_ble_eq_true rfl, Nat.le_of_ble_eq_true rfl⟩) ⟨fun a U g mk q => by obtain ⟨q0, qP, qK, qX⟩ := q; exact ⟨q0, qP, va_K.moved (u := U) (U := U.calling g mk a) (Vm.Alike.refl U.vm) qK, qX.blind⟩, fun U hU hW => ⟨rfl, by rw [hU]; exact hPc, va_K.moved hW.alike hKc, hE.call hS noF hU hW⟩⟩ rfl rfl hl.1 rfl (lv_room (Nat.le_of_ble_eq_true rfl)) d_X_readRun_88 (⟨Nat.le_of_ble_eq_true rfl, Nat.le_of_ble_eq_true rfl⟩)) ?_
                refine lv_istore_n (lv' := [(3, .int (nI (rac pl (j + 1)))), (2, .int (nI (rrc n0 pl (j + 1)))), (5, .int (nI (2 ^ wdt (rac pl j)))), (4, .int (nI j)), (0, .ref x), (1, .int (nI n0))]) hx hb d_X_readRun_91 rfl hl (by decide) rfl (fun ls hl => ?_)
                refine lv_goto (tgt := 97) hx hb d_X_readRun_92 (by decide) ?_
                refine lv_iload_n hx hb d_X_readRun_97 rfl (lv_at hl 1 rfl) ?_
                refine lv_if_ne (tgt := 120) hx hb d_X_readRun_98 (by decide) (fun c_7 => ?_) (fun c_7 => ?_)
                · skip
                  refine lv_iinc (v := nI (j + 1)) (lv' := [(4, .int (nI (j + 1))), (3, .int (nI (rac pl (j + 1)))), (2, .int (nI (rrc n0 pl (j + 1)))), (5, .int (nI (2 ^ wdt (rac pl j)))), (0, .ref x), (1, .int (nI n0))]) hx hb d_X_readRun_120 hl (k := 3) rfl (nI_1 j) (by decide) rfl (fun ls hl => ?_)
                  refine lv_goto (tgt := 34) hx hb d_X_readRun_123 (by decide) ?_
                  exact ih (j + 1) (by omega) ls (lv_sub hl [0, 1, 2, 4, 5] rfl)
                · skip
                  exact absurd c_7 (nI_ne0 (by show 0 < rrc n0 pl j - 2 ^ wdt (rac pl j); omega) (by have := rrc_le n0 pl (j + 1); omega))
            · skip
              exact absurd c_5 (hmb j (by omega))
      exact loop m0 0 (by omega) ls hl
    · skip
      exact absurd (nI_le hn (by omega)) c_2
set_option maxHeartbeats 4000000 in
set_option maxRecDepth 100000 in
theorem c_X_readRunZW (l : Launch) (D : va_G) (x sw sr br bq bi ne li sp q : Nat) (lb : Int32) (e0 e1 pl rw qa : Nat) (cB : ClassId) (fi h : Nat) (g : Nat → Int32) (tw n0 m0 : Nat) (hf : fi < 1000) (hh : h ≤ 1000) (hpl : pl < 32) (hn1 : 1 ≤ n0) (hn : n0 ≤ 65535) (hm1 : ∀ j, j < m0 → 2 ^ wdt (rac pl j) < rrc n0 pl j) (hmb : ∀ j, j < m0 → ¬ qb g fi h j = 0) (hmh : m0 ≤ h) (hmh2 : m0 < h) (hz : qb g fi h m0 = 0) (hw : h < m0 + 1 + wdt (rac pl m0)) : Met l y_X_readRun (WSY y_X_readRun b_X_readRun 6 (some .int)) ({ frames := 5, cells := 0, slots := 0, locals := 117 }) (va_Pc [.ref x, .int (nI n0)] (fun U => va_P D CLS [(x, .inr (4, [.int (nI bi), .int (nI ne), .int (nI li), .int (nI sp), .int (nI q), .ref sw, .ref sr, .ref br, .ref bq, .int lb])), (sr, .inr (3, [.ref e0, .ref e1, .int (nI pl), .int (nI rw)])), (bq, .inr (0, [.ref qa, .int (nI fi), .int (nI h)])), (qa, .inl (cB, 1000, .inl g))] U.heap ∧ va_K D CLS [(cB, .byte)] U ∧ va_D (fun _ => True) [(x, .inr (4, [.int (nI bi), .int (nI ne), .int (nI li), .int (nI sp), .int (nI q), .ref sw, .ref sr, .ref br, .ref bq, .int lb])), (sr, .inr (3, [.ref e0, .ref e1, .int (nI pl), .int (nI rw)])), (bq, .inr (0, [.ref qa, .int (nI fi), .int (nI h)])), (qa, .inl (cB, 1000, .inl g))] ∧ EV (ad [(x, .inr (4, [.int (nI bi), .int (nI ne), .int (nI li), .int (nI sp), .int (nI q), .ref sw, .ref sr, .ref br, .ref bq, .int lb])), (sr, .inr (3, [.ref e0, .ref e1, .int (nI pl), .int (nI rw)])), (bq, .inr (0, [.ref qa, .int (nI fi), .int (nI h)])), (qa, .inl (cB, 1000, .inl g))]) tw U)) (QM (some (.int (-1))) [(x, .inr (4, [.int (nI bi), .int (nI ne), .int (nI li), .int (nI sp), .int (nI q), .ref sw, .ref sr, .ref br, .ref bq, .int lb])), (sr, .inr (3, [.ref e0, .ref e1, .int (nI pl), .int (nI rw)])), (bq, .inr (0, [.ref qa, .int (nI fi), .int (nI h)])), (qa, .inl (cB, 1000, .inl g))] [(x, .inr (4, [.int (nI bi), .int (nI ne), .int (nI li), .int (nI sp), .int (nI q), .ref sw, .ref sr, .ref br, .ref bq, .int lb])), (sr, .inr (3, [.ref e0, .ref e1, .int (nI pl), .int (nI rw)])), (bq, .inr (0, [.ref qa, .int (nI fi), .int (nI h)])), (qa, .inl (cB, 1000, .inl g))] D) 0 0 (ad [(x, .inr (4, [.int (nI bi), .int (nI ne), .int (nI li), .int (nI sp), .int (nI q), .ref sw, .ref sr, .ref br, .ref bq, .int lb])), (sr, .inr (3, [.ref e0, .ref e1, .int (nI pl), .int (nI rw)])), (bq, .inr (0, [.ref qa, .int (nI fi), .int (nI h)])), (qa, .inl (cB, 1000, .inl g))]) := by
  refine Met.ofW (cc := b_X_readRun) (maxL := 6) (ret := (some .int)) (by decide) rfl ?_
  intro p e s m args below meth c s₁ B hml hv
  obtain ⟨rfl, hP, hK, hD0, hE⟩ := hv
  have hx := B.exec
  have hb := B.bytes
  have hr := B.returns
  have hts := atoms_spec (ws := WSY y_X_readRun b_X_readRun 6 (some .int)) B.pre
  have hg : ∀ w ∈ GW, w.before _ s = true := fun w h => hts w (List.mem_cons_of_mem _ h)
  have hown : s.vm.findClass "LineGolomb" = some m.cls := findClass_of_methodNamed B.named
  have hlocks := B.notSynchronized
  obtain ⟨A, hAe⟩ : ∃ A, A = ad [(x, .inr (4, [.int (nI bi), .int (nI ne), .int (nI li), .int (nI sp), .int (nI q), .ref sw, .ref sr, .ref br, .ref bq, .int lb])), (sr, .inr (3, [.ref e0, .ref e1, .int (nI pl), .int (nI rw)])), (bq, .inr (0, [.ref qa, .int (nI fi), .int (nI h)])), (qa, .inl (cB, 1000, .inl g))] := ⟨_, rfl⟩
  have hD : va_D A [(x, .inr (4, [.int (nI bi), .int (nI ne), .int (nI li), .int (nI sp), .int (nI q), .ref sw, .ref sr, .ref br, .ref bq, .int lb])), (sr, .inr (3, [.ref e0, .ref e1, .int (nI pl), .int (nI rw)])), (bq, .inr (0, [.ref qa, .int (nI fi), .int (nI h)])), (qa, .inl (cB, 1000, .inl g))] := by rw [hAe]; exact va_D_ad hD0
  have hS : va_S A s.heap s.heap [] := va_S.rf
  rw [← hAe] at hE
  have hl := lv_entry ([.ref x, .int (nI n0)]) (n := 6) (Nat.le_of_ble_eq_true rfl)
  rw [lg_entry_eq]
  generalize (lg_sl ([.ref x, .int (nI n0)]) ++ List.replicate (6 - (lg_sl ([.ref x, .int (nI n0)])).length) Slot.unset).toArray = ls at hl ⊢
  have hl : lv_has ls 6 [(0, .ref x), (1, .int (nI n0))] := hl
  refine lv_iload_n hx hb d_X_readRun_0 rfl (lv_at hl 1 rfl) ?_
  refine lv_iconst (v := 1) hx hb d_X_readRun_1 (by decide) ?_
  refine lv_icmp_lt (tgt := 11) hx hb d_X_readRun_2 (by decide) (fun c_1 => ?_) (fun c_1 => ?_)
  · skip
    exact absurd ((nI_ltI (b := 1) (by omega) (by omega)).mp c_1) (by omega)
  · skip
    refine lv_iload_n hx hb d_X_readRun_5 rfl (lv_at hl 1 rfl) ?_
    refine lv_ldc (v := 65535) hx hb hown (hg _ gw_317) d_X_readRun_6 ?_
    refine lv_icmp_le (tgt := 21) hx hb d_X_readRun_8 (by decide) (fun c_2 => ?_) (fun c_2 => ?_)
    · skip
      refine lv_iload_n hx hb d_X_readRun_21 rfl (lv_at hl 1 rfl) ?_
      refine lv_istore_n (lv' := [(2, .int (nI n0)), (0, .ref x), (1, .int (nI n0))]) hx hb d_X_readRun_22 rfl hl (by decide) rfl (fun ls hl => ?_)
      refine lv_aload_n hx hb d_X_readRun_23 rfl (lv_at hl 1 rfl) ?_
      refine va_get (D := D) (ci := 4) (v := .ref sr) (C := R_X) (T := T_X) (N := 10) hx hb hg in_X hown hK hP 0 rfl rfl 6 (by decide) (hg _ gw_122) (fun _ h9 => h9) rfl d_X_readRun_24 ?_
      refine va_getN (D := D) (ci := 3) (v := .int (nI pl)) (C := R_S) (T := T_S) (N := 4) hx hb hg in_S hown hK hP 1 rfl rfl 2 (by decide) (va_Nw.use rfl (hE.nw nw_104)) (fun _ h9 => h9) rfl d_X_readRun_27 ?_
      refine lv_istore_n (lv' := [(3, .int (nI pl)), (2, .int (nI n0)), (0, .ref x), (1, .int (nI n0))]) hx hb d_X_readRun_30 rfl hl (by decide) rfl (fun ls hl => ?_)
      refine lv_iconst (v := 0) hx hb d_X_readRun_31 (by decide) ?_
      refine lv_istore (lv' := [(4, .int 0), (3, .int (nI pl)), (2, .int (nI n0)), (0, .ref x), (1, .int (nI n0))]) hx hb d_X_readRun_32 hl (by decide) rfl (fun ls hl => ?_)
      have loop : ∀ (d j : Nat), j + d = m0 → ∀ (ls : Array Slot), lv_has ls 6 [(4, .int (nI j)), (3, .int (nI (rac pl j))), (2, .int (nI (rrc n0 pl j))), (0, .ref x), (1, .int (nI n0))] → W p l e (headSpec (WSY y_X_readRun b_X_readRun 6 (some .int)) ({ frames := 5, cells := 0, slots := 0, locals := 117 })).room s m ([.ref x, .int (nI n0)] : List Value).toArray below meth c s.heap [] 0 0 (MQ below (QM (some (.int (-1))) [(x, .inr (4, [.int (nI bi), .int (nI ne), .int (nI li), .int (nI sp), .int (nI q), .ref sw, .ref sr, .ref br, .ref bq, .int lb])), (sr, .inr (3, [.ref e0, .ref e1, .int (nI pl), .int (nI rw)])), (bq, .inr (0, [.ref qa, .int (nI fi), .int (nI h)])), (qa, .inl (cB, 1000, .inl g))] [(x, .inr (4, [.int (nI bi), .int (nI ne), .int (nI li), .int (nI sp), .int (nI q), .ref sw, .ref sr, .ref br, .ref bq, .int lb])), (sr, .inr (3, [.ref e0, .ref e1, .int (nI pl), .int (nI rw)])), (bq, .inr (0, [.ref qa, .int (nI fi), .int (nI h)])), (qa, .inl (cB, 1000, .inl g))] D) ([.ref x, .int (nI n0)] : List Value).toArray s 0 0 (ad [(x, .inr (4, [.int (nI bi), .int (nI ne), .int (nI li), .int (nI sp), .int (nI q), .ref sw, .ref sr, .ref br, .ref bq, .int lb])), (sr, .inr (3, [.ref e0, .ref e1, .int (nI pl), .int (nI rw)])), (bq, .inr (0, [.ref qa, .int (nI fi), .int (nI h)])), (qa, .inl (cB, 1000, .inl g))])) (F0 m 34 ls []) := by
        intro d
        induction d with
        | zero =>
          intro j hj ls hl
          obtain rfl : m0 = j := by omega
          have hwj := wdt_le (rac pl m0) (rac_lt hpl m0)
          have hpj := pw15 hwj
          have hrj := rrc_le n0 pl m0
          refine lv_iload hx hb d_X_readRun_34 (lv_at hl 0 rfl) ?_
          refine lv_aload_n hx hb d_X_readRun_36 rfl (lv_at hl 3 rfl) ?_
          refine va_get (D := D) (ci := 4) (v := .ref bq) (C := R_X) (T := T_X) (N := 10) hx hb hg in_X hown hK hP 0 rfl rfl 8 (by decide) (hg _ gw_124) (fun _ h9 => h9) rfl d_X_readRun_37 ?_
          refine va_getN (D := D) (ci := 0) (v := .int (nI h)) (C := R_Q) (T := T_Q) (N := 3) hx hb hg in_Q hown hK hP 2 rfl rfl 2 (by decide) (va_Nw.use rfl (hE.nw nw_46)) (fun _ h9 => h9) rfl d_X_readRun_40 ?_
          refine lv_icmp_ge (tgt := 126) hx hb d_X_readRun_43 (by decide) (fun c_3 => ?_) (fun c_3 => ?_)
          · skip
            exact absurd ((nI_leI (by omega) (by omega)).mp c_3) (by omega)
          · skip
            refine lv_aload_n hx hb d_X_readRun_46 rfl (lv_at hl 3 rfl) ?_
            refine va_get (D := D) (ci := 4) (v := .ref bq) (C := R_X) (T := T_X) (N := 10) hx hb hg in_X hown hK hP 0 rfl rfl 8 (by decide) (hg _ gw_124) (fun _ h9 => h9) rfl d_X_readRun_47 ?_
            refine lv_iload hx hb d_X_readRun_50 (lv_at hl 0 rfl) ?_
            have hPc := hP.sub (ws' := [(bq, .inr (0, [.ref qa, .int (nI fi), .int (nI h)])), (qa, .inl (cB, 1000, .inl g))]) [2, 3] rfl
            have hKc := hK.sub (tys' := [(cB, .byte)]) [0] rfl
            refine pci (va_runV (As := [.int (nI m0)]) (rest := []) ⟨hx, hb, hml, hown, hg⟩ (c_Q_look l D bq qa cB fi h g m0 hf hh (by omega)) (cwV 1 hg (gV gw_461 gw_446 gw_447 gw_3 gw_448) rfl rfl rfl (by decide +kernel) ⟨Nat.le_of_ble_eq_true rfl, Nat.le_of_ble_eq_true rfl⟩) ⟨fun a U g mk q => by obtain ⟨q0, qP, qK⟩ := q; exact ⟨q0, qP, va_K.moved (u := U) (U := U.calling g mk a) (Vm.Alike.refl U.vm) qK⟩, va_recv hKc hPc (ci := 0) (q0 := 0) rfl rfl, fun U hU hW => ⟨rfl, by rw [hU]; exact hPc, va_K.moved hW.alike hKc⟩⟩ rfl rfl hl.1 rfl (lv_room (Nat.le_of_ble_eq_true rfl)) d_X_readRun_52 (⟨Nat.le_of_ble_eq_true rfl, Nat.le_of_ble_eq_true rfl⟩)) ?_
            refine lv_if_ne (tgt := 68) hx hb d_X_readRun_55 (by decide) (fun c_4 => ?_) (fun c_4 => ?_)
            · skip
              exact absurd hz c_4
            · skip
              refine lv_aload_n hx hb d_X_readRun_58 rfl (lv_at hl 3 rfl) ?_
              refine lv_iload hx hb d_X_readRun_59 (lv_at hl 0 rfl) ?_
              refine lv_iload_n hx hb d_X_readRun_61 rfl (lv_at hl 1 rfl) ?_
              refine lv_iload_n hx hb d_X_readRun_62 rfl (lv_at hl 4 rfl) ?_
              refine lv_iload_n hx hb d_X_readRun_63 rfl (lv_at hl 2 rfl) ?_
              have hPc := hP.sub (ws' := [(x, .inr (4, [.int (nI bi), .int (nI ne), .int (nI li), .int (nI sp), .int (nI q), .ref sw, .ref sr, .ref br, .ref bq, .int lb])), (sr, .inr (3, [.ref e0, .ref e1, .int (nI pl), .int (nI rw)])), (bq, .inr (0, [.ref qa, .int (nI fi), .int (nI h)])), (qa, .inl (cB, 1000, .inl g))]) [0, 1, 2, 3] rfl
              have hDc := hD.sub (ws' := [(x, .inr (4, [.int (nI bi), .int (nI ne), .int (nI li), .int (nI sp), .int (nI q), .ref sw, .ref sr, .ref br, .ref bq, .int lb])), (sr, .inr (3, [.ref e0, .ref e1, .int (nI pl), .int (nI rw)])), (bq, .inr (0, [.ref qa, .int (nI fi), .int (nI h)])), (qa, .inl (cB, 1000, .inl g))]) [0, 1, 2, 3] (by decide) rfl
              have hKc := hK.sub (tys' := [(cB, .byte)]) [0] rfl
              refine mci (va_runV (As := [.int (nI m0), .int (nI (rac pl m0)), .int (nI n0), .int (nI (rrc n0 pl m0))]) (rest := []) ⟨hx, hb, hml, hown, hg⟩ (c_X_takeBrokenRunW l D x sw sr br bq bi ne li sp q lb e0 e1 pl rw qa cB fi h g tw m0 (rac pl m0) n0 (rrc n0 pl m0) hf hh (rac_lt hpl m0) (by omega) hw) (cwV 4 hg (gV gw_462 gw_464 gs_10 gw_1 gw_465) rfl rfl rfl (by decide +kernel) ⟨Nat.le_of_ble_eq_true rfl, Nat.le_of_ble_eq_true rfl⟩) ⟨fun a U g mk q => by obtain ⟨q0, qP, qK, qD, qX⟩ := q; exact ⟨q0, qP, va_K.moved (u := U) (U := U.calling g mk a) (Vm.Alike.refl U.vm) qK, qD, qX.blind⟩, va_recv hKc hPc (ci := 4) (q0 := 0) rfl rfl, fun U hU hW => ⟨rfl, by rw [hU]; exact hPc, va_K.moved hW.alike hKc, hDc.weaken (fun _ _ _ _ => trivial), hE.call hS (ad_sub hD [0, 1, 2, 3] rfl) hU hW⟩⟩ rfl rfl hl.1 rfl (lv_room (Nat.le_of_ble_eq_true rfl)) d_X_readRun_64 (⟨Nat.le_of_ble_eq_true rfl, Nat.le_of_ble_eq_true rfl⟩)) hS hP hD [0, 1, 2, 3] rfl rfl rfl (fun H locs hP hD hS => ?_)
              have hP : va_P D CLS [(x, .inr (4, [.int (nI bi), .int (nI ne), .int (nI li), .int (nI sp), .int (nI q), .ref sw, .ref sr, .ref br, .ref bq, .int lb])), (sr, .inr (3, [.ref e0, .ref e1, .int (nI pl), .int (nI rw)])), (bq, .inr (0, [.ref qa, .int (nI fi), .int (nI h)])), (qa, .inl (cB, 1000, .inl g))] H := hP
              have hD : va_D A [(x, .inr (4, [.int (nI bi), .int (nI ne), .int (nI li), .int (nI sp), .int (nI q), .ref sw, .ref sr, .ref br, .ref bq, .int lb])), (sr, .inr (3, [.ref e0, .ref e1, .int (nI pl), .int (nI rw)])), (bq, .inr (0, [.ref qa, .int (nI fi), .int (nI h)])), (qa, .inl (cB, 1000, .inl g))] := hD
              exact W.iret (v := -1) hx hb hr (fun t ht hW => ⟨rfl, by rw [ht]; exact hP, (hAe ▸ hS).F ht⟩) (hAe ▸ hS).2.2 d_X_readRun_67
        | succ d ih =>
          intro j hj ls hl
          have hwj := wdt_le (rac pl j) (rac_lt hpl j)
          have hpj := pw15 hwj
          have hrj := rrc_le n0 pl j
          refine lv_iload hx hb d_X_readRun_34 (lv_at hl 0 rfl) ?_
          refine lv_aload_n hx hb d_X_readRun_36 rfl (lv_at hl 3 rfl) ?_
          refine va_get (D := D) (ci := 4) (v := .ref bq) (C := R_X) (T := T_X) (N := 10) hx hb hg in_X hown hK hP 0 rfl rfl 8 (by decide) (hg _ gw_124) (fun _ h9 => h9) rfl d_X_readRun_37 ?_
          refine va_getN (D := D) (ci := 0) (v := .int (nI h)) (C := R_Q) (T := T_Q) (N := 3) hx hb hg in_Q hown hK hP 2 rfl rfl 2 (by decide) (va_Nw.use rfl (hE.nw nw_46)) (fun _ h9 => h9) rfl d_X_readRun_40 ?_
          refine lv_icmp_ge (tgt := 126) hx hb d_X_readRun_43 (by decide) (fun c_5 => ?_) (fun c_5 => ?_)
          · skip
            exact absurd ((nI_leI (by omega) (by omega)).mp c_5) (by omega)
          · skip
            refine lv_aload_n hx hb d_X_readRun_46 rfl (lv_at hl 3 rfl) ?_
            refine va_get (D := D) (ci := 4) (v := .ref bq) (C := R_X) (T := T_X) (N := 10) hx hb hg in_X hown hK hP 0 rfl rfl 8 (by decide) (hg _ gw_124) (fun _ h9 => h9) rfl d_X_readRun_47 ?_
            refine lv_iload hx hb d_X_readRun_50 (lv_at hl 0 rfl) ?_
            have hPc := hP.sub (ws' := [(bq, .inr (0, [.ref qa, .int (nI fi), .int (nI h)])), (qa, .inl (cB, 1000, .inl g))]) [2, 3] rfl
            have hKc := hK.sub (tys' := [(cB, .byte)]) [0] rfl
            refine pci (va_runV (As := [.int (nI j)]) (rest := []) ⟨hx, hb, hml, hown, hg⟩ (c_Q_look l D bq qa cB fi h g j hf hh (by omega)) (cwV 1 hg (gV gw_461 gw_446 gw_447 gw_3 gw_448) rfl rfl rfl (by decide +kernel) ⟨Nat.le_of_ble_eq_true rfl, Nat.le_of_ble_eq_true rfl⟩) ⟨fun a U g mk q => by obtain ⟨q0, qP, qK⟩ := q; exact ⟨q0, qP, va_K.moved (u := U) (U := U.calling g mk a) (Vm.Alike.refl U.vm) qK⟩, va_recv hKc hPc (ci := 0) (q0 := 0) rfl rfl, fun U hU hW => ⟨rfl, by rw [hU]; exact hPc, va_K.moved hW.alike hKc⟩⟩ rfl rfl hl.1 rfl (lv_room (Nat.le_of_ble_eq_true rfl)) d_X_readRun_52 (⟨Nat.le_of_ble_eq_true rfl, Nat.le_of_ble_eq_true rfl⟩)) ?_
            refine lv_if_ne (tgt := 68) hx hb d_X_readRun_55 (by decide) (fun c_6 => ?_) (fun c_6 => ?_)
            · skip
              refine lv_iconst (v := 1) hx hb d_X_readRun_68 (by decide) ?_
              refine lv_iload_n hx hb d_X_readRun_69 rfl (lv_at hl 1 rfl) ?_
              have hPc := hP.sub (ws' := []) [] rfl
              have hKc := hK.sub (tys' := []) [] rfl
              refine pci (va_runS (As := [.int (nI (rac pl j))]) (rest := [.int 1]) ⟨hx, hb, hml, hown, hg⟩ (c_X_widthOf l D tw (rac pl j) (rac_lt hpl j)) (va_cwS 1 hg (gS gw_319 gw_320 gw_1 gw_321) rfl rfl rfl (by decide +kernel) ⟨Nat.le_of_ble_eq_true rfl, Nat.le_of_ble_eq_true rfl⟩) ⟨fun a U g mk q => by obtain ⟨q0, qP, qK, qX⟩ := q; exact ⟨q0, qP, va_K.moved (u := U) (U := U.calling g mk a) (Vm.Alike.refl U.vm) qK, qX.blind⟩, fun U hU hW => ⟨rfl, by rw [hU]; exact hPc, va_K.moved hW.alike hKc, hE.call hS noF hU hW⟩⟩ rfl rfl hl.1 rfl (lv_room (Nat.le_of_ble_eq_true rfl)) d_X_readRun_70 (⟨Nat.le_of_ble_eq_true rfl, Nat.le_of_ble_eq_true rfl⟩)) ?_
              refine lv_ishl hx hb d_X_readRun_73 ?_
              refine tpi (y := nI (2 ^ wdt (rac pl j))) (sh1 (by omega)) ?_
              refine lv_istore (lv' := [(5, .int (nI (2 ^ wdt (rac pl j)))), (4, .int (nI j)), (3, .int (nI (rac pl j))), (2, .int (nI (rrc n0 pl j))), (0, .ref x), (1, .int (nI n0))]) hx hb d_X_readRun_74 hl (by decide) rfl (fun ls hl => ?_)
              refine lv_iload hx hb d_X_readRun_76 (lv_at hl 0 rfl) ?_
              refine lv_iload_n hx hb d_X_readRun_78 rfl (lv_at hl 3 rfl) ?_
              refine lv_icmp_gt (tgt := 95) hx hb d_X_readRun_79 (by decide) (fun c_7 => ?_) (fun c_7 => ?_)
              · skip
                exact absurd ((nI_ltI (by omega) (by omega)).mp c_7) (by have := hm1 j (by omega); omega)
              · skip
                have hmj := hm1 j (by omega)
                refine lv_iload_n hx hb d_X_readRun_82 rfl (lv_at hl 3 rfl) ?_
                refine lv_iload hx hb d_X_readRun_83 (lv_at hl 0 rfl) ?_
                refine lv_isub hx hb d_X_readRun_85 ?_
                refine tpi (y := nI (rrc n0 pl (j + 1))) (pk_sub (by omega)) ?_
                refine lv_istore_n (lv' := [(2, .int (nI (rrc n0 pl (j + 1)))), (5, .int (nI (2 ^ wdt (rac pl j)))), (4, .int (nI j)), (3, .int (nI (rac pl j))), (0, .ref x), (1, .int (nI n0))]) hx hb d_X_readRun_86 rfl hl (by decide) rfl (fun ls hl => ?_)
                refine lv_iload_n hx hb d_X_readRun_87 rfl (lv_at hl 3 rfl) ?_
                have hPc := hP.sub (ws' := []) [] rfl
                have hKc := hK.sub (tys' := []) [] rfl
                refine pci (va_runS (As := [.int (nI (rac pl j))]) (rest := []) ⟨hx, hb, hml, hown, hg⟩ (c_X_stepAbove l D tw (rac pl j) (rac_lt hpl j)) (va_cwS 1 hg (gS gw_324 gw_325 gw_1 gw_326) rfl rfl rfl (by decide +kernel) ⟨Nat.le_of_ble_eq_true rfl, Nat.le_of_ble_eq_true rfl⟩) ⟨fun a U g mk q => by obtain ⟨q0, qP, qK, qX⟩ := q; exact ⟨q0, qP, va_K.moved (u := U) (U := U.calling g mk a) (Vm.Alike.refl U.vm) qK, qX.blind⟩, fun U hU hW => ⟨rfl, by rw [hU]; exact hPc, va_K.moved hW.alike hKc, hE.call hS noF hU hW⟩⟩ rfl rfl hl.1 rfl (lv_room (Nat.le_of_ble_eq_true rfl)) d_X_readRun_88 (⟨Nat.le_of_ble_eq_true rfl, Nat.le_of_ble_eq_true rfl⟩)) ?_
                refine lv_istore_n (lv' := [(3, .int (nI (rac pl (j + 1)))), (2, .int (nI (rrc n0 pl (j + 1)))), (5, .int (nI (2 ^ wdt (rac pl j)))), (4, .int (nI j)), (0, .ref x), (1, .int (nI n0))]) hx hb d_X_readRun_91 rfl hl (by decide) rfl (fun ls hl => ?_)
                refine lv_goto (tgt := 97) hx hb d_X_readRun_92 (by decide) ?_
                refine lv_iload_n hx hb d_X_readRun_97 rfl (lv_at hl 1 rfl) ?_
                refine lv_if_ne (tgt := 120) hx hb d_X_readRun_98 (by decide) (fun c_8 => ?_) (fun c_8 => ?_)
                · skip
                  refine lv_iinc (v := nI (j + 1)) (lv' := [(4, .int (nI (j + 1))), (3, .int (nI (rac pl (j + 1)))), (2, .int (nI (rrc n0 pl (j + 1)))), (5, .int (nI (2 ^ wdt (rac pl j)))), (0, .ref x), (1, .int (nI n0))]) hx hb d_X_readRun_120 hl (k := 3) rfl (nI_1 j) (by decide) rfl (fun ls hl => ?_)
                  refine lv_goto (tgt := 34) hx hb d_X_readRun_123 (by decide) ?_
                  exact ih (j + 1) (by omega) ls (lv_sub hl [0, 1, 2, 4, 5] rfl)
                · skip
                  exact absurd c_8 (nI_ne0 (by show 0 < rrc n0 pl j - 2 ^ wdt (rac pl j); omega) (by have := rrc_le n0 pl (j + 1); omega))
            · skip
              exact absurd c_6 (hmb j (by omega))
      exact loop m0 0 (by omega) ls hl
    · skip
      exact absurd (nI_le hn (by omega)) c_2
set_option maxHeartbeats 4000000 in
set_option maxRecDepth 100000 in
theorem c_X_readRunZN (l : Launch) (D : va_G) (x sw sr br bq bi ne li sp q : Nat) (lb : Int32) (e0 e1 pl rw qa : Nat) (cB : ClassId) (fi h : Nat) (g : Nat → Int32) (tw n0 m0 : Nat) (hf : fi < 1000) (hh : h ≤ 1000) (hpl : pl < 32) (hn1 : 1 ≤ n0) (hn : n0 ≤ 65535) (hm1 : ∀ j, j < m0 → 2 ^ wdt (rac pl j) < rrc n0 pl j) (hmb : ∀ j, j < m0 → ¬ qb g fi h j = 0) (hmh : m0 ≤ h) (hmh2 : m0 < h) (hz : qb g fi h m0 = 0) (hw : m0 + 1 + wdt (rac pl m0) ≤ h) (hmr : ¬ bnum (qb g fi h) (m0 + 1) (wdt (rac pl m0)) < nI (rrc n0 pl m0)) : Met l y_X_readRun (WSY y_X_readRun b_X_readRun 6 (some .int)) ({ frames := 5, cells := 0, slots := 0, locals := 117 }) (va_Pc [.ref x, .int (nI n0)] (fun U => va_P D CLS [(x, .inr (4, [.int (nI bi), .int (nI ne), .int (nI li), .int (nI sp), .int (nI q), .ref sw, .ref sr, .ref br, .ref bq, .int lb])), (sr, .inr (3, [.ref e0, .ref e1, .int (nI pl), .int (nI rw)])), (bq, .inr (0, [.ref qa, .int (nI fi), .int (nI h)])), (qa, .inl (cB, 1000, .inl g))] U.heap ∧ va_K D CLS [(cB, .byte)] U ∧ va_D (fun _ => True) [(x, .inr (4, [.int (nI bi), .int (nI ne), .int (nI li), .int (nI sp), .int (nI q), .ref sw, .ref sr, .ref br, .ref bq, .int lb])), (sr, .inr (3, [.ref e0, .ref e1, .int (nI pl), .int (nI rw)])), (bq, .inr (0, [.ref qa, .int (nI fi), .int (nI h)])), (qa, .inl (cB, 1000, .inl g))] ∧ EV (ad [(x, .inr (4, [.int (nI bi), .int (nI ne), .int (nI li), .int (nI sp), .int (nI q), .ref sw, .ref sr, .ref br, .ref bq, .int lb])), (sr, .inr (3, [.ref e0, .ref e1, .int (nI pl), .int (nI rw)])), (bq, .inr (0, [.ref qa, .int (nI fi), .int (nI h)])), (qa, .inl (cB, 1000, .inl g))]) tw U)) (QM (some (.int (-2))) [(x, .inr (4, [.int (nI bi), .int (nI ne), .int (nI li), .int (nI sp), .int (nI q), .ref sw, .ref sr, .ref br, .ref bq, .int lb])), (sr, .inr (3, [.ref e0, .ref e1, .int (nI pl), .int (nI rw)])), (bq, .inr (0, [.ref qa, .int (nI fi), .int (nI h)])), (qa, .inl (cB, 1000, .inl g))] [(x, .inr (4, [.int (nI bi), .int (nI ne), .int (nI li), .int (nI sp), .int (nI q), .ref sw, .ref sr, .ref br, .ref bq, .int lb])), (sr, .inr (3, [.ref e0, .ref e1, .int (nI pl), .int (nI rw)])), (bq, .inr (0, [.ref qa, .int (nI (rpl fi (m0 + 1 + wdt (rac pl m0)))), .int (nI (h - (m0 + 1 + wdt (rac pl m0))))])), (qa, .inl (cB, 1000, .inl g))] D) 0 0 (ad [(x, .inr (4, [.int (nI bi), .int (nI ne), .int (nI li), .int (nI sp), .int (nI q), .ref sw, .ref sr, .ref br, .ref bq, .int lb])), (sr, .inr (3, [.ref e0, .ref e1, .int (nI pl), .int (nI rw)])), (bq, .inr (0, [.ref qa, .int (nI fi), .int (nI h)])), (qa, .inl (cB, 1000, .inl g))]) := by
  refine Met.ofW (cc := b_X_readRun) (maxL := 6) (ret := (some .int)) (by decide) rfl ?_
  intro p e s m args below meth c s₁ B hml hv
  obtain ⟨rfl, hP, hK, hD0, hE⟩ := hv
  have hx := B.exec
  have hb := B.bytes
  have hr := B.returns
  have hts := atoms_spec (ws := WSY y_X_readRun b_X_readRun 6 (some .int)) B.pre
  have hg : ∀ w ∈ GW, w.before _ s = true := fun w h => hts w (List.mem_cons_of_mem _ h)
  have hown : s.vm.findClass "LineGolomb" = some m.cls := findClass_of_methodNamed B.named
  have hlocks := B.notSynchronized
  obtain ⟨A, hAe⟩ : ∃ A, A = ad [(x, .inr (4, [.int (nI bi), .int (nI ne), .int (nI li), .int (nI sp), .int (nI q), .ref sw, .ref sr, .ref br, .ref bq, .int lb])), (sr, .inr (3, [.ref e0, .ref e1, .int (nI pl), .int (nI rw)])), (bq, .inr (0, [.ref qa, .int (nI fi), .int (nI h)])), (qa, .inl (cB, 1000, .inl g))] := ⟨_, rfl⟩
  have hD : va_D A [(x, .inr (4, [.int (nI bi), .int (nI ne), .int (nI li), .int (nI sp), .int (nI q), .ref sw, .ref sr, .ref br, .ref bq, .int lb])), (sr, .inr (3, [.ref e0, .ref e1, .int (nI pl), .int (nI rw)])), (bq, .inr (0, [.ref qa, .int (nI fi), .int (nI h)])), (qa, .inl (cB, 1000, .inl g))] := by rw [hAe]; exact va_D_ad hD0
  have hS : va_S A s.heap s.heap [] := va_S.rf
  rw [← hAe] at hE
  have hl := lv_entry ([.ref x, .int (nI n0)]) (n := 6) (Nat.le_of_ble_eq_true rfl)
  rw [lg_entry_eq]
  generalize (lg_sl ([.ref x, .int (nI n0)]) ++ List.replicate (6 - (lg_sl ([.ref x, .int (nI n0)])).length) Slot.unset).toArray = ls at hl ⊢
  have hl : lv_has ls 6 [(0, .ref x), (1, .int (nI n0))] := hl
  refine lv_iload_n hx hb d_X_readRun_0 rfl (lv_at hl 1 rfl) ?_
  refine lv_iconst (v := 1) hx hb d_X_readRun_1 (by decide) ?_
  refine lv_icmp_lt (tgt := 11) hx hb d_X_readRun_2 (by decide) (fun c_1 => ?_) (fun c_1 => ?_)
  · skip
    exact absurd ((nI_ltI (b := 1) (by omega) (by omega)).mp c_1) (by omega)
  · skip
    refine lv_iload_n hx hb d_X_readRun_5 rfl (lv_at hl 1 rfl) ?_
    refine lv_ldc (v := 65535) hx hb hown (hg _ gw_317) d_X_readRun_6 ?_
    refine lv_icmp_le (tgt := 21) hx hb d_X_readRun_8 (by decide) (fun c_2 => ?_) (fun c_2 => ?_)
    · skip
      refine lv_iload_n hx hb d_X_readRun_21 rfl (lv_at hl 1 rfl) ?_
      refine lv_istore_n (lv' := [(2, .int (nI n0)), (0, .ref x), (1, .int (nI n0))]) hx hb d_X_readRun_22 rfl hl (by decide) rfl (fun ls hl => ?_)
      refine lv_aload_n hx hb d_X_readRun_23 rfl (lv_at hl 1 rfl) ?_
      refine va_get (D := D) (ci := 4) (v := .ref sr) (C := R_X) (T := T_X) (N := 10) hx hb hg in_X hown hK hP 0 rfl rfl 6 (by decide) (hg _ gw_122) (fun _ h9 => h9) rfl d_X_readRun_24 ?_
      refine va_getN (D := D) (ci := 3) (v := .int (nI pl)) (C := R_S) (T := T_S) (N := 4) hx hb hg in_S hown hK hP 1 rfl rfl 2 (by decide) (va_Nw.use rfl (hE.nw nw_104)) (fun _ h9 => h9) rfl d_X_readRun_27 ?_
      refine lv_istore_n (lv' := [(3, .int (nI pl)), (2, .int (nI n0)), (0, .ref x), (1, .int (nI n0))]) hx hb d_X_readRun_30 rfl hl (by decide) rfl (fun ls hl => ?_)
      refine lv_iconst (v := 0) hx hb d_X_readRun_31 (by decide) ?_
      refine lv_istore (lv' := [(4, .int 0), (3, .int (nI pl)), (2, .int (nI n0)), (0, .ref x), (1, .int (nI n0))]) hx hb d_X_readRun_32 hl (by decide) rfl (fun ls hl => ?_)
      have loop : ∀ (d j : Nat), j + d = m0 → ∀ (ls : Array Slot), lv_has ls 6 [(4, .int (nI j)), (3, .int (nI (rac pl j))), (2, .int (nI (rrc n0 pl j))), (0, .ref x), (1, .int (nI n0))] → W p l e (headSpec (WSY y_X_readRun b_X_readRun 6 (some .int)) ({ frames := 5, cells := 0, slots := 0, locals := 117 })).room s m ([.ref x, .int (nI n0)] : List Value).toArray below meth c s.heap [] 0 0 (MQ below (QM (some (.int (-2))) [(x, .inr (4, [.int (nI bi), .int (nI ne), .int (nI li), .int (nI sp), .int (nI q), .ref sw, .ref sr, .ref br, .ref bq, .int lb])), (sr, .inr (3, [.ref e0, .ref e1, .int (nI pl), .int (nI rw)])), (bq, .inr (0, [.ref qa, .int (nI fi), .int (nI h)])), (qa, .inl (cB, 1000, .inl g))] [(x, .inr (4, [.int (nI bi), .int (nI ne), .int (nI li), .int (nI sp), .int (nI q), .ref sw, .ref sr, .ref br, .ref bq, .int lb])), (sr, .inr (3, [.ref e0, .ref e1, .int (nI pl), .int (nI rw)])), (bq, .inr (0, [.ref qa, .int (nI (rpl fi (m0 + 1 + wdt (rac pl m0)))), .int (nI (h - (m0 + 1 + wdt (rac pl m0))))])), (qa, .inl (cB, 1000, .inl g))] D) ([.ref x, .int (nI n0)] : List Value).toArray s 0 0 (ad [(x, .inr (4, [.int (nI bi), .int (nI ne), .int (nI li), .int (nI sp), .int (nI q), .ref sw, .ref sr, .ref br, .ref bq, .int lb])), (sr, .inr (3, [.ref e0, .ref e1, .int (nI pl), .int (nI rw)])), (bq, .inr (0, [.ref qa, .int (nI fi), .int (nI h)])), (qa, .inl (cB, 1000, .inl g))])) (F0 m 34 ls []) := by
        intro d
        induction d with
        | zero =>
          intro j hj ls hl
          obtain rfl : m0 = j := by omega
          have hwj := wdt_le (rac pl m0) (rac_lt hpl m0)
          have hpj := pw15 hwj
          have hrj := rrc_le n0 pl m0
          refine lv_iload hx hb d_X_readRun_34 (lv_at hl 0 rfl) ?_
          refine lv_aload_n hx hb d_X_readRun_36 rfl (lv_at hl 3 rfl) ?_
          refine va_get (D := D) (ci := 4) (v := .ref bq) (C := R_X) (T := T_X) (N := 10) hx hb hg in_X hown hK hP 0 rfl rfl 8 (by decide) (hg _ gw_124) (fun _ h9 => h9) rfl d_X_readRun_37 ?_
          refine va_getN (D := D) (ci := 0) (v := .int (nI h)) (C := R_Q) (T := T_Q) (N := 3) hx hb hg in_Q hown hK hP 2 rfl rfl 2 (by decide) (va_Nw.use rfl (hE.nw nw_46)) (fun _ h9 => h9) rfl d_X_readRun_40 ?_
          refine lv_icmp_ge (tgt := 126) hx hb d_X_readRun_43 (by decide) (fun c_3 => ?_) (fun c_3 => ?_)
          · skip
            exact absurd ((nI_leI (by omega) (by omega)).mp c_3) (by omega)
          · skip
            refine lv_aload_n hx hb d_X_readRun_46 rfl (lv_at hl 3 rfl) ?_
            refine va_get (D := D) (ci := 4) (v := .ref bq) (C := R_X) (T := T_X) (N := 10) hx hb hg in_X hown hK hP 0 rfl rfl 8 (by decide) (hg _ gw_124) (fun _ h9 => h9) rfl d_X_readRun_47 ?_
            refine lv_iload hx hb d_X_readRun_50 (lv_at hl 0 rfl) ?_
            have hPc := hP.sub (ws' := [(bq, .inr (0, [.ref qa, .int (nI fi), .int (nI h)])), (qa, .inl (cB, 1000, .inl g))]) [2, 3] rfl
            have hKc := hK.sub (tys' := [(cB, .byte)]) [0] rfl
            refine pci (va_runV (As := [.int (nI m0)]) (rest := []) ⟨hx, hb, hml, hown, hg⟩ (c_Q_look l D bq qa cB fi h g m0 hf hh (by omega)) (cwV 1 hg (gV gw_461 gw_446 gw_447 gw_3 gw_448) rfl rfl rfl (by decide +kernel) ⟨Nat.le_of_ble_eq_true rfl, Nat.le_of_ble_eq_true rfl⟩) ⟨fun a U g mk q => by obtain ⟨q0, qP, qK⟩ := q; exact ⟨q0, qP, va_K.moved (u := U) (U := U.calling g mk a) (Vm.Alike.refl U.vm) qK⟩, va_recv hKc hPc (ci := 0) (q0 := 0) rfl rfl, fun U hU hW => ⟨rfl, by rw [hU]; exact hPc, va_K.moved hW.alike hKc⟩⟩ rfl rfl hl.1 rfl (lv_room (Nat.le_of_ble_eq_true rfl)) d_X_readRun_52 (⟨Nat.le_of_ble_eq_true rfl, Nat.le_of_ble_eq_true rfl⟩)) ?_
            refine lv_if_ne (tgt := 68) hx hb d_X_readRun_55 (by decide) (fun c_4 => ?_) (fun c_4 => ?_)
            · skip
              exact absurd hz c_4
            · skip
              refine lv_aload_n hx hb d_X_readRun_58 rfl (lv_at hl 3 rfl) ?_
              refine lv_iload hx hb d_X_readRun_59 (lv_at hl 0 rfl) ?_
              refine lv_iload_n hx hb d_X_readRun_61 rfl (lv_at hl 1 rfl) ?_
              refine lv_iload_n hx hb d_X_readRun_62 rfl (lv_at hl 4 rfl) ?_
              refine lv_iload_n hx hb d_X_readRun_63 rfl (lv_at hl 2 rfl) ?_
              have hPc := hP.sub (ws' := [(x, .inr (4, [.int (nI bi), .int (nI ne), .int (nI li), .int (nI sp), .int (nI q), .ref sw, .ref sr, .ref br, .ref bq, .int lb])), (sr, .inr (3, [.ref e0, .ref e1, .int (nI pl), .int (nI rw)])), (bq, .inr (0, [.ref qa, .int (nI fi), .int (nI h)])), (qa, .inl (cB, 1000, .inl g))]) [0, 1, 2, 3] rfl
              have hDc := hD.sub (ws' := [(x, .inr (4, [.int (nI bi), .int (nI ne), .int (nI li), .int (nI sp), .int (nI q), .ref sw, .ref sr, .ref br, .ref bq, .int lb])), (sr, .inr (3, [.ref e0, .ref e1, .int (nI pl), .int (nI rw)])), (bq, .inr (0, [.ref qa, .int (nI fi), .int (nI h)])), (qa, .inl (cB, 1000, .inl g))]) [0, 1, 2, 3] (by decide) rfl
              have hKc := hK.sub (tys' := [(cB, .byte)]) [0] rfl
              refine mci (va_runV (As := [.int (nI m0), .int (nI (rac pl m0)), .int (nI n0), .int (nI (rrc n0 pl m0))]) (rest := []) ⟨hx, hb, hml, hown, hg⟩ (c_X_takeBrokenRunN l D x sw sr br bq bi ne li sp q lb e0 e1 pl rw qa cB fi h g tw m0 (rac pl m0) n0 (rrc n0 pl m0) hf hh (rac_lt hpl m0) (by omega) hw hmr) (cwV 4 hg (gV gw_462 gw_464 gs_10 gw_1 gw_465) rfl rfl rfl (by decide +kernel) ⟨Nat.le_of_ble_eq_true rfl, Nat.le_of_ble_eq_true rfl⟩) ⟨fun a U g mk q => by obtain ⟨q0, qP, qK, qD, qX⟩ := q; exact ⟨q0, qP, va_K.moved (u := U) (U := U.calling g mk a) (Vm.Alike.refl U.vm) qK, qD, qX.blind⟩, va_recv hKc hPc (ci := 4) (q0 := 0) rfl rfl, fun U hU hW => ⟨rfl, by rw [hU]; exact hPc, va_K.moved hW.alike hKc, hDc.weaken (fun _ _ _ _ => trivial), hE.call hS (ad_sub hD [0, 1, 2, 3] rfl) hU hW⟩⟩ rfl rfl hl.1 rfl (lv_room (Nat.le_of_ble_eq_true rfl)) d_X_readRun_64 (⟨Nat.le_of_ble_eq_true rfl, Nat.le_of_ble_eq_true rfl⟩)) hS hP hD [0, 1, 2, 3] rfl rfl rfl (fun H locs hP hD hS => ?_)
              have hP : va_P D CLS [(x, .inr (4, [.int (nI bi), .int (nI ne), .int (nI li), .int (nI sp), .int (nI q), .ref sw, .ref sr, .ref br, .ref bq, .int lb])), (sr, .inr (3, [.ref e0, .ref e1, .int (nI pl), .int (nI rw)])), (bq, .inr (0, [.ref qa, .int (nI (rpl fi (m0 + 1 + wdt (rac pl m0)))), .int (nI (h - (m0 + 1 + wdt (rac pl m0))))])), (qa, .inl (cB, 1000, .inl g))] H := hP
              have hD : va_D A [(x, .inr (4, [.int (nI bi), .int (nI ne), .int (nI li), .int (nI sp), .int (nI q), .ref sw, .ref sr, .ref br, .ref bq, .int lb])), (sr, .inr (3, [.ref e0, .ref e1, .int (nI pl), .int (nI rw)])), (bq, .inr (0, [.ref qa, .int (nI (rpl fi (m0 + 1 + wdt (rac pl m0)))), .int (nI (h - (m0 + 1 + wdt (rac pl m0))))])), (qa, .inl (cB, 1000, .inl g))] := hD
              exact W.iret (v := -2) hx hb hr (fun t ht hW => ⟨rfl, by rw [ht]; exact hP, (hAe ▸ hS).F ht⟩) (hAe ▸ hS).2.2 d_X_readRun_67
        | succ d ih =>
          intro j hj ls hl
          have hwj := wdt_le (rac pl j) (rac_lt hpl j)
          have hpj := pw15 hwj
          have hrj := rrc_le n0 pl j
          refine lv_iload hx hb d_X_readRun_34 (lv_at hl 0 rfl) ?_
          refine lv_aload_n hx hb d_X_readRun_36 rfl (lv_at hl 3 rfl) ?_
          refine va_get (D := D) (ci := 4) (v := .ref bq) (C := R_X) (T := T_X) (N := 10) hx hb hg in_X hown hK hP 0 rfl rfl 8 (by decide) (hg _ gw_124) (fun _ h9 => h9) rfl d_X_readRun_37 ?_
          refine va_getN (D := D) (ci := 0) (v := .int (nI h)) (C := R_Q) (T := T_Q) (N := 3) hx hb hg in_Q hown hK hP 2 rfl rfl 2 (by decide) (va_Nw.use rfl (hE.nw nw_46)) (fun _ h9 => h9) rfl d_X_readRun_40 ?_
          refine lv_icmp_ge (tgt := 126) hx hb d_X_readRun_43 (by decide) (fun c_5 => ?_) (fun c_5 => ?_)
          · skip
            exact absurd ((nI_leI (by omega) (by omega)).mp c_5) (by omega)
          · skip
            refine lv_aload_n hx hb d_X_readRun_46 rfl (lv_at hl 3 rfl) ?_
            refine va_get (D := D) (ci := 4) (v := .ref bq) (C := R_X) (T := T_X) (N := 10) hx hb hg in_X hown hK hP 0 rfl rfl 8 (by decide) (hg _ gw_124) (fun _ h9 => h9) rfl d_X_readRun_47 ?_
            refine lv_iload hx hb d_X_readRun_50 (lv_at hl 0 rfl) ?_
            have hPc := hP.sub (ws' := [(bq, .inr (0, [.ref qa, .int (nI fi), .int (nI h)])), (qa, .inl (cB, 1000, .inl g))]) [2, 3] rfl
            have hKc := hK.sub (tys' := [(cB, .byte)]) [0] rfl
            refine pci (va_runV (As := [.int (nI j)]) (rest := []) ⟨hx, hb, hml, hown, hg⟩ (c_Q_look l D bq qa cB fi h g j hf hh (by omega)) (cwV 1 hg (gV gw_461 gw_446 gw_447 gw_3 gw_448) rfl rfl rfl (by decide +kernel) ⟨Nat.le_of_ble_eq_true rfl, Nat.le_of_ble_eq_true rfl⟩) ⟨fun a U g mk q => by obtain ⟨q0, qP, qK⟩ := q; exact ⟨q0, qP, va_K.moved (u := U) (U := U.calling g mk a) (Vm.Alike.refl U.vm) qK⟩, va_recv hKc hPc (ci := 0) (q0 := 0) rfl rfl, fun U hU hW => ⟨rfl, by rw [hU]; exact hPc, va_K.moved hW.alike hKc⟩⟩ rfl rfl hl.1 rfl (lv_room (Nat.le_of_ble_eq_true rfl)) d_X_readRun_52 (⟨Nat.le_of_ble_eq_true rfl, Nat.le_of_ble_eq_true rfl⟩)) ?_
            refine lv_if_ne (tgt := 68) hx hb d_X_readRun_55 (by decide) (fun c_6 => ?_) (fun c_6 => ?_)
            · skip
              refine lv_iconst (v := 1) hx hb d_X_readRun_68 (by decide) ?_
              refine lv_iload_n hx hb d_X_readRun_69 rfl (lv_at hl 1 rfl) ?_
              have hPc := hP.sub (ws' := []) [] rfl
              have hKc := hK.sub (tys' := []) [] rfl
              refine pci (va_runS (As := [.int (nI (rac pl j))]) (rest := [.int 1]) ⟨hx, hb, hml, hown, hg⟩ (c_X_widthOf l D tw (rac pl j) (rac_lt hpl j)) (va_cwS 1 hg (gS gw_319 gw_320 gw_1 gw_321) rfl rfl rfl (by decide +kernel) ⟨Nat.le_of_ble_eq_true rfl, Nat.le_of_ble_eq_true rfl⟩) ⟨fun a U g mk q => by obtain ⟨q0, qP, qK, qX⟩ := q; exact ⟨q0, qP, va_K.moved (u := U) (U := U.calling g mk a) (Vm.Alike.refl U.vm) qK, qX.blind⟩, fun U hU hW => ⟨rfl, by rw [hU]; exact hPc, va_K.moved hW.alike hKc, hE.call hS noF hU hW⟩⟩ rfl rfl hl.1 rfl (lv_room (Nat.le_of_ble_eq_true rfl)) d_X_readRun_70 (⟨Nat.le_of_ble_eq_true rfl, Nat.le_of_ble_eq_true rfl⟩)) ?_
              refine lv_ishl hx hb d_X_readRun_73 ?_
              refine tpi (y := nI (2 ^ wdt (rac pl j))) (sh1 (by omega)) ?_
              refine lv_istore (lv' := [(5, .int (nI (2 ^ wdt (rac pl j)))), (4, .int (nI j)), (3, .int (nI (rac pl j))), (2, .int (nI (rrc n0 pl j))), (0, .ref x), (1, .int (nI n0))]) hx hb d_X_readRun_74 hl (by decide) rfl (fun ls hl => ?_)
              refine lv_iload hx hb d_X_readRun_76 (lv_at hl 0 rfl) ?_
              refine lv_iload_n hx hb d_X_readRun_78 rfl (lv_at hl 3 rfl) ?_
              refine lv_icmp_gt (tgt := 95) hx hb d_X_readRun_79 (by decide) (fun c_7 => ?_) (fun c_7 => ?_)
              · skip
                exact absurd ((nI_ltI (by omega) (by omega)).mp c_7) (by have := hm1 j (by omega); omega)
              · skip
                have hmj := hm1 j (by omega)
                refine lv_iload_n hx hb d_X_readRun_82 rfl (lv_at hl 3 rfl) ?_
                refine lv_iload hx hb d_X_readRun_83 (lv_at hl 0 rfl) ?_
                refine lv_isub hx hb d_X_readRun_85 ?_
                refine tpi (y := nI (rrc n0 pl (j + 1))) (pk_sub (by omega)) ?_
                refine lv_istore_n (lv' := [(2, .int (nI (rrc n0 pl (j + 1)))), (5, .int (nI (2 ^ wdt (rac pl j)))), (4, .int (nI j)), (3, .int (nI (rac pl j))), (0, .ref x), (1, .int (nI n0))]) hx hb d_X_readRun_86 rfl hl (by decide) rfl (fun ls hl => ?_)
                refine lv_iload_n hx hb d_X_readRun_87 rfl (lv_at hl 3 rfl) ?_
                have hPc := hP.sub (ws' := []) [] rfl
                have hKc := hK.sub (tys' := []) [] rfl
                refine pci (va_runS (As := [.int (nI (rac pl j))]) (rest := []) ⟨hx, hb, hml, hown, hg⟩ (c_X_stepAbove l D tw (rac pl j) (rac_lt hpl j)) (va_cwS 1 hg (gS gw_324 gw_325 gw_1 gw_326) rfl rfl rfl (by decide +kernel) ⟨Nat.le_of_ble_eq_true rfl, Nat.le_of_ble_eq_true rfl⟩) ⟨fun a U g mk q => by obtain ⟨q0, qP, qK, qX⟩ := q; exact ⟨q0, qP, va_K.moved (u := U) (U := U.calling g mk a) (Vm.Alike.refl U.vm) qK, qX.blind⟩, fun U hU hW => ⟨rfl, by rw [hU]; exact hPc, va_K.moved hW.alike hKc, hE.call hS noF hU hW⟩⟩ rfl rfl hl.1 rfl (lv_room (Nat.le_of_ble_eq_true rfl)) d_X_readRun_88 (⟨Nat.le_of_ble_eq_true rfl, Nat.le_of_ble_eq_true rfl⟩)) ?_
                refine lv_istore_n (lv' := [(3, .int (nI (rac pl (j + 1)))), (2, .int (nI (rrc n0 pl (j + 1)))), (5, .int (nI (2 ^ wdt (rac pl j)))), (4, .int (nI j)), (0, .ref x), (1, .int (nI n0))]) hx hb d_X_readRun_91 rfl hl (by decide) rfl (fun ls hl => ?_)
                refine lv_goto (tgt := 97) hx hb d_X_readRun_92 (by decide) ?_
                refine lv_iload_n hx hb d_X_readRun_97 rfl (lv_at hl 1 rfl) ?_
                refine lv_if_ne (tgt := 120) hx hb d_X_readRun_98 (by decide) (fun c_8 => ?_) (fun c_8 => ?_)
                · skip
                  refine lv_iinc (v := nI (j + 1)) (lv' := [(4, .int (nI (j + 1))), (3, .int (nI (rac pl (j + 1)))), (2, .int (nI (rrc n0 pl (j + 1)))), (5, .int (nI (2 ^ wdt (rac pl j)))), (0, .ref x), (1, .int (nI n0))]) hx hb d_X_readRun_120 hl (k := 3) rfl (nI_1 j) (by decide) rfl (fun ls hl => ?_)
                  refine lv_goto (tgt := 34) hx hb d_X_readRun_123 (by decide) ?_
                  exact ih (j + 1) (by omega) ls (lv_sub hl [0, 1, 2, 4, 5] rfl)
                · skip
                  exact absurd c_8 (nI_ne0 (by show 0 < rrc n0 pl j - 2 ^ wdt (rac pl j); omega) (by have := rrc_le n0 pl (j + 1); omega))
            · skip
              exact absurd c_6 (hmb j (by omega))
      exact loop m0 0 (by omega) ls hl
    · skip
      exact absurd (nI_le hn (by omega)) c_2
set_option maxHeartbeats 4000000 in
set_option maxRecDepth 100000 in
theorem c_X_readRunZG (l : Launch) (D : va_G) (x sw sr br bq bi ne li sp q : Nat) (lb : Int32) (e0 e1 pl rw qa : Nat) (cB : ClassId) (fi h : Nat) (g : Nat → Int32) (tw n0 m0 : Nat) (hf : fi < 1000) (hh : h ≤ 1000) (hpl : pl < 32) (hn1 : 1 ≤ n0) (hn : n0 ≤ 65535) (hm1 : ∀ j, j < m0 → 2 ^ wdt (rac pl j) < rrc n0 pl j) (hmb : ∀ j, j < m0 → ¬ qb g fi h j = 0) (hmh : m0 ≤ h) (hmh2 : m0 < h) (hz : qb g fi h m0 = 0) (hw : m0 + 1 + wdt (rac pl m0) ≤ h) (hmr : bnum (qb g fi h) (m0 + 1) (wdt (rac pl m0)) < nI (rrc n0 pl m0)) : Met l y_X_readRun (WSY y_X_readRun b_X_readRun 6 (some .int)) ({ frames := 5, cells := 0, slots := 0, locals := 117 }) (va_Pc [.ref x, .int (nI n0)] (fun U => va_P D CLS [(x, .inr (4, [.int (nI bi), .int (nI ne), .int (nI li), .int (nI sp), .int (nI q), .ref sw, .ref sr, .ref br, .ref bq, .int lb])), (sr, .inr (3, [.ref e0, .ref e1, .int (nI pl), .int (nI rw)])), (bq, .inr (0, [.ref qa, .int (nI fi), .int (nI h)])), (qa, .inl (cB, 1000, .inl g))] U.heap ∧ va_K D CLS [(cB, .byte)] U ∧ va_D (fun _ => True) [(x, .inr (4, [.int (nI bi), .int (nI ne), .int (nI li), .int (nI sp), .int (nI q), .ref sw, .ref sr, .ref br, .ref bq, .int lb])), (sr, .inr (3, [.ref e0, .ref e1, .int (nI pl), .int (nI rw)])), (bq, .inr (0, [.ref qa, .int (nI fi), .int (nI h)])), (qa, .inl (cB, 1000, .inl g))] ∧ EV (ad [(x, .inr (4, [.int (nI bi), .int (nI ne), .int (nI li), .int (nI sp), .int (nI q), .ref sw, .ref sr, .ref br, .ref bq, .int lb])), (sr, .inr (3, [.ref e0, .ref e1, .int (nI pl), .int (nI rw)])), (bq, .inr (0, [.ref qa, .int (nI fi), .int (nI h)])), (qa, .inl (cB, 1000, .inl g))]) tw U)) (QM (some (.int (nI n0 - nI (rrc n0 pl m0) + bnum (qb g fi h) (m0 + 1) (wdt (rac pl m0))))) [(x, .inr (4, [.int (nI bi), .int (nI ne), .int (nI li), .int (nI sp), .int (nI q), .ref sw, .ref sr, .ref br, .ref bq, .int lb])), (sr, .inr (3, [.ref e0, .ref e1, .int (nI pl), .int (nI rw)])), (bq, .inr (0, [.ref qa, .int (nI fi), .int (nI h)])), (qa, .inl (cB, 1000, .inl g))] [(x, .inr (4, [.int (nI bi), .int (nI ne), .int (nI li), .int (nI sp), .int (nI q), .ref sw, .ref sr, .ref br, .ref bq, .int 1])), (sr, .inr (3, [.ref e0, .ref e1, .int (nI (rac pl m0 - 1)), .int (nI (wdt (rac pl m0)))])), (bq, .inr (0, [.ref qa, .int (nI (rpl fi (m0 + 1 + wdt (rac pl m0)))), .int (nI (h - (m0 + 1 + wdt (rac pl m0))))])), (qa, .inl (cB, 1000, .inl g))] D) 0 0 (ad [(x, .inr (4, [.int (nI bi), .int (nI ne), .int (nI li), .int (nI sp), .int (nI q), .ref sw, .ref sr, .ref br, .ref bq, .int lb])), (sr, .inr (3, [.ref e0, .ref e1, .int (nI pl), .int (nI rw)])), (bq, .inr (0, [.ref qa, .int (nI fi), .int (nI h)])), (qa, .inl (cB, 1000, .inl g))]) := by
  refine Met.ofW (cc := b_X_readRun) (maxL := 6) (ret := (some .int)) (by decide) rfl ?_
  intro p e s m args below meth c s₁ B hml hv
  obtain ⟨rfl, hP, hK, hD0, hE⟩ := hv
  have hx := B.exec
  have hb := B.bytes
  have hr := B.returns
  have hts := atoms_spec (ws := WSY y_X_readRun b_X_readRun 6 (some .int)) B.pre
  have hg : ∀ w ∈ GW, w.before _ s = true := fun w h => hts w (List.mem_cons_of_mem _ h)
  have hown : s.vm.findClass "LineGolomb" = some m.cls := findClass_of_methodNamed B.named
  have hlocks := B.notSynchronized
  obtain ⟨A, hAe⟩ : ∃ A, A = ad [(x, .inr (4, [.int (nI bi), .int (nI ne), .int (nI li), .int (nI sp), .int (nI q), .ref sw, .ref sr, .ref br, .ref bq, .int lb])), (sr, .inr (3, [.ref e0, .ref e1, .int (nI pl), .int (nI rw)])), (bq, .inr (0, [.ref qa, .int (nI fi), .int (nI h)])), (qa, .inl (cB, 1000, .inl g))] := ⟨_, rfl⟩
  have hD : va_D A [(x, .inr (4, [.int (nI bi), .int (nI ne), .int (nI li), .int (nI sp), .int (nI q), .ref sw, .ref sr, .ref br, .ref bq, .int lb])), (sr, .inr (3, [.ref e0, .ref e1, .int (nI pl), .int (nI rw)])), (bq, .inr (0, [.ref qa, .int (nI fi), .int (nI h)])), (qa, .inl (cB, 1000, .inl g))] := by rw [hAe]; exact va_D_ad hD0
  have hS : va_S A s.heap s.heap [] := va_S.rf
  rw [← hAe] at hE
  have hl := lv_entry ([.ref x, .int (nI n0)]) (n := 6) (Nat.le_of_ble_eq_true rfl)
  rw [lg_entry_eq]
  generalize (lg_sl ([.ref x, .int (nI n0)]) ++ List.replicate (6 - (lg_sl ([.ref x, .int (nI n0)])).length) Slot.unset).toArray = ls at hl ⊢
  have hl : lv_has ls 6 [(0, .ref x), (1, .int (nI n0))] := hl
  refine lv_iload_n hx hb d_X_readRun_0 rfl (lv_at hl 1 rfl) ?_
  refine lv_iconst (v := 1) hx hb d_X_readRun_1 (by decide) ?_
  refine lv_icmp_lt (tgt := 11) hx hb d_X_readRun_2 (by decide) (fun c_1 => ?_) (fun c_1 => ?_)
  · skip
    exact absurd ((nI_ltI (b := 1) (by omega) (by omega)).mp c_1) (by omega)
  · skip
    refine lv_iload_n hx hb d_X_readRun_5 rfl (lv_at hl 1 rfl) ?_
    refine lv_ldc (v := 65535) hx hb hown (hg _ gw_317) d_X_readRun_6 ?_
    refine lv_icmp_le (tgt := 21) hx hb d_X_readRun_8 (by decide) (fun c_2 => ?_) (fun c_2 => ?_)
    · skip
      refine lv_iload_n hx hb d_X_readRun_21 rfl (lv_at hl 1 rfl) ?_
      refine lv_istore_n (lv' := [(2, .int (nI n0)), (0, .ref x), (1, .int (nI n0))]) hx hb d_X_readRun_22 rfl hl (by decide) rfl (fun ls hl => ?_)
      refine lv_aload_n hx hb d_X_readRun_23 rfl (lv_at hl 1 rfl) ?_
      refine va_get (D := D) (ci := 4) (v := .ref sr) (C := R_X) (T := T_X) (N := 10) hx hb hg in_X hown hK hP 0 rfl rfl 6 (by decide) (hg _ gw_122) (fun _ h9 => h9) rfl d_X_readRun_24 ?_
      refine va_getN (D := D) (ci := 3) (v := .int (nI pl)) (C := R_S) (T := T_S) (N := 4) hx hb hg in_S hown hK hP 1 rfl rfl 2 (by decide) (va_Nw.use rfl (hE.nw nw_104)) (fun _ h9 => h9) rfl d_X_readRun_27 ?_
      refine lv_istore_n (lv' := [(3, .int (nI pl)), (2, .int (nI n0)), (0, .ref x), (1, .int (nI n0))]) hx hb d_X_readRun_30 rfl hl (by decide) rfl (fun ls hl => ?_)
      refine lv_iconst (v := 0) hx hb d_X_readRun_31 (by decide) ?_
      refine lv_istore (lv' := [(4, .int 0), (3, .int (nI pl)), (2, .int (nI n0)), (0, .ref x), (1, .int (nI n0))]) hx hb d_X_readRun_32 hl (by decide) rfl (fun ls hl => ?_)
      have loop : ∀ (d j : Nat), j + d = m0 → ∀ (ls : Array Slot), lv_has ls 6 [(4, .int (nI j)), (3, .int (nI (rac pl j))), (2, .int (nI (rrc n0 pl j))), (0, .ref x), (1, .int (nI n0))] → W p l e (headSpec (WSY y_X_readRun b_X_readRun 6 (some .int)) ({ frames := 5, cells := 0, slots := 0, locals := 117 })).room s m ([.ref x, .int (nI n0)] : List Value).toArray below meth c s.heap [] 0 0 (MQ below (QM (some (.int (nI n0 - nI (rrc n0 pl m0) + bnum (qb g fi h) (m0 + 1) (wdt (rac pl m0))))) [(x, .inr (4, [.int (nI bi), .int (nI ne), .int (nI li), .int (nI sp), .int (nI q), .ref sw, .ref sr, .ref br, .ref bq, .int lb])), (sr, .inr (3, [.ref e0, .ref e1, .int (nI pl), .int (nI rw)])), (bq, .inr (0, [.ref qa, .int (nI fi), .int (nI h)])), (qa, .inl (cB, 1000, .inl g))] [(x, .inr (4, [.int (nI bi), .int (nI ne), .int (nI li), .int (nI sp), .int (nI q), .ref sw, .ref sr, .ref br, .ref bq, .int 1])), (sr, .inr (3, [.ref e0, .ref e1, .int (nI (rac pl m0 - 1)), .int (nI (wdt (rac pl m0)))])), (bq, .inr (0, [.ref qa, .int (nI (rpl fi (m0 + 1 + wdt (rac pl m0)))), .int (nI (h - (m0 + 1 + wdt (rac pl m0))))])), (qa, .inl (cB, 1000, .inl g))] D) ([.ref x, .int (nI n0)] : List Value).toArray s 0 0 (ad [(x, .inr (4, [.int (nI bi), .int (nI ne), .int (nI li), .int (nI sp), .int (nI q), .ref sw, .ref sr, .ref br, .ref bq, .int lb])), (sr, .inr (3, [.ref e0, .ref e1, .int (nI pl), .int (nI rw)])), (bq, .inr (0, [.ref qa, .int (nI fi), .int (nI h)])), (qa, .inl (cB, 1000, .inl g))])) (F0 m 34 ls []) := by
        intro d
        induction d with
        | zero =>
          intro j hj ls hl
          obtain rfl : m0 = j := by omega
          have hwj := wdt_le (rac pl m0) (rac_lt hpl m0)
          have hpj := pw15 hwj
          have hrj := rrc_le n0 pl m0
          refine lv_iload hx hb d_X_readRun_34 (lv_at hl 0 rfl) ?_
          refine lv_aload_n hx hb d_X_readRun_36 rfl (lv_at hl 3 rfl) ?_
          refine va_get (D := D) (ci := 4) (v := .ref bq) (C := R_X) (T := T_X) (N := 10) hx hb hg in_X hown hK hP 0 rfl rfl 8 (by decide) (hg _ gw_124) (fun _ h9 => h9) rfl d_X_readRun_37 ?_
          refine va_getN (D := D) (ci := 0) (v := .int (nI h)) (C := R_Q) (T := T_Q) (N := 3) hx hb hg in_Q hown hK hP 2 rfl rfl 2 (by decide) (va_Nw.use rfl (hE.nw nw_46)) (fun _ h9 => h9) rfl d_X_readRun_40 ?_
          refine lv_icmp_ge (tgt := 126) hx hb d_X_readRun_43 (by decide) (fun c_3 => ?_) (fun c_3 => ?_)
          · skip
            exact absurd ((nI_leI (by omega) (by omega)).mp c_3) (by omega)
          · skip
            refine lv_aload_n hx hb d_X_readRun_46 rfl (lv_at hl 3 rfl) ?_
            refine va_get (D := D) (ci := 4) (v := .ref bq) (C := R_X) (T := T_X) (N := 10) hx hb hg in_X hown hK hP 0 rfl rfl 8 (by decide) (hg _ gw_124) (fun _ h9 => h9) rfl d_X_readRun_47 ?_
            refine lv_iload hx hb d_X_readRun_50 (lv_at hl 0 rfl) ?_
            have hPc := hP.sub (ws' := [(bq, .inr (0, [.ref qa, .int (nI fi), .int (nI h)])), (qa, .inl (cB, 1000, .inl g))]) [2, 3] rfl
            have hKc := hK.sub (tys' := [(cB, .byte)]) [0] rfl
            refine pci (va_runV (As := [.int (nI m0)]) (rest := []) ⟨hx, hb, hml, hown, hg⟩ (c_Q_look l D bq qa cB fi h g m0 hf hh (by omega)) (cwV 1 hg (gV gw_461 gw_446 gw_447 gw_3 gw_448) rfl rfl rfl (by decide +kernel) ⟨Nat.le_of_ble_eq_true rfl, Nat.le_of_ble_eq_true rfl⟩) ⟨fun a U g mk q => by obtain ⟨q0, qP, qK⟩ := q; exact ⟨q0, qP, va_K.moved (u := U) (U := U.calling g mk a) (Vm.Alike.refl U.vm) qK⟩, va_recv hKc hPc (ci := 0) (q0 := 0) rfl rfl, fun U hU hW => ⟨rfl, by rw [hU]; exact hPc, va_K.moved hW.alike hKc⟩⟩ rfl rfl hl.1 rfl (lv_room (Nat.le_of_ble_eq_true rfl)) d_X_readRun_52 (⟨Nat.le_of_ble_eq_true rfl, Nat.le_of_ble_eq_true rfl⟩)) ?_
            refine lv_if_ne (tgt := 68) hx hb d_X_readRun_55 (by decide) (fun c_4 => ?_) (fun c_4 => ?_)
            · skip
              exact absurd hz c_4
            · skip
              refine lv_aload_n hx hb d_X_readRun_58 rfl (lv_at hl 3 rfl) ?_
              refine lv_iload hx hb d_X_readRun_59 (lv_at hl 0 rfl) ?_
              refine lv_iload_n hx hb d_X_readRun_61 rfl (lv_at hl 1 rfl) ?_
              refine lv_iload_n hx hb d_X_readRun_62 rfl (lv_at hl 4 rfl) ?_
              refine lv_iload_n hx hb d_X_readRun_63 rfl (lv_at hl 2 rfl) ?_
              have hPc := hP.sub (ws' := [(x, .inr (4, [.int (nI bi), .int (nI ne), .int (nI li), .int (nI sp), .int (nI q), .ref sw, .ref sr, .ref br, .ref bq, .int lb])), (sr, .inr (3, [.ref e0, .ref e1, .int (nI pl), .int (nI rw)])), (bq, .inr (0, [.ref qa, .int (nI fi), .int (nI h)])), (qa, .inl (cB, 1000, .inl g))]) [0, 1, 2, 3] rfl
              have hDc := hD.sub (ws' := [(x, .inr (4, [.int (nI bi), .int (nI ne), .int (nI li), .int (nI sp), .int (nI q), .ref sw, .ref sr, .ref br, .ref bq, .int lb])), (sr, .inr (3, [.ref e0, .ref e1, .int (nI pl), .int (nI rw)])), (bq, .inr (0, [.ref qa, .int (nI fi), .int (nI h)])), (qa, .inl (cB, 1000, .inl g))]) [0, 1, 2, 3] (by decide) rfl
              have hKc := hK.sub (tys' := [(cB, .byte)]) [0] rfl
              refine mci (va_runV (As := [.int (nI m0), .int (nI (rac pl m0)), .int (nI n0), .int (nI (rrc n0 pl m0))]) (rest := []) ⟨hx, hb, hml, hown, hg⟩ (c_X_takeBrokenRunG l D x sw sr br bq bi ne li sp q lb e0 e1 pl rw qa cB fi h g tw m0 (rac pl m0) n0 (rrc n0 pl m0) hf hh (rac_lt hpl m0) (by omega) hw hmr) (cwV 4 hg (gV gw_462 gw_464 gs_10 gw_1 gw_465) rfl rfl rfl (by decide +kernel) ⟨Nat.le_of_ble_eq_true rfl, Nat.le_of_ble_eq_true rfl⟩) ⟨fun a U g mk q => by obtain ⟨q0, qP, qK, qD, qX⟩ := q; exact ⟨q0, qP, va_K.moved (u := U) (U := U.calling g mk a) (Vm.Alike.refl U.vm) qK, qD, qX.blind⟩, va_recv hKc hPc (ci := 4) (q0 := 0) rfl rfl, fun U hU hW => ⟨rfl, by rw [hU]; exact hPc, va_K.moved hW.alike hKc, hDc.weaken (fun _ _ _ _ => trivial), hE.call hS (ad_sub hD [0, 1, 2, 3] rfl) hU hW⟩⟩ rfl rfl hl.1 rfl (lv_room (Nat.le_of_ble_eq_true rfl)) d_X_readRun_64 (⟨Nat.le_of_ble_eq_true rfl, Nat.le_of_ble_eq_true rfl⟩)) hS hP hD [0, 1, 2, 3] rfl rfl rfl (fun H locs hP hD hS => ?_)
              have hP : va_P D CLS [(x, .inr (4, [.int (nI bi), .int (nI ne), .int (nI li), .int (nI sp), .int (nI q), .ref sw, .ref sr, .ref br, .ref bq, .int 1])), (sr, .inr (3, [.ref e0, .ref e1, .int (nI (rac pl m0 - 1)), .int (nI (wdt (rac pl m0)))])), (bq, .inr (0, [.ref qa, .int (nI (rpl fi (m0 + 1 + wdt (rac pl m0)))), .int (nI (h - (m0 + 1 + wdt (rac pl m0))))])), (qa, .inl (cB, 1000, .inl g))] H := hP
              have hD : va_D A [(x, .inr (4, [.int (nI bi), .int (nI ne), .int (nI li), .int (nI sp), .int (nI q), .ref sw, .ref sr, .ref br, .ref bq, .int 1])), (sr, .inr (3, [.ref e0, .ref e1, .int (nI (rac pl m0 - 1)), .int (nI (wdt (rac pl m0)))])), (bq, .inr (0, [.ref qa, .int (nI (rpl fi (m0 + 1 + wdt (rac pl m0)))), .int (nI (h - (m0 + 1 + wdt (rac pl m0))))])), (qa, .inl (cB, 1000, .inl g))] := hD
              exact W.iret (v := nI n0 - nI (rrc n0 pl m0) + bnum (qb g fi h) (m0 + 1) (wdt (rac pl m0))) hx hb hr (fun t ht hW => ⟨rfl, by rw [ht]; exact hP, (hAe ▸ hS).F ht⟩) (hAe ▸ hS).2.2 d_X_readRun_67
        | succ d ih =>
          intro j hj ls hl
          have hwj := wdt_le (rac pl j) (rac_lt hpl j)
          have hpj := pw15 hwj
          have hrj := rrc_le n0 pl j
          refine lv_iload hx hb d_X_readRun_34 (lv_at hl 0 rfl) ?_
          refine lv_aload_n hx hb d_X_readRun_36 rfl (lv_at hl 3 rfl) ?_
          refine va_get (D := D) (ci := 4) (v := .ref bq) (C := R_X) (T := T_X) (N := 10) hx hb hg in_X hown hK hP 0 rfl rfl 8 (by decide) (hg _ gw_124) (fun _ h9 => h9) rfl d_X_readRun_37 ?_
          refine va_getN (D := D) (ci := 0) (v := .int (nI h)) (C := R_Q) (T := T_Q) (N := 3) hx hb hg in_Q hown hK hP 2 rfl rfl 2 (by decide) (va_Nw.use rfl (hE.nw nw_46)) (fun _ h9 => h9) rfl d_X_readRun_40 ?_
          refine lv_icmp_ge (tgt := 126) hx hb d_X_readRun_43 (by decide) (fun c_5 => ?_) (fun c_5 => ?_)
          · skip
            exact absurd ((nI_leI (by omega) (by omega)).mp c_5) (by omega)
          · skip
            refine lv_aload_n hx hb d_X_readRun_46 rfl (lv_at hl 3 rfl) ?_
            refine va_get (D := D) (ci := 4) (v := .ref bq) (C := R_X) (T := T_X) (N := 10) hx hb hg in_X hown hK hP 0 rfl rfl 8 (by decide) (hg _ gw_124) (fun _ h9 => h9) rfl d_X_readRun_47 ?_
            refine lv_iload hx hb d_X_readRun_50 (lv_at hl 0 rfl) ?_
            have hPc := hP.sub (ws' := [(bq, .inr (0, [.ref qa, .int (nI fi), .int (nI h)])), (qa, .inl (cB, 1000, .inl g))]) [2, 3] rfl
            have hKc := hK.sub (tys' := [(cB, .byte)]) [0] rfl
            refine pci (va_runV (As := [.int (nI j)]) (rest := []) ⟨hx, hb, hml, hown, hg⟩ (c_Q_look l D bq qa cB fi h g j hf hh (by omega)) (cwV 1 hg (gV gw_461 gw_446 gw_447 gw_3 gw_448) rfl rfl rfl (by decide +kernel) ⟨Nat.le_of_ble_eq_true rfl, Nat.le_of_ble_eq_true rfl⟩) ⟨fun a U g mk q => by obtain ⟨q0, qP, qK⟩ := q; exact ⟨q0, qP, va_K.moved (u := U) (U := U.calling g mk a) (Vm.Alike.refl U.vm) qK⟩, va_recv hKc hPc (ci := 0) (q0 := 0) rfl rfl, fun U hU hW => ⟨rfl, by rw [hU]; exact hPc, va_K.moved hW.alike hKc⟩⟩ rfl rfl hl.1 rfl (lv_room (Nat.le_of_ble_eq_true rfl)) d_X_readRun_52 (⟨Nat.le_of_ble_eq_true rfl, Nat.le_of_ble_eq_true rfl⟩)) ?_
            refine lv_if_ne (tgt := 68) hx hb d_X_readRun_55 (by decide) (fun c_6 => ?_) (fun c_6 => ?_)
            · skip
              refine lv_iconst (v := 1) hx hb d_X_readRun_68 (by decide) ?_
              refine lv_iload_n hx hb d_X_readRun_69 rfl (lv_at hl 1 rfl) ?_
              have hPc := hP.sub (ws' := []) [] rfl
              have hKc := hK.sub (tys' := []) [] rfl
              refine pci (va_runS (As := [.int (nI (rac pl j))]) (rest := [.int 1]) ⟨hx, hb, hml, hown, hg⟩ (c_X_widthOf l D tw (rac pl j) (rac_lt hpl j)) (va_cwS 1 hg (gS gw_319 gw_320 gw_1 gw_321) rfl rfl rfl (by decide +kernel) ⟨Nat.le_of_ble_eq_true rfl, Nat.le_of_ble_eq_true rfl⟩) ⟨fun a U g mk q => by obtain ⟨q0, qP, qK, qX⟩ := q; exact ⟨q0, qP, va_K.moved (u := U) (U := U.calling g mk a) (Vm.Alike.refl U.vm) qK, qX.blind⟩, fun U hU hW => ⟨rfl, by rw [hU]; exact hPc, va_K.moved hW.alike hKc, hE.call hS noF hU hW⟩⟩ rfl rfl hl.1 rfl (lv_room (Nat.le_of_ble_eq_true rfl)) d_X_readRun_70 (⟨Nat.le_of_ble_eq_true rfl, Nat.le_of_ble_eq_true rfl⟩)) ?_
              refine lv_ishl hx hb d_X_readRun_73 ?_
              refine tpi (y := nI (2 ^ wdt (rac pl j))) (sh1 (by omega)) ?_
              refine lv_istore (lv' := [(5, .int (nI (2 ^ wdt (rac pl j)))), (4, .int (nI j)), (3, .int (nI (rac pl j))), (2, .int (nI (rrc n0 pl j))), (0, .ref x), (1, .int (nI n0))]) hx hb d_X_readRun_74 hl (by decide) rfl (fun ls hl => ?_)
              refine lv_iload hx hb d_X_readRun_76 (lv_at hl 0 rfl) ?_
              refine lv_iload_n hx hb d_X_readRun_78 rfl (lv_at hl 3 rfl) ?_
              refine lv_icmp_gt (tgt := 95) hx hb d_X_readRun_79 (by decide) (fun c_7 => ?_) (fun c_7 => ?_)
              · skip
                exact absurd ((nI_ltI (by omega) (by omega)).mp c_7) (by have := hm1 j (by omega); omega)
              · skip
                have hmj := hm1 j (by omega)
                refine lv_iload_n hx hb d_X_readRun_82 rfl (lv_at hl 3 rfl) ?_
                refine lv_iload hx hb d_X_readRun_83 (lv_at hl 0 rfl) ?_
                refine lv_isub hx hb d_X_readRun_85 ?_
                refine tpi (y := nI (rrc n0 pl (j + 1))) (pk_sub (by omega)) ?_
                refine lv_istore_n (lv' := [(2, .int (nI (rrc n0 pl (j + 1)))), (5, .int (nI (2 ^ wdt (rac pl j)))), (4, .int (nI j)), (3, .int (nI (rac pl j))), (0, .ref x), (1, .int (nI n0))]) hx hb d_X_readRun_86 rfl hl (by decide) rfl (fun ls hl => ?_)
                refine lv_iload_n hx hb d_X_readRun_87 rfl (lv_at hl 3 rfl) ?_
                have hPc := hP.sub (ws' := []) [] rfl
                have hKc := hK.sub (tys' := []) [] rfl
                refine pci (va_runS (As := [.int (nI (rac pl j))]) (rest := []) ⟨hx, hb, hml, hown, hg⟩ (c_X_stepAbove l D tw (rac pl j) (rac_lt hpl j)) (va_cwS 1 hg (gS gw_324 gw_325 gw_1 gw_326) rfl rfl rfl (by decide +kernel) ⟨Nat.le_of_ble_eq_true rfl, Nat.le_of_ble_eq_true rfl⟩) ⟨fun a U g mk q => by obtain ⟨q0, qP, qK, qX⟩ := q; exact ⟨q0, qP, va_K.moved (u := U) (U := U.calling g mk a) (Vm.Alike.refl U.vm) qK, qX.blind⟩, fun U hU hW => ⟨rfl, by rw [hU]; exact hPc, va_K.moved hW.alike hKc, hE.call hS noF hU hW⟩⟩ rfl rfl hl.1 rfl (lv_room (Nat.le_of_ble_eq_true rfl)) d_X_readRun_88 (⟨Nat.le_of_ble_eq_true rfl, Nat.le_of_ble_eq_true rfl⟩)) ?_
                refine lv_istore_n (lv' := [(3, .int (nI (rac pl (j + 1)))), (2, .int (nI (rrc n0 pl (j + 1)))), (5, .int (nI (2 ^ wdt (rac pl j)))), (4, .int (nI j)), (0, .ref x), (1, .int (nI n0))]) hx hb d_X_readRun_91 rfl hl (by decide) rfl (fun ls hl => ?_)
                refine lv_goto (tgt := 97) hx hb d_X_readRun_92 (by decide) ?_
                refine lv_iload_n hx hb d_X_readRun_97 rfl (lv_at hl 1 rfl) ?_
                refine lv_if_ne (tgt := 120) hx hb d_X_readRun_98 (by decide) (fun c_8 => ?_) (fun c_8 => ?_)
                · skip
                  refine lv_iinc (v := nI (j + 1)) (lv' := [(4, .int (nI (j + 1))), (3, .int (nI (rac pl (j + 1)))), (2, .int (nI (rrc n0 pl (j + 1)))), (5, .int (nI (2 ^ wdt (rac pl j)))), (0, .ref x), (1, .int (nI n0))]) hx hb d_X_readRun_120 hl (k := 3) rfl (nI_1 j) (by decide) rfl (fun ls hl => ?_)
                  refine lv_goto (tgt := 34) hx hb d_X_readRun_123 (by decide) ?_
                  exact ih (j + 1) (by omega) ls (lv_sub hl [0, 1, 2, 4, 5] rfl)
                · skip
                  exact absurd c_8 (nI_ne0 (by show 0 < rrc n0 pl j - 2 ^ wdt (rac pl j); omega) (by have := rrc_le n0 pl (j + 1); omega))
            · skip
              exact absurd c_6 (hmb j (by omega))
      exact loop m0 0 (by omega) ls hl
    · skip
      exact absurd (nI_le hn (by omega)) c_2
set_option maxHeartbeats 4000000 in
set_option maxRecDepth 100000 in
theorem c_X_readRunE (l : Launch) (D : va_G) (x sw sr br bq bi ne li sp q : Nat) (lb : Int32) (e0 e1 pl rw qa : Nat) (cB : ClassId) (fi h : Nat) (g : Nat → Int32) (tw n0 m0 : Nat) (hf : fi < 1000) (hh : h ≤ 1000) (hpl : pl < 32) (hn1 : 1 ≤ n0) (hn : n0 ≤ 65535) (hm1 : ∀ j, j < m0 → 2 ^ wdt (rac pl j) < rrc n0 pl j) (hmb : ∀ j, j < m0 → ¬ qb g fi h j = 0) (hmh : m0 ≤ h) (hmh2 : m0 < h) (hz : ¬ qb g fi h m0 = 0) (he : rrc n0 pl m0 ≤ 2 ^ wdt (rac pl m0)) : Met l y_X_readRun (WSY y_X_readRun b_X_readRun 6 (some .int)) ({ frames := 5, cells := 0, slots := 0, locals := 117 }) (va_Pc [.ref x, .int (nI n0)] (fun U => va_P D CLS [(x, .inr (4, [.int (nI bi), .int (nI ne), .int (nI li), .int (nI sp), .int (nI q), .ref sw, .ref sr, .ref br, .ref bq, .int lb])), (sr, .inr (3, [.ref e0, .ref e1, .int (nI pl), .int (nI rw)])), (bq, .inr (0, [.ref qa, .int (nI fi), .int (nI h)])), (qa, .inl (cB, 1000, .inl g))] U.heap ∧ va_K D CLS [(cB, .byte)] U ∧ va_D (fun _ => True) [(x, .inr (4, [.int (nI bi), .int (nI ne), .int (nI li), .int (nI sp), .int (nI q), .ref sw, .ref sr, .ref br, .ref bq, .int lb])), (sr, .inr (3, [.ref e0, .ref e1, .int (nI pl), .int (nI rw)])), (bq, .inr (0, [.ref qa, .int (nI fi), .int (nI h)])), (qa, .inl (cB, 1000, .inl g))] ∧ EV (ad [(x, .inr (4, [.int (nI bi), .int (nI ne), .int (nI li), .int (nI sp), .int (nI q), .ref sw, .ref sr, .ref br, .ref bq, .int lb])), (sr, .inr (3, [.ref e0, .ref e1, .int (nI pl), .int (nI rw)])), (bq, .inr (0, [.ref qa, .int (nI fi), .int (nI h)])), (qa, .inl (cB, 1000, .inl g))]) tw U)) (QM (some (.int (nI n0))) [(x, .inr (4, [.int (nI bi), .int (nI ne), .int (nI li), .int (nI sp), .int (nI q), .ref sw, .ref sr, .ref br, .ref bq, .int lb])), (sr, .inr (3, [.ref e0, .ref e1, .int (nI pl), .int (nI rw)])), (bq, .inr (0, [.ref qa, .int (nI fi), .int (nI h)])), (qa, .inl (cB, 1000, .inl g))] [(x, .inr (4, [.int (nI bi), .int (nI ne), .int (nI li), .int (nI sp), .int (nI q), .ref sw, .ref sr, .ref br, .ref bq, .int 0])), (sr, .inr (3, [.ref e0, .ref e1, .int (nI (if 2 ^ wdt (rac pl m0) = rrc n0 pl m0 then rac pl (m0 + 1) else rac pl m0)), .int (nI (wdt (if 2 ^ wdt (rac pl m0) = rrc n0 pl m0 then rac pl (m0 + 1) else rac pl m0)))])), (bq, .inr (0, [.ref qa, .int (nI (rpl fi (m0 + 1))), .int (nI (h - (m0 + 1)))])), (qa, .inl (cB, 1000, .inl g))] D) 0 0 (ad [(x, .inr (4, [.int (nI bi), .int (nI ne), .int (nI li), .int (nI sp), .int (nI q), .ref sw, .ref sr, .ref br, .ref bq, .int lb])), (sr, .inr (3, [.ref e0, .ref e1, .int (nI pl), .int (nI rw)])), (bq, .inr (0, [.ref qa, .int (nI fi), .int (nI h)])), (qa, .inl (cB, 1000, .inl g))]) := by
  refine Met.ofW (cc := b_X_readRun) (maxL := 6) (ret := (some .int)) (by decide) rfl ?_
  intro p e s m args below meth c s₁ B hml hv
  obtain ⟨rfl, hP, hK, hD0, hE⟩ := hv
  have hx := B.exec
  have hb := B.bytes
  have hr := B.returns
  have hts := atoms_spec (ws := WSY y_X_readRun b_X_readRun 6 (some .int)) B.pre
  have hg : ∀ w ∈ GW, w.before _ s = true := fun w h => hts w (List.mem_cons_of_mem _ h)
  have hown : s.vm.findClass "LineGolomb" = some m.cls := findClass_of_methodNamed B.named
  have hlocks := B.notSynchronized
  obtain ⟨A, hAe⟩ : ∃ A, A = ad [(x, .inr (4, [.int (nI bi), .int (nI ne), .int (nI li), .int (nI sp), .int (nI q), .ref sw, .ref sr, .ref br, .ref bq, .int lb])), (sr, .inr (3, [.ref e0, .ref e1, .int (nI pl), .int (nI rw)])), (bq, .inr (0, [.ref qa, .int (nI fi), .int (nI h)])), (qa, .inl (cB, 1000, .inl g))] := ⟨_, rfl⟩
  have hD : va_D A [(x, .inr (4, [.int (nI bi), .int (nI ne), .int (nI li), .int (nI sp), .int (nI q), .ref sw, .ref sr, .ref br, .ref bq, .int lb])), (sr, .inr (3, [.ref e0, .ref e1, .int (nI pl), .int (nI rw)])), (bq, .inr (0, [.ref qa, .int (nI fi), .int (nI h)])), (qa, .inl (cB, 1000, .inl g))] := by rw [hAe]; exact va_D_ad hD0
  have hS : va_S A s.heap s.heap [] := va_S.rf
  rw [← hAe] at hE
  have hl := lv_entry ([.ref x, .int (nI n0)]) (n := 6) (Nat.le_of_ble_eq_true rfl)
  rw [lg_entry_eq]
  generalize (lg_sl ([.ref x, .int (nI n0)]) ++ List.replicate (6 - (lg_sl ([.ref x, .int (nI n0)])).length) Slot.unset).toArray = ls at hl ⊢
  have hl : lv_has ls 6 [(0, .ref x), (1, .int (nI n0))] := hl
  refine lv_iload_n hx hb d_X_readRun_0 rfl (lv_at hl 1 rfl) ?_
  refine lv_iconst (v := 1) hx hb d_X_readRun_1 (by decide) ?_
  refine lv_icmp_lt (tgt := 11) hx hb d_X_readRun_2 (by decide) (fun c_1 => ?_) (fun c_1 => ?_)
  · skip
    exact absurd ((nI_ltI (b := 1) (by omega) (by omega)).mp c_1) (by omega)
  · skip
    refine lv_iload_n hx hb d_X_readRun_5 rfl (lv_at hl 1 rfl) ?_
    refine lv_ldc (v := 65535) hx hb hown (hg _ gw_317) d_X_readRun_6 ?_
    refine lv_icmp_le (tgt := 21) hx hb d_X_readRun_8 (by decide) (fun c_2 => ?_) (fun c_2 => ?_)
    · skip
      refine lv_iload_n hx hb d_X_readRun_21 rfl (lv_at hl 1 rfl) ?_
      refine lv_istore_n (lv' := [(2, .int (nI n0)), (0, .ref x), (1, .int (nI n0))]) hx hb d_X_readRun_22 rfl hl (by decide) rfl (fun ls hl => ?_)
      refine lv_aload_n hx hb d_X_readRun_23 rfl (lv_at hl 1 rfl) ?_
      refine va_get (D := D) (ci := 4) (v := .ref sr) (C := R_X) (T := T_X) (N := 10) hx hb hg in_X hown hK hP 0 rfl rfl 6 (by decide) (hg _ gw_122) (fun _ h9 => h9) rfl d_X_readRun_24 ?_
      refine va_getN (D := D) (ci := 3) (v := .int (nI pl)) (C := R_S) (T := T_S) (N := 4) hx hb hg in_S hown hK hP 1 rfl rfl 2 (by decide) (va_Nw.use rfl (hE.nw nw_104)) (fun _ h9 => h9) rfl d_X_readRun_27 ?_
      refine lv_istore_n (lv' := [(3, .int (nI pl)), (2, .int (nI n0)), (0, .ref x), (1, .int (nI n0))]) hx hb d_X_readRun_30 rfl hl (by decide) rfl (fun ls hl => ?_)
      refine lv_iconst (v := 0) hx hb d_X_readRun_31 (by decide) ?_
      refine lv_istore (lv' := [(4, .int 0), (3, .int (nI pl)), (2, .int (nI n0)), (0, .ref x), (1, .int (nI n0))]) hx hb d_X_readRun_32 hl (by decide) rfl (fun ls hl => ?_)
      have loop : ∀ (d j : Nat), j + d = m0 → ∀ (ls : Array Slot), lv_has ls 6 [(4, .int (nI j)), (3, .int (nI (rac pl j))), (2, .int (nI (rrc n0 pl j))), (0, .ref x), (1, .int (nI n0))] → W p l e (headSpec (WSY y_X_readRun b_X_readRun 6 (some .int)) ({ frames := 5, cells := 0, slots := 0, locals := 117 })).room s m ([.ref x, .int (nI n0)] : List Value).toArray below meth c s.heap [] 0 0 (MQ below (QM (some (.int (nI n0))) [(x, .inr (4, [.int (nI bi), .int (nI ne), .int (nI li), .int (nI sp), .int (nI q), .ref sw, .ref sr, .ref br, .ref bq, .int lb])), (sr, .inr (3, [.ref e0, .ref e1, .int (nI pl), .int (nI rw)])), (bq, .inr (0, [.ref qa, .int (nI fi), .int (nI h)])), (qa, .inl (cB, 1000, .inl g))] [(x, .inr (4, [.int (nI bi), .int (nI ne), .int (nI li), .int (nI sp), .int (nI q), .ref sw, .ref sr, .ref br, .ref bq, .int 0])), (sr, .inr (3, [.ref e0, .ref e1, .int (nI (if 2 ^ wdt (rac pl m0) = rrc n0 pl m0 then rac pl (m0 + 1) else rac pl m0)), .int (nI (wdt (if 2 ^ wdt (rac pl m0) = rrc n0 pl m0 then rac pl (m0 + 1) else rac pl m0)))])), (bq, .inr (0, [.ref qa, .int (nI (rpl fi (m0 + 1))), .int (nI (h - (m0 + 1)))])), (qa, .inl (cB, 1000, .inl g))] D) ([.ref x, .int (nI n0)] : List Value).toArray s 0 0 (ad [(x, .inr (4, [.int (nI bi), .int (nI ne), .int (nI li), .int (nI sp), .int (nI q), .ref sw, .ref sr, .ref br, .ref bq, .int lb])), (sr, .inr (3, [.ref e0, .ref e1, .int (nI pl), .int (nI rw)])), (bq, .inr (0, [.ref qa, .int (nI fi), .int (nI h)])), (qa, .inl (cB, 1000, .inl g))])) (F0 m 34 ls []) := by
        intro d
        induction d with
        | zero =>
          intro j hj ls hl
          obtain rfl : m0 = j := by omega
          have hwj := wdt_le (rac pl m0) (rac_lt hpl m0)
          have hpj := pw15 hwj
          have hrj := rrc_le n0 pl m0
          refine lv_iload hx hb d_X_readRun_34 (lv_at hl 0 rfl) ?_
          refine lv_aload_n hx hb d_X_readRun_36 rfl (lv_at hl 3 rfl) ?_
          refine va_get (D := D) (ci := 4) (v := .ref bq) (C := R_X) (T := T_X) (N := 10) hx hb hg in_X hown hK hP 0 rfl rfl 8 (by decide) (hg _ gw_124) (fun _ h9 => h9) rfl d_X_readRun_37 ?_
          refine va_getN (D := D) (ci := 0) (v := .int (nI h)) (C := R_Q) (T := T_Q) (N := 3) hx hb hg in_Q hown hK hP 2 rfl rfl 2 (by decide) (va_Nw.use rfl (hE.nw nw_46)) (fun _ h9 => h9) rfl d_X_readRun_40 ?_
          refine lv_icmp_ge (tgt := 126) hx hb d_X_readRun_43 (by decide) (fun c_3 => ?_) (fun c_3 => ?_)
          · skip
            exact absurd ((nI_leI (by omega) (by omega)).mp c_3) (by omega)
          · skip
            refine lv_aload_n hx hb d_X_readRun_46 rfl (lv_at hl 3 rfl) ?_
            refine va_get (D := D) (ci := 4) (v := .ref bq) (C := R_X) (T := T_X) (N := 10) hx hb hg in_X hown hK hP 0 rfl rfl 8 (by decide) (hg _ gw_124) (fun _ h9 => h9) rfl d_X_readRun_47 ?_
            refine lv_iload hx hb d_X_readRun_50 (lv_at hl 0 rfl) ?_
            have hPc := hP.sub (ws' := [(bq, .inr (0, [.ref qa, .int (nI fi), .int (nI h)])), (qa, .inl (cB, 1000, .inl g))]) [2, 3] rfl
            have hKc := hK.sub (tys' := [(cB, .byte)]) [0] rfl
            refine pci (va_runV (As := [.int (nI m0)]) (rest := []) ⟨hx, hb, hml, hown, hg⟩ (c_Q_look l D bq qa cB fi h g m0 hf hh (by omega)) (cwV 1 hg (gV gw_461 gw_446 gw_447 gw_3 gw_448) rfl rfl rfl (by decide +kernel) ⟨Nat.le_of_ble_eq_true rfl, Nat.le_of_ble_eq_true rfl⟩) ⟨fun a U g mk q => by obtain ⟨q0, qP, qK⟩ := q; exact ⟨q0, qP, va_K.moved (u := U) (U := U.calling g mk a) (Vm.Alike.refl U.vm) qK⟩, va_recv hKc hPc (ci := 0) (q0 := 0) rfl rfl, fun U hU hW => ⟨rfl, by rw [hU]; exact hPc, va_K.moved hW.alike hKc⟩⟩ rfl rfl hl.1 rfl (lv_room (Nat.le_of_ble_eq_true rfl)) d_X_readRun_52 (⟨Nat.le_of_ble_eq_true rfl, Nat.le_of_ble_eq_true rfl⟩)) ?_
            refine lv_if_ne (tgt := 68) hx hb d_X_readRun_55 (by decide) (fun c_4 => ?_) (fun c_4 => ?_)
            · skip
              refine lv_iconst (v := 1) hx hb d_X_readRun_68 (by decide) ?_
              refine lv_iload_n hx hb d_X_readRun_69 rfl (lv_at hl 1 rfl) ?_
              have hPc := hP.sub (ws' := []) [] rfl
              have hKc := hK.sub (tys' := []) [] rfl
              refine pci (va_runS (As := [.int (nI (rac pl m0))]) (rest := [.int 1]) ⟨hx, hb, hml, hown, hg⟩ (c_X_widthOf l D tw (rac pl m0) (rac_lt hpl m0)) (va_cwS 1 hg (gS gw_319 gw_320 gw_1 gw_321) rfl rfl rfl (by decide +kernel) ⟨Nat.le_of_ble_eq_true rfl, Nat.le_of_ble_eq_true rfl⟩) ⟨fun a U g mk q => by obtain ⟨q0, qP, qK, qX⟩ := q; exact ⟨q0, qP, va_K.moved (u := U) (U := U.calling g mk a) (Vm.Alike.refl U.vm) qK, qX.blind⟩, fun U hU hW => ⟨rfl, by rw [hU]; exact hPc, va_K.moved hW.alike hKc, hE.call hS noF hU hW⟩⟩ rfl rfl hl.1 rfl (lv_room (Nat.le_of_ble_eq_true rfl)) d_X_readRun_70 (⟨Nat.le_of_ble_eq_true rfl, Nat.le_of_ble_eq_true rfl⟩)) ?_
              refine lv_ishl hx hb d_X_readRun_73 ?_
              refine tpi (y := nI (2 ^ wdt (rac pl m0))) (sh1 (by omega)) ?_
              refine lv_istore (lv' := [(5, .int (nI (2 ^ wdt (rac pl m0)))), (4, .int (nI m0)), (3, .int (nI (rac pl m0))), (2, .int (nI (rrc n0 pl m0))), (0, .ref x), (1, .int (nI n0))]) hx hb d_X_readRun_74 hl (by decide) rfl (fun ls hl => ?_)
              refine lv_iload hx hb d_X_readRun_76 (lv_at hl 0 rfl) ?_
              refine lv_iload_n hx hb d_X_readRun_78 rfl (lv_at hl 3 rfl) ?_
              refine lv_icmp_gt (tgt := 95) hx hb d_X_readRun_79 (by decide) (fun c_5 => ?_) (fun c_5 => ?_)
              · skip
                have hlt := (nI_ltI (by omega) (by omega)).mp c_5
                have hae : (if 2 ^ wdt (rac pl m0) = rrc n0 pl m0 then rac pl (m0 + 1) else rac pl m0) = rac pl m0 := if_neg (by omega)
                refine lv_iconst (v := 0) hx hb d_X_readRun_95 (by decide) ?_
                refine lv_istore_n (lv' := [(2, .int 0), (5, .int (nI (2 ^ wdt (rac pl m0)))), (4, .int (nI m0)), (3, .int (nI (rac pl m0))), (0, .ref x), (1, .int (nI n0))]) hx hb d_X_readRun_96 rfl hl (by decide) rfl (fun ls hl => ?_)
                refine lv_iload_n hx hb d_X_readRun_97 rfl (lv_at hl 0 rfl) ?_
                refine lv_if_ne (tgt := 120) hx hb d_X_readRun_98 (by decide) (fun c_6 => ?_) (fun c_6 => ?_)
                · skip
                  exact absurd rfl c_6
                · skip
                  refine lv_aload_n hx hb d_X_readRun_101 rfl (lv_at hl 4 rfl) ?_
                  refine va_get (D := D) (ci := 4) (v := .ref bq) (C := R_X) (T := T_X) (N := 10) hx hb hg in_X hown hK hP 0 rfl rfl 8 (by decide) (hg _ gw_124) (fun _ h9 => h9) rfl d_X_readRun_102 ?_
                  refine lv_iload hx hb d_X_readRun_105 (lv_at hl 2 rfl) ?_
                  refine lv_iconst (v := 1) hx hb d_X_readRun_107 (by decide) ?_
                  refine lv_iadd hx hb d_X_readRun_108 ?_
                  refine tpi (y := nI (m0 + 1)) (nI_1 m0) ?_
                  have hPc := hP.sub (ws' := [(bq, .inr (0, [.ref qa, .int (nI fi), .int (nI h)])), (qa, .inl (cB, 1000, .inl g))]) [2, 3] rfl
                  have hDc := hD.sub (ws' := [(bq, .inr (0, [.ref qa, .int (nI fi), .int (nI h)])), (qa, .inl (cB, 1000, .inl g))]) [2, 3] (by decide) rfl
                  have hKc := hK.sub (tys' := [(cB, .byte)]) [0] rfl
                  refine mcv (va_runV (As := [.int (nI (m0 + 1))]) (rest := []) ⟨hx, hb, hml, hown, hg⟩ (c_Q_drop l D bq qa cB fi h g (m0 + 1) hf hh (by omega)) (cwV 1 hg (gV gw_175 gw_176 gw_177 gw_3 gw_178) rfl rfl rfl (by decide +kernel) ⟨Nat.le_of_ble_eq_true rfl, Nat.le_of_ble_eq_true rfl⟩) ⟨fun a U g mk q => by obtain ⟨q0, qP, qK, qD⟩ := q; exact ⟨q0, qP, va_K.moved (u := U) (U := U.calling g mk a) (Vm.Alike.refl U.vm) qK, qD⟩, va_recv hKc hPc (ci := 0) (q0 := 0) rfl rfl, fun U hU hW => ⟨rfl, by rw [hU]; exact hPc, va_K.moved hW.alike hKc, hDc.weaken (fun _ _ _ _ => trivial)⟩⟩ rfl rfl hl.1 rfl (lv_room (Nat.le_of_ble_eq_true rfl)) d_X_readRun_109 (⟨Nat.le_of_ble_eq_true rfl, Nat.le_of_ble_eq_true rfl⟩)) hS hP hD [2, 3] rfl rfl rfl (fun H locs hP hD hS => ?_)
                  have hP : va_P D CLS [(x, .inr (4, [.int (nI bi), .int (nI ne), .int (nI li), .int (nI sp), .int (nI q), .ref sw, .ref sr, .ref br, .ref bq, .int lb])), (sr, .inr (3, [.ref e0, .ref e1, .int (nI pl), .int (nI rw)])), (bq, .inr (0, [.ref qa, .int (nI (rpl fi (m0 + 1))), .int (nI (h - (m0 + 1)))])), (qa, .inl (cB, 1000, .inl g))] H := hP
                  have hD : va_D A [(x, .inr (4, [.int (nI bi), .int (nI ne), .int (nI li), .int (nI sp), .int (nI q), .ref sw, .ref sr, .ref br, .ref bq, .int lb])), (sr, .inr (3, [.ref e0, .ref e1, .int (nI pl), .int (nI rw)])), (bq, .inr (0, [.ref qa, .int (nI (rpl fi (m0 + 1))), .int (nI (h - (m0 + 1)))])), (qa, .inl (cB, 1000, .inl g))] := hD
                  refine lv_aload_n hx hb d_X_readRun_112 rfl (lv_at hl 4 rfl) ?_
                  refine lv_iload_n hx hb d_X_readRun_113 rfl (lv_at hl 3 rfl) ?_
                  refine lv_iconst (v := 0) hx hb d_X_readRun_114 (by decide) ?_
                  have hPc := hP.sub (ws' := [(x, .inr (4, [.int (nI bi), .int (nI ne), .int (nI li), .int (nI sp), .int (nI q), .ref sw, .ref sr, .ref br, .ref bq, .int lb])), (sr, .inr (3, [.ref e0, .ref e1, .int (nI pl), .int (nI rw)]))]) [0, 1] rfl
                  have hDc := hD.sub (ws' := [(x, .inr (4, [.int (nI bi), .int (nI ne), .int (nI li), .int (nI sp), .int (nI q), .ref sw, .ref sr, .ref br, .ref bq, .int lb])), (sr, .inr (3, [.ref e0, .ref e1, .int (nI pl), .int (nI rw)]))]) [0, 1] (by decide) rfl
                  have hKc := hK.sub (tys' := []) [] rfl
                  refine mcv (va_runV (As := [.int (nI (rac pl m0)), .int 0]) (rest := []) ⟨hx, hb, hml, hown, hg⟩ (c_X_endReadRun0 l D x sw sr br bq bi ne li sp q lb e0 e1 pl rw tw (rac pl m0) (rac_lt hpl m0)) (cwV 2 hg (gV gw_466 gw_468 gs_11 gw_1 gw_469) rfl rfl rfl (by decide +kernel) ⟨Nat.le_of_ble_eq_true rfl, Nat.le_of_ble_eq_true rfl⟩) ⟨fun a U g mk q => by obtain ⟨q0, qP, qK, qD, qX⟩ := q; exact ⟨q0, qP, va_K.moved (u := U) (U := U.calling g mk a) (Vm.Alike.refl U.vm) qK, qD, qX.blind⟩, va_recv hKc hPc (ci := 4) (q0 := 0) rfl rfl, fun U hU hW => ⟨rfl, by rw [hU]; exact hPc, va_K.moved hW.alike hKc, hDc.weaken (fun _ _ _ _ => trivial), hE.call hS (ad_sub hD [0, 1] rfl) hU hW⟩⟩ rfl rfl hl.1 rfl (lv_room (Nat.le_of_ble_eq_true rfl)) d_X_readRun_115 (⟨Nat.le_of_ble_eq_true rfl, Nat.le_of_ble_eq_true rfl⟩)) hS hP hD [0, 1] rfl rfl rfl (fun H locs hP hD hS => ?_)
                  have hP : va_P D CLS [(x, .inr (4, [.int (nI bi), .int (nI ne), .int (nI li), .int (nI sp), .int (nI q), .ref sw, .ref sr, .ref br, .ref bq, .int 0])), (sr, .inr (3, [.ref e0, .ref e1, .int (nI (rac pl m0)), .int (nI (wdt (rac pl m0)))])), (bq, .inr (0, [.ref qa, .int (nI (rpl fi (m0 + 1))), .int (nI (h - (m0 + 1)))])), (qa, .inl (cB, 1000, .inl g))] H := hP
                  have hD : va_D A [(x, .inr (4, [.int (nI bi), .int (nI ne), .int (nI li), .int (nI sp), .int (nI q), .ref sw, .ref sr, .ref br, .ref bq, .int 0])), (sr, .inr (3, [.ref e0, .ref e1, .int (nI (rac pl m0)), .int (nI (wdt (rac pl m0)))])), (bq, .inr (0, [.ref qa, .int (nI (rpl fi (m0 + 1))), .int (nI (h - (m0 + 1)))])), (qa, .inl (cB, 1000, .inl g))] := hD
                  refine lv_iload_n hx hb d_X_readRun_118 rfl (lv_at hl 5 rfl) ?_
                  exact W.iret (v := nI n0) hx hb hr (fun t ht hW => ⟨rfl, by rw [ht]; exact (by rw [hae]; exact hP), (hAe ▸ hS).F ht⟩) (hAe ▸ hS).2.2 d_X_readRun_119
              · skip
                have hle : 2 ^ wdt (rac pl m0) ≤ rrc n0 pl m0 := by have : ¬ rrc n0 pl m0 < 2 ^ wdt (rac pl m0) := fun q9 => c_5 ((nI_ltI (by omega) (by omega)).mpr q9); omega
                have hae : (if 2 ^ wdt (rac pl m0) = rrc n0 pl m0 then rac pl (m0 + 1) else rac pl m0) = rac pl (m0 + 1) := if_pos (by omega)
                refine lv_iload_n hx hb d_X_readRun_82 rfl (lv_at hl 3 rfl) ?_
                refine lv_iload hx hb d_X_readRun_83 (lv_at hl 0 rfl) ?_
                refine lv_isub hx hb d_X_readRun_85 ?_
                refine tpi (y := 0) (by rw [pk_sub hle, show rrc n0 pl m0 - 2 ^ wdt (rac pl m0) = 0 by omega]; rfl) ?_
                refine lv_istore_n (lv' := [(2, .int 0), (5, .int (nI (2 ^ wdt (rac pl m0)))), (4, .int (nI m0)), (3, .int (nI (rac pl m0))), (0, .ref x), (1, .int (nI n0))]) hx hb d_X_readRun_86 rfl hl (by decide) rfl (fun ls hl => ?_)
                refine lv_iload_n hx hb d_X_readRun_87 rfl (lv_at hl 3 rfl) ?_
                have hPc := hP.sub (ws' := []) [] rfl
                have hKc := hK.sub (tys' := []) [] rfl
                refine pci (va_runS (As := [.int (nI (rac pl m0))]) (rest := []) ⟨hx, hb, hml, hown, hg⟩ (c_X_stepAbove l D tw (rac pl m0) (rac_lt hpl m0)) (va_cwS 1 hg (gS gw_324 gw_325 gw_1 gw_326) rfl rfl rfl (by decide +kernel) ⟨Nat.le_of_ble_eq_true rfl, Nat.le_of_ble_eq_true rfl⟩) ⟨fun a U g mk q => by obtain ⟨q0, qP, qK, qX⟩ := q; exact ⟨q0, qP, va_K.moved (u := U) (U := U.calling g mk a) (Vm.Alike.refl U.vm) qK, qX.blind⟩, fun U hU hW => ⟨rfl, by rw [hU]; exact hPc, va_K.moved hW.alike hKc, hE.call hS noF hU hW⟩⟩ rfl rfl hl.1 rfl (lv_room (Nat.le_of_ble_eq_true rfl)) d_X_readRun_88 (⟨Nat.le_of_ble_eq_true rfl, Nat.le_of_ble_eq_true rfl⟩)) ?_
                refine lv_istore_n (lv' := [(3, .int (nI (rac pl (m0 + 1)))), (2, .int 0), (5, .int (nI (2 ^ wdt (rac pl m0)))), (4, .int (nI m0)), (0, .ref x), (1, .int (nI n0))]) hx hb d_X_readRun_91 rfl hl (by decide) rfl (fun ls hl => ?_)
                refine lv_goto (tgt := 97) hx hb d_X_readRun_92 (by decide) ?_
                refine lv_iload_n hx hb d_X_readRun_97 rfl (lv_at hl 1 rfl) ?_
                refine lv_if_ne (tgt := 120) hx hb d_X_readRun_98 (by decide) (fun c_7 => ?_) (fun c_7 => ?_)
                · skip
                  exact absurd rfl c_7
                · skip
                  refine lv_aload_n hx hb d_X_readRun_101 rfl (lv_at hl 4 rfl) ?_
                  refine va_get (D := D) (ci := 4) (v := .ref bq) (C := R_X) (T := T_X) (N := 10) hx hb hg in_X hown hK hP 0 rfl rfl 8 (by decide) (hg _ gw_124) (fun _ h9 => h9) rfl d_X_readRun_102 ?_
                  refine lv_iload hx hb d_X_readRun_105 (lv_at hl 3 rfl) ?_
                  refine lv_iconst (v := 1) hx hb d_X_readRun_107 (by decide) ?_
                  refine lv_iadd hx hb d_X_readRun_108 ?_
                  refine tpi (y := nI (m0 + 1)) (nI_1 m0) ?_
                  have hPc := hP.sub (ws' := [(bq, .inr (0, [.ref qa, .int (nI fi), .int (nI h)])), (qa, .inl (cB, 1000, .inl g))]) [2, 3] rfl
                  have hDc := hD.sub (ws' := [(bq, .inr (0, [.ref qa, .int (nI fi), .int (nI h)])), (qa, .inl (cB, 1000, .inl g))]) [2, 3] (by decide) rfl
                  have hKc := hK.sub (tys' := [(cB, .byte)]) [0] rfl
                  refine mcv (va_runV (As := [.int (nI (m0 + 1))]) (rest := []) ⟨hx, hb, hml, hown, hg⟩ (c_Q_drop l D bq qa cB fi h g (m0 + 1) hf hh (by omega)) (cwV 1 hg (gV gw_175 gw_176 gw_177 gw_3 gw_178) rfl rfl rfl (by decide +kernel) ⟨Nat.le_of_ble_eq_true rfl, Nat.le_of_ble_eq_true rfl⟩) ⟨fun a U g mk q => by obtain ⟨q0, qP, qK, qD⟩ := q; exact ⟨q0, qP, va_K.moved (u := U) (U := U.calling g mk a) (Vm.Alike.refl U.vm) qK, qD⟩, va_recv hKc hPc (ci := 0) (q0 := 0) rfl rfl, fun U hU hW => ⟨rfl, by rw [hU]; exact hPc, va_K.moved hW.alike hKc, hDc.weaken (fun _ _ _ _ => trivial)⟩⟩ rfl rfl hl.1 rfl (lv_room (Nat.le_of_ble_eq_true rfl)) d_X_readRun_109 (⟨Nat.le_of_ble_eq_true rfl, Nat.le_of_ble_eq_true rfl⟩)) hS hP hD [2, 3] rfl rfl rfl (fun H locs hP hD hS => ?_)
                  have hP : va_P D CLS [(x, .inr (4, [.int (nI bi), .int (nI ne), .int (nI li), .int (nI sp), .int (nI q), .ref sw, .ref sr, .ref br, .ref bq, .int lb])), (sr, .inr (3, [.ref e0, .ref e1, .int (nI pl), .int (nI rw)])), (bq, .inr (0, [.ref qa, .int (nI (rpl fi (m0 + 1))), .int (nI (h - (m0 + 1)))])), (qa, .inl (cB, 1000, .inl g))] H := hP
                  have hD : va_D A [(x, .inr (4, [.int (nI bi), .int (nI ne), .int (nI li), .int (nI sp), .int (nI q), .ref sw, .ref sr, .ref br, .ref bq, .int lb])), (sr, .inr (3, [.ref e0, .ref e1, .int (nI pl), .int (nI rw)])), (bq, .inr (0, [.ref qa, .int (nI (rpl fi (m0 + 1))), .int (nI (h - (m0 + 1)))])), (qa, .inl (cB, 1000, .inl g))] := hD
                  refine lv_aload_n hx hb d_X_readRun_112 rfl (lv_at hl 4 rfl) ?_
                  refine lv_iload_n hx hb d_X_readRun_113 rfl (lv_at hl 0 rfl) ?_
                  refine lv_iconst (v := 0) hx hb d_X_readRun_114 (by decide) ?_
                  have hPc := hP.sub (ws' := [(x, .inr (4, [.int (nI bi), .int (nI ne), .int (nI li), .int (nI sp), .int (nI q), .ref sw, .ref sr, .ref br, .ref bq, .int lb])), (sr, .inr (3, [.ref e0, .ref e1, .int (nI pl), .int (nI rw)]))]) [0, 1] rfl
                  have hDc := hD.sub (ws' := [(x, .inr (4, [.int (nI bi), .int (nI ne), .int (nI li), .int (nI sp), .int (nI q), .ref sw, .ref sr, .ref br, .ref bq, .int lb])), (sr, .inr (3, [.ref e0, .ref e1, .int (nI pl), .int (nI rw)]))]) [0, 1] (by decide) rfl
                  have hKc := hK.sub (tys' := []) [] rfl
                  refine mcv (va_runV (As := [.int (nI (rac pl (m0 + 1))), .int 0]) (rest := []) ⟨hx, hb, hml, hown, hg⟩ (c_X_endReadRun0 l D x sw sr br bq bi ne li sp q lb e0 e1 pl rw tw (rac pl (m0 + 1)) (rac_lt hpl (m0 + 1))) (cwV 2 hg (gV gw_466 gw_468 gs_11 gw_1 gw_469) rfl rfl rfl (by decide +kernel) ⟨Nat.le_of_ble_eq_true rfl, Nat.le_of_ble_eq_true rfl⟩) ⟨fun a U g mk q => by obtain ⟨q0, qP, qK, qD, qX⟩ := q; exact ⟨q0, qP, va_K.moved (u := U) (U := U.calling g mk a) (Vm.Alike.refl U.vm) qK, qD, qX.blind⟩, va_recv hKc hPc (ci := 4) (q0 := 0) rfl rfl, fun U hU hW => ⟨rfl, by rw [hU]; exact hPc, va_K.moved hW.alike hKc, hDc.weaken (fun _ _ _ _ => trivial), hE.call hS (ad_sub hD [0, 1] rfl) hU hW⟩⟩ rfl rfl hl.1 rfl (lv_room (Nat.le_of_ble_eq_true rfl)) d_X_readRun_115 (⟨Nat.le_of_ble_eq_true rfl, Nat.le_of_ble_eq_true rfl⟩)) hS hP hD [0, 1] rfl rfl rfl (fun H locs hP hD hS => ?_)
                  have hP : va_P D CLS [(x, .inr (4, [.int (nI bi), .int (nI ne), .int (nI li), .int (nI sp), .int (nI q), .ref sw, .ref sr, .ref br, .ref bq, .int 0])), (sr, .inr (3, [.ref e0, .ref e1, .int (nI (rac pl (m0 + 1))), .int (nI (wdt (rac pl (m0 + 1))))])), (bq, .inr (0, [.ref qa, .int (nI (rpl fi (m0 + 1))), .int (nI (h - (m0 + 1)))])), (qa, .inl (cB, 1000, .inl g))] H := hP
                  have hD : va_D A [(x, .inr (4, [.int (nI bi), .int (nI ne), .int (nI li), .int (nI sp), .int (nI q), .ref sw, .ref sr, .ref br, .ref bq, .int 0])), (sr, .inr (3, [.ref e0, .ref e1, .int (nI (rac pl (m0 + 1))), .int (nI (wdt (rac pl (m0 + 1))))])), (bq, .inr (0, [.ref qa, .int (nI (rpl fi (m0 + 1))), .int (nI (h - (m0 + 1)))])), (qa, .inl (cB, 1000, .inl g))] := hD
                  refine lv_iload_n hx hb d_X_readRun_118 rfl (lv_at hl 5 rfl) ?_
                  exact W.iret (v := nI n0) hx hb hr (fun t ht hW => ⟨rfl, by rw [ht]; exact (by rw [hae]; exact hP), (hAe ▸ hS).F ht⟩) (hAe ▸ hS).2.2 d_X_readRun_119
            · skip
              exact absurd c_4 hz
        | succ d ih =>
          intro j hj ls hl
          have hwj := wdt_le (rac pl j) (rac_lt hpl j)
          have hpj := pw15 hwj
          have hrj := rrc_le n0 pl j
          refine lv_iload hx hb d_X_readRun_34 (lv_at hl 0 rfl) ?_
          refine lv_aload_n hx hb d_X_readRun_36 rfl (lv_at hl 3 rfl) ?_
          refine va_get (D := D) (ci := 4) (v := .ref bq) (C := R_X) (T := T_X) (N := 10) hx hb hg in_X hown hK hP 0 rfl rfl 8 (by decide) (hg _ gw_124) (fun _ h9 => h9) rfl d_X_readRun_37 ?_
          refine va_getN (D := D) (ci := 0) (v := .int (nI h)) (C := R_Q) (T := T_Q) (N := 3) hx hb hg in_Q hown hK hP 2 rfl rfl 2 (by decide) (va_Nw.use rfl (hE.nw nw_46)) (fun _ h9 => h9) rfl d_X_readRun_40 ?_
          refine lv_icmp_ge (tgt := 126) hx hb d_X_readRun_43 (by decide) (fun c_8 => ?_) (fun c_8 => ?_)
          · skip
            exact absurd ((nI_leI (by omega) (by omega)).mp c_8) (by omega)
          · skip
            refine lv_aload_n hx hb d_X_readRun_46 rfl (lv_at hl 3 rfl) ?_
            refine va_get (D := D) (ci := 4) (v := .ref bq) (C := R_X) (T := T_X) (N := 10) hx hb hg in_X hown hK hP 0 rfl rfl 8 (by decide) (hg _ gw_124) (fun _ h9 => h9) rfl d_X_readRun_47 ?_
            refine lv_iload hx hb d_X_readRun_50 (lv_at hl 0 rfl) ?_
            have hPc := hP.sub (ws' := [(bq, .inr (0, [.ref qa, .int (nI fi), .int (nI h)])), (qa, .inl (cB, 1000, .inl g))]) [2, 3] rfl
            have hKc := hK.sub (tys' := [(cB, .byte)]) [0] rfl
            refine pci (va_runV (As := [.int (nI j)]) (rest := []) ⟨hx, hb, hml, hown, hg⟩ (c_Q_look l D bq qa cB fi h g j hf hh (by omega)) (cwV 1 hg (gV gw_461 gw_446 gw_447 gw_3 gw_448) rfl rfl rfl (by decide +kernel) ⟨Nat.le_of_ble_eq_true rfl, Nat.le_of_ble_eq_true rfl⟩) ⟨fun a U g mk q => by obtain ⟨q0, qP, qK⟩ := q; exact ⟨q0, qP, va_K.moved (u := U) (U := U.calling g mk a) (Vm.Alike.refl U.vm) qK⟩, va_recv hKc hPc (ci := 0) (q0 := 0) rfl rfl, fun U hU hW => ⟨rfl, by rw [hU]; exact hPc, va_K.moved hW.alike hKc⟩⟩ rfl rfl hl.1 rfl (lv_room (Nat.le_of_ble_eq_true rfl)) d_X_readRun_52 (⟨Nat.le_of_ble_eq_true rfl, Nat.le_of_ble_eq_true rfl⟩)) ?_
            refine lv_if_ne (tgt := 68) hx hb d_X_readRun_55 (by decide) (fun c_9 => ?_) (fun c_9 => ?_)
            · skip
              refine lv_iconst (v := 1) hx hb d_X_readRun_68 (by decide) ?_
              refine lv_iload_n hx hb d_X_readRun_69 rfl (lv_at hl 1 rfl) ?_
              have hPc := hP.sub (ws' := []) [] rfl
              have hKc := hK.sub (tys' := []) [] rfl
              refine pci (va_runS (As := [.int (nI (rac pl j))]) (rest := [.int 1]) ⟨hx, hb, hml, hown, hg⟩ (c_X_widthOf l D tw (rac pl j) (rac_lt hpl j)) (va_cwS 1 hg (gS gw_319 gw_320 gw_1 gw_321) rfl rfl rfl (by decide +kernel) ⟨Nat.le_of_ble_eq_true rfl, Nat.le_of_ble_eq_true rfl⟩) ⟨fun a U g mk q => by obtain ⟨q0, qP, qK, qX⟩ := q; exact ⟨q0, qP, va_K.moved (u := U) (U := U.calling g mk a) (Vm.Alike.refl U.vm) qK, qX.blind⟩, fun U hU hW => ⟨rfl, by rw [hU]; exact hPc, va_K.moved hW.alike hKc, hE.call hS noF hU hW⟩⟩ rfl rfl hl.1 rfl (lv_room (Nat.le_of_ble_eq_true rfl)) d_X_readRun_70 (⟨Nat.le_of_ble_eq_true rfl, Nat.le_of_ble_eq_true rfl⟩)) ?_
              refine lv_ishl hx hb d_X_readRun_73 ?_
              refine tpi (y := nI (2 ^ wdt (rac pl j))) (sh1 (by omega)) ?_
              refine lv_istore (lv' := [(5, .int (nI (2 ^ wdt (rac pl j)))), (4, .int (nI j)), (3, .int (nI (rac pl j))), (2, .int (nI (rrc n0 pl j))), (0, .ref x), (1, .int (nI n0))]) hx hb d_X_readRun_74 hl (by decide) rfl (fun ls hl => ?_)
              refine lv_iload hx hb d_X_readRun_76 (lv_at hl 0 rfl) ?_
              refine lv_iload_n hx hb d_X_readRun_78 rfl (lv_at hl 3 rfl) ?_
              refine lv_icmp_gt (tgt := 95) hx hb d_X_readRun_79 (by decide) (fun c_10 => ?_) (fun c_10 => ?_)
              · skip
                exact absurd ((nI_ltI (by omega) (by omega)).mp c_10) (by have := hm1 j (by omega); omega)
              · skip
                have hmj := hm1 j (by omega)
                refine lv_iload_n hx hb d_X_readRun_82 rfl (lv_at hl 3 rfl) ?_
                refine lv_iload hx hb d_X_readRun_83 (lv_at hl 0 rfl) ?_
                refine lv_isub hx hb d_X_readRun_85 ?_
                refine tpi (y := nI (rrc n0 pl (j + 1))) (pk_sub (by omega)) ?_
                refine lv_istore_n (lv' := [(2, .int (nI (rrc n0 pl (j + 1)))), (5, .int (nI (2 ^ wdt (rac pl j)))), (4, .int (nI j)), (3, .int (nI (rac pl j))), (0, .ref x), (1, .int (nI n0))]) hx hb d_X_readRun_86 rfl hl (by decide) rfl (fun ls hl => ?_)
                refine lv_iload_n hx hb d_X_readRun_87 rfl (lv_at hl 3 rfl) ?_
                have hPc := hP.sub (ws' := []) [] rfl
                have hKc := hK.sub (tys' := []) [] rfl
                refine pci (va_runS (As := [.int (nI (rac pl j))]) (rest := []) ⟨hx, hb, hml, hown, hg⟩ (c_X_stepAbove l D tw (rac pl j) (rac_lt hpl j)) (va_cwS 1 hg (gS gw_324 gw_325 gw_1 gw_326) rfl rfl rfl (by decide +kernel) ⟨Nat.le_of_ble_eq_true rfl, Nat.le_of_ble_eq_true rfl⟩) ⟨fun a U g mk q => by obtain ⟨q0, qP, qK, qX⟩ := q; exact ⟨q0, qP, va_K.moved (u := U) (U := U.calling g mk a) (Vm.Alike.refl U.vm) qK, qX.blind⟩, fun U hU hW => ⟨rfl, by rw [hU]; exact hPc, va_K.moved hW.alike hKc, hE.call hS noF hU hW⟩⟩ rfl rfl hl.1 rfl (lv_room (Nat.le_of_ble_eq_true rfl)) d_X_readRun_88 (⟨Nat.le_of_ble_eq_true rfl, Nat.le_of_ble_eq_true rfl⟩)) ?_
                refine lv_istore_n (lv' := [(3, .int (nI (rac pl (j + 1)))), (2, .int (nI (rrc n0 pl (j + 1)))), (5, .int (nI (2 ^ wdt (rac pl j)))), (4, .int (nI j)), (0, .ref x), (1, .int (nI n0))]) hx hb d_X_readRun_91 rfl hl (by decide) rfl (fun ls hl => ?_)
                refine lv_goto (tgt := 97) hx hb d_X_readRun_92 (by decide) ?_
                refine lv_iload_n hx hb d_X_readRun_97 rfl (lv_at hl 1 rfl) ?_
                refine lv_if_ne (tgt := 120) hx hb d_X_readRun_98 (by decide) (fun c_11 => ?_) (fun c_11 => ?_)
                · skip
                  refine lv_iinc (v := nI (j + 1)) (lv' := [(4, .int (nI (j + 1))), (3, .int (nI (rac pl (j + 1)))), (2, .int (nI (rrc n0 pl (j + 1)))), (5, .int (nI (2 ^ wdt (rac pl j)))), (0, .ref x), (1, .int (nI n0))]) hx hb d_X_readRun_120 hl (k := 3) rfl (nI_1 j) (by decide) rfl (fun ls hl => ?_)
                  refine lv_goto (tgt := 34) hx hb d_X_readRun_123 (by decide) ?_
                  exact ih (j + 1) (by omega) ls (lv_sub hl [0, 1, 2, 4, 5] rfl)
                · skip
                  exact absurd c_11 (nI_ne0 (by show 0 < rrc n0 pl j - 2 ^ wdt (rac pl j); omega) (by have := rrc_le n0 pl (j + 1); omega))
            · skip
              exact absurd c_9 (hmb j (by omega))
      exact loop m0 0 (by omega) ls hl
    · skip
      exact absurd (nI_le hn (by omega)) c_2
set_option maxHeartbeats 4000000 in
set_option maxRecDepth 100000 in
theorem c_X_readInterrupt0N (l : Launch) (D : va_G) (x sw sr br bq bi ne li sp q : Nat) (lb : Int32) (e0 e1 pl rw : Nat) (fs sm ct ng : Nat) (qa : Nat) (cB : ClassId) (fi h : Nat) (g : Nat → Int32) (tw K z : Nat) (hf : fi < 1000) (hh : h ≤ 1000) (hc0 : ct ≤ 64) (hn0 : ng ≤ 64) (hs0 : sm < 2 ^ 29) (hKb : K ≤ 29) (hK1 : sm ≤ ct * 2 ^ K) (hK2 : ∀ j, j < K → ct * 2 ^ j < sm) (hsp : sp ≤ 65536) (hq : q ≤ 29) (hli : q + 18 ≤ li) (hlb : li ≤ 200) (hrw : rw ≤ 15) (hz1 : z ≤ (li - 1 - rw - q - 1) + 1) (hz2 : z ≤ h) (hz3 : ∀ j, j < z → qb g fi h j = 0) (hz4 : z = (li - 1 - rw - q - 1) + 1 ∨ z = h ∨ qb g fi h z ≠ 0) (hzN : z = (li - 1 - rw - q - 1) + 1) : Met l y_X_readInterrupt (WSY y_X_readInterrupt b_X_readInterrupt 6 (some .int)) ({ frames := 5, cells := 0, slots := 0, locals := 117 }) (va_Pc [.ref x, .int 0] (fun U => va_P D CLS [(x, .inr (4, [.int (nI bi), .int (nI ne), .int (nI li), .int (nI sp), .int (nI q), .ref sw, .ref sr, .ref br, .ref bq, .int lb])), (sr, .inr (3, [.ref e0, .ref e1, .int (nI pl), .int (nI rw)])), (e0, .inr (2, [.int 0, .int (nI fs), .int (nI sm), .int (nI ct), .int (nI ng)])), (bq, .inr (0, [.ref qa, .int (nI fi), .int (nI h)])), (qa, .inl (cB, 1000, .inl g))] U.heap ∧ va_K D CLS [(cB, .byte)] U ∧ va_D (fun _ => True) [(x, .inr (4, [.int (nI bi), .int (nI ne), .int (nI li), .int (nI sp), .int (nI q), .ref sw, .ref sr, .ref br, .ref bq, .int lb])), (sr, .inr (3, [.ref e0, .ref e1, .int (nI pl), .int (nI rw)])), (e0, .inr (2, [.int 0, .int (nI fs), .int (nI sm), .int (nI ct), .int (nI ng)])), (bq, .inr (0, [.ref qa, .int (nI fi), .int (nI h)])), (qa, .inl (cB, 1000, .inl g))] ∧ EV (ad [(x, .inr (4, [.int (nI bi), .int (nI ne), .int (nI li), .int (nI sp), .int (nI q), .ref sw, .ref sr, .ref br, .ref bq, .int lb])), (sr, .inr (3, [.ref e0, .ref e1, .int (nI pl), .int (nI rw)])), (e0, .inr (2, [.int 0, .int (nI fs), .int (nI sm), .int (nI ct), .int (nI ng)])), (bq, .inr (0, [.ref qa, .int (nI fi), .int (nI h)])), (qa, .inl (cB, 1000, .inl g))]) tw U)) (QM (some (.int 2147483647)) [(x, .inr (4, [.int (nI bi), .int (nI ne), .int (nI li), .int (nI sp), .int (nI q), .ref sw, .ref sr, .ref br, .ref bq, .int lb])), (sr, .inr (3, [.ref e0, .ref e1, .int (nI pl), .int (nI rw)])), (e0, .inr (2, [.int 0, .int (nI fs), .int (nI sm), .int (nI ct), .int (nI ng)])), (bq, .inr (0, [.ref qa, .int (nI fi), .int (nI h)])), (qa, .inl (cB, 1000, .inl g))] [(x, .inr (4, [.int (nI bi), .int (nI ne), .int (nI li), .int (nI sp), .int (nI q), .ref sw, .ref sr, .ref br, .ref bq, .int lb])), (sr, .inr (3, [.ref e0, .ref e1, .int (nI pl), .int (nI rw)])), (e0, .inr (2, [.int 0, .int (nI fs), .int (nI sm), .int (nI ct), .int (nI ng)])), (bq, .inr (0, [.ref qa, .int (nI (rpl fi ((li - 1 - rw - q - 1) + 1))), .int (nI (h - ((li - 1 - rw - q - 1) + 1)))])), (qa, .inl (cB, 1000, .inl g))] D) 0 0 (ad [(x, .inr (4, [.int (nI bi), .int (nI ne), .int (nI li), .int (nI sp), .int (nI q), .ref sw, .ref sr, .ref br, .ref bq, .int lb])), (sr, .inr (3, [.ref e0, .ref e1, .int (nI pl), .int (nI rw)])), (e0, .inr (2, [.int 0, .int (nI fs), .int (nI sm), .int (nI ct), .int (nI ng)])), (bq, .inr (0, [.ref qa, .int (nI fi), .int (nI h)])), (qa, .inl (cB, 1000, .inl g))]) := by
  refine Met.ofW (cc := b_X_readInterrupt) (maxL := 6) (ret := (some .int)) (by decide) rfl ?_
  intro p e s m args below meth c s₁ B hml hv
  obtain ⟨rfl, hP, hK, hD0, hE⟩ := hv
  have hx := B.exec
  have hb := B.bytes
  have hr := B.returns
  have hts := atoms_spec (ws := WSY y_X_readInterrupt b_X_readInterrupt 6 (some .int)) B.pre
  have hg : ∀ w ∈ GW, w.before _ s = true := fun w h => hts w (List.mem_cons_of_mem _ h)
  have hown : s.vm.findClass "LineGolomb" = some m.cls := findClass_of_methodNamed B.named
  have hlocks := B.notSynchronized
  obtain ⟨A, hAe⟩ : ∃ A, A = ad [(x, .inr (4, [.int (nI bi), .int (nI ne), .int (nI li), .int (nI sp), .int (nI q), .ref sw, .ref sr, .ref br, .ref bq, .int lb])), (sr, .inr (3, [.ref e0, .ref e1, .int (nI pl), .int (nI rw)])), (e0, .inr (2, [.int 0, .int (nI fs), .int (nI sm), .int (nI ct), .int (nI ng)])), (bq, .inr (0, [.ref qa, .int (nI fi), .int (nI h)])), (qa, .inl (cB, 1000, .inl g))] := ⟨_, rfl⟩
  have hD : va_D A [(x, .inr (4, [.int (nI bi), .int (nI ne), .int (nI li), .int (nI sp), .int (nI q), .ref sw, .ref sr, .ref br, .ref bq, .int lb])), (sr, .inr (3, [.ref e0, .ref e1, .int (nI pl), .int (nI rw)])), (e0, .inr (2, [.int 0, .int (nI fs), .int (nI sm), .int (nI ct), .int (nI ng)])), (bq, .inr (0, [.ref qa, .int (nI fi), .int (nI h)])), (qa, .inl (cB, 1000, .inl g))] := by rw [hAe]; exact va_D_ad hD0
  have hS : va_S A s.heap s.heap [] := va_S.rf
  rw [← hAe] at hE
  have hl := lv_entry ([.ref x, .int 0]) (n := 6) (Nat.le_of_ble_eq_true rfl)
  rw [lg_entry_eq]
  generalize (lg_sl ([.ref x, .int 0]) ++ List.replicate (6 - (lg_sl ([.ref x, .int 0])).length) Slot.unset).toArray = ls at hl ⊢
  have hl : lv_has ls 6 [(0, .ref x), (1, .int 0)] := hl
  refine lv_iload_n hx hb d_X_readInterrupt_0 rfl (lv_at hl 1 rfl) ?_
  have hPc := hP.sub (ws' := []) [] rfl
  have hKc := hK.sub (tys' := []) [] rfl
  refine pci (va_runS (As := [.int 0]) (rest := []) ⟨hx, hb, hml, hown, hg⟩ (c_X_isKind l D 0) (va_cwS 1 hg (gS gw_343 gw_344 gw_1 gw_345) rfl rfl rfl (by decide +kernel) ⟨Nat.le_of_ble_eq_true rfl, Nat.le_of_ble_eq_true rfl⟩) ⟨fun a U g mk q => by obtain ⟨q0, qP, qK⟩ := q; exact ⟨q0, qP, va_K.moved (u := U) (U := U.calling g mk a) (Vm.Alike.refl U.vm) qK⟩, fun U hU hW => ⟨rfl, by rw [hU]; exact hPc, va_K.moved hW.alike hKc⟩⟩ rfl rfl hl.1 rfl (lv_room (Nat.le_of_ble_eq_true rfl)) d_X_readInterrupt_1 (⟨Nat.le_of_ble_eq_true rfl, Nat.le_of_ble_eq_true rfl⟩)) ?_
  refine tpi (y := 1) (by decide) ?_
  refine lv_if_ne (tgt := 17) hx hb d_X_readInterrupt_4 (by decide) (fun c_1 => ?_) (fun c_1 => ?_)
  · skip
    refine lv_aload_n hx hb d_X_readInterrupt_17 rfl (lv_at hl 0 rfl) ?_
    refine va_get (D := D) (ci := 4) (v := .ref sr) (C := R_X) (T := T_X) (N := 10) hx hb hg in_X hown hK hP 0 rfl rfl 6 (by decide) (hg _ gw_122) (fun _ h9 => h9) rfl d_X_readInterrupt_18 ?_
    refine lv_iload_n hx hb d_X_readInterrupt_21 rfl (lv_at hl 1 rfl) ?_
    have hPc := hP.sub (ws' := [(sr, .inr (3, [.ref e0, .ref e1, .int (nI pl), .int (nI rw)]))]) [1] rfl
    have hKc := hK.sub (tys' := []) [] rfl
    refine pcr (va_runV (As := [.int 0]) (rest := []) ⟨hx, hb, hml, hown, hg⟩ (c_S_endsOf0 l D sr e0 e1 pl rw) (cwV 1 hg (gV gw_367 gw_368 gw_369 gw_5 gw_370) rfl rfl rfl (by decide +kernel) ⟨Nat.le_of_ble_eq_true rfl, Nat.le_of_ble_eq_true rfl⟩) ⟨fun a U g mk q => by obtain ⟨q0, qP, qK⟩ := q; exact ⟨q0, qP, va_K.moved (u := U) (U := U.calling g mk a) (Vm.Alike.refl U.vm) qK⟩, va_recv hKc hPc (ci := 3) (q0 := 0) rfl rfl, fun U hU hW => ⟨rfl, by rw [hU]; exact hPc, va_K.moved hW.alike hKc⟩⟩ rfl rfl hl.1 rfl (lv_room (Nat.le_of_ble_eq_true rfl)) d_X_readInterrupt_22 (⟨Nat.le_of_ble_eq_true rfl, Nat.le_of_ble_eq_true rfl⟩)) ?_
    refine lv_astore_n (lv' := [(2, .ref e0), (0, .ref x), (1, .int 0)]) hx hb d_X_readInterrupt_25 rfl hl (by decide) rfl (fun ls hl => ?_)
    refine lv_aload_n hx hb d_X_readInterrupt_26 rfl (lv_at hl 0 rfl) ?_
    have hPc := hP.sub (ws' := [(e0, .inr (2, [.int 0, .int (nI fs), .int (nI sm), .int (nI ct), .int (nI ng)]))]) [2] rfl
    have hKc := hK.sub (tys' := []) [] rfl
    refine pci (va_runV (As := []) (rest := []) ⟨hx, hb, hml, hown, hg⟩ (c_E_shift0 l D e0 fs sm ct ng K hc0 (by omega) hKb hK1 hK2) (cwV 0 hg (gV gw_371 gw_372 gw_373 gw_6 gw_374) rfl rfl rfl (by decide +kernel) ⟨Nat.le_of_ble_eq_true rfl, Nat.le_of_ble_eq_true rfl⟩) ⟨fun a U g mk q => by obtain ⟨q0, qP, qK⟩ := q; exact ⟨q0, qP, va_K.moved (u := U) (U := U.calling g mk a) (Vm.Alike.refl U.vm) qK⟩, va_recv hKc hPc (ci := 2) (q0 := 0) rfl rfl, fun U hU hW => ⟨rfl, by rw [hU]; exact hPc, va_K.moved hW.alike hKc⟩⟩ rfl rfl hl.1 rfl (lv_room (Nat.le_of_ble_eq_true rfl)) d_X_readInterrupt_27 (⟨Nat.le_of_ble_eq_true rfl, Nat.le_of_ble_eq_true rfl⟩)) ?_
    refine lv_istore_n (lv' := [(3, .int (nI K)), (2, .ref e0), (0, .ref x), (1, .int 0)]) hx hb d_X_readInterrupt_30 rfl hl (by decide) rfl (fun ls hl => ?_)
    refine lv_aload_n hx hb d_X_readInterrupt_31 rfl (lv_at hl 2 rfl) ?_
    refine lv_iload_n hx hb d_X_readInterrupt_32 rfl (lv_at hl 0 rfl) ?_
    refine lv_aload_n hx hb d_X_readInterrupt_33 rfl (lv_at hl 2 rfl) ?_
    refine lv_aload_n hx hb d_X_readInterrupt_34 rfl (lv_at hl 2 rfl) ?_
    refine lv_aload_n hx hb d_X_readInterrupt_35 rfl (lv_at hl 2 rfl) ?_
    refine va_get (D := D) (ci := 4) (v := .ref sr) (C := R_X) (T := T_X) (N := 10) hx hb hg in_X hown hK hP 0 rfl rfl 6 (by decide) (hg _ gw_122) (fun _ h9 => h9) rfl d_X_readInterrupt_36 ?_
    have hPc := hP.sub (ws' := [(x, .inr (4, [.int (nI bi), .int (nI ne), .int (nI li), .int (nI sp), .int (nI q), .ref sw, .ref sr, .ref br, .ref bq, .int lb])), (sr, .inr (3, [.ref e0, .ref e1, .int (nI pl), .int (nI rw)]))]) [0, 1] rfl
    have hKc := hK.sub (tys' := []) [] rfl
    refine pci (va_runV (As := [.ref sr]) (rest := [.ref x, .int (nI K), .ref x]) ⟨hx, hb, hml, hown, hg⟩ (c_X_endLimit l D x sw sr br bq bi ne li sp q lb sr e0 e1 pl rw tw (by omega)) (cwV 1 hg (gV gw_386 gw_388 gs_8 gw_1 gw_389) rfl rfl rfl (by decide +kernel) ⟨Nat.le_of_ble_eq_true rfl, Nat.le_of_ble_eq_true rfl⟩) ⟨fun a U g mk q => by obtain ⟨q0, qP, qK, qX⟩ := q; exact ⟨q0, qP, va_K.moved (u := U) (U := U.calling g mk a) (Vm.Alike.refl U.vm) qK, qX.blind⟩, va_recv hKc hPc (ci := 4) (q0 := 0) rfl rfl, fun U hU hW => ⟨rfl, by rw [hU]; exact hPc, va_K.moved hW.alike hKc, hE.call hS noF hU hW⟩⟩ rfl rfl hl.1 rfl (lv_room (Nat.le_of_ble_eq_true rfl)) d_X_readInterrupt_39 (⟨Nat.le_of_ble_eq_true rfl, Nat.le_of_ble_eq_true rfl⟩)) ?_
    have hPc := hP.sub (ws' := [(x, .inr (4, [.int (nI bi), .int (nI ne), .int (nI li), .int (nI sp), .int (nI q), .ref sw, .ref sr, .ref br, .ref bq, .int lb]))]) [0] rfl
    have hKc := hK.sub (tys' := []) [] rfl
    refine pci (va_runV (As := [.int (nI (li - 1 - rw))]) (rest := [.int (nI K), .ref x]) ⟨hx, hb, hml, hown, hg⟩ (c_X_mostZeros l D x sw sr br bq bi ne li sp q lb (li - 1 - rw) (by omega)) (cwV 1 hg (gV gw_269 gw_271 gs_3 gw_1 gw_272) rfl rfl rfl (by decide +kernel) ⟨Nat.le_of_ble_eq_true rfl, Nat.le_of_ble_eq_true rfl⟩) ⟨fun a U g mk q => by obtain ⟨q0, qP, qK⟩ := q; exact ⟨q0, qP, va_K.moved (u := U) (U := U.calling g mk a) (Vm.Alike.refl U.vm) qK⟩, va_recv hKc hPc (ci := 4) (q0 := 0) rfl rfl, fun U hU hW => ⟨rfl, by rw [hU]; exact hPc, va_K.moved hW.alike hKc⟩⟩ rfl rfl hl.1 rfl (lv_room (Nat.le_of_ble_eq_true rfl)) d_X_readInterrupt_42 (⟨Nat.le_of_ble_eq_true rfl, Nat.le_of_ble_eq_true rfl⟩)) ?_
    have hPc := hP.sub (ws' := [(x, .inr (4, [.int (nI bi), .int (nI ne), .int (nI li), .int (nI sp), .int (nI q), .ref sw, .ref sr, .ref br, .ref bq, .int lb])), (bq, .inr (0, [.ref qa, .int (nI fi), .int (nI h)])), (qa, .inl (cB, 1000, .inl g))]) [0, 3, 4] rfl
    have hDc := hD.sub (ws' := [(x, .inr (4, [.int (nI bi), .int (nI ne), .int (nI li), .int (nI sp), .int (nI q), .ref sw, .ref sr, .ref br, .ref bq, .int lb])), (bq, .inr (0, [.ref qa, .int (nI fi), .int (nI h)])), (qa, .inl (cB, 1000, .inl g))]) [0, 3, 4] (by decide) rfl
    have hKc := hK.sub (tys' := [(cB, .byte)]) [0] rfl
    refine mci (va_runV (As := [.int (nI K), .int (nI (li - 1 - rw - q - 1))]) (rest := []) ⟨hx, hb, hml, hown, hg⟩ (c_X_takeNumberN l D x sw sr br bq bi ne li sp q lb qa cB fi h g tw K (li - 1 - rw - q - 1) z hf hh (by omega) (by omega) (by omega) hz1 hz2 hz3 hz4 hzN) (cwV 2 hg (gV gw_437 gw_439 gs_9 gw_1 gw_440) rfl rfl rfl (by decide +kernel) ⟨Nat.le_of_ble_eq_true rfl, Nat.le_of_ble_eq_true rfl⟩) ⟨fun a U g mk q => by obtain ⟨q0, qP, qK, qD, qX⟩ := q; exact ⟨q0, qP, va_K.moved (u := U) (U := U.calling g mk a) (Vm.Alike.refl U.vm) qK, qD, qX.blind⟩, va_recv hKc hPc (ci := 4) (q0 := 0) rfl rfl, fun U hU hW => ⟨rfl, by rw [hU]; exact hPc, va_K.moved hW.alike hKc, hDc.weaken (fun _ _ _ _ => trivial), hE.call hS (ad_sub hD [0, 3, 4] rfl) hU hW⟩⟩ rfl rfl hl.1 rfl (lv_room (Nat.le_of_ble_eq_true rfl)) d_X_readInterrupt_45 (⟨Nat.le_of_ble_eq_true rfl, Nat.le_of_ble_eq_true rfl⟩)) hS hP hD [0, 3, 4] rfl rfl rfl (fun H locs hP hD hS => ?_)
    have hP : va_P D CLS [(x, .inr (4, [.int (nI bi), .int (nI ne), .int (nI li), .int (nI sp), .int (nI q), .ref sw, .ref sr, .ref br, .ref bq, .int lb])), (sr, .inr (3, [.ref e0, .ref e1, .int (nI pl), .int (nI rw)])), (e0, .inr (2, [.int 0, .int (nI fs), .int (nI sm), .int (nI ct), .int (nI ng)])), (bq, .inr (0, [.ref qa, .int (nI (rpl fi ((li - 1 - rw - q - 1) + 1))), .int (nI (h - ((li - 1 - rw - q - 1) + 1)))])), (qa, .inl (cB, 1000, .inl g))] H := hP
    have hD : va_D A [(x, .inr (4, [.int (nI bi), .int (nI ne), .int (nI li), .int (nI sp), .int (nI q), .ref sw, .ref sr, .ref br, .ref bq, .int lb])), (sr, .inr (3, [.ref e0, .ref e1, .int (nI pl), .int (nI rw)])), (e0, .inr (2, [.int 0, .int (nI fs), .int (nI sm), .int (nI ct), .int (nI ng)])), (bq, .inr (0, [.ref qa, .int (nI (rpl fi ((li - 1 - rw - q - 1) + 1))), .int (nI (h - ((li - 1 - rw - q - 1) + 1)))])), (qa, .inl (cB, 1000, .inl g))] := hD
    refine lv_istore (lv' := [(4, .int (-2)), (3, .int (nI K)), (2, .ref e0), (0, .ref x), (1, .int 0)]) hx hb d_X_readInterrupt_48 hl (by decide) rfl (fun ls hl => ?_)
    refine lv_iload hx hb d_X_readInterrupt_50 (lv_at hl 0 rfl) ?_
    refine lv_if_ge (tgt := 58) hx hb d_X_readInterrupt_52 (by decide) (fun c_2 => ?_) (fun c_2 => ?_)
    · skip
      exact absurd c_2 (by decide)
    · skip
      refine lv_ldc (v := 2147483647) hx hb hown (hg _ gw_477) d_X_readInterrupt_55 ?_
      exact W.iret (v := 2147483647) hx hb hr (fun t ht hW => ⟨rfl, by rw [ht]; exact hP, (hAe ▸ hS).F ht⟩) (hAe ▸ hS).2.2 d_X_readInterrupt_57
  · skip
    exact absurd c_1 (by decide)
set_option maxHeartbeats 4000000 in
set_option maxRecDepth 100000 in
theorem c_X_readInterrupt0W (l : Launch) (D : va_G) (x sw sr br bq bi ne li sp q : Nat) (lb : Int32) (e0 e1 pl rw : Nat) (fs sm ct ng : Nat) (qa : Nat) (cB : ClassId) (fi h : Nat) (g : Nat → Int32) (tw K z : Nat) (hf : fi < 1000) (hh : h ≤ 1000) (hc0 : ct ≤ 64) (hn0 : ng ≤ 64) (hs0 : sm < 2 ^ 29) (hKb : K ≤ 29) (hK1 : sm ≤ ct * 2 ^ K) (hK2 : ∀ j, j < K → ct * 2 ^ j < sm) (hsp : sp ≤ 65536) (hq : q ≤ 29) (hli : q + 18 ≤ li) (hlb : li ≤ 200) (hrw : rw ≤ 15) (hz1 : z ≤ (li - 1 - rw - q - 1) + 1) (hz2 : z ≤ h) (hz3 : ∀ j, j < z → qb g fi h j = 0) (hz4 : z = (li - 1 - rw - q - 1) + 1 ∨ z = h ∨ qb g fi h z ≠ 0) (hzm : z ≤ (li - 1 - rw - q - 1)) (hw : h < z + 1 + tln q K (li - 1 - rw - q - 1) z) : Met l y_X_readInterrupt (WSY y_X_readInterrupt b_X_readInterrupt 6 (some .int)) ({ frames := 5, cells := 0, slots := 0, locals := 117 }) (va_Pc [.ref x, .int 0] (fun U => va_P D CLS [(x, .inr (4, [.int (nI bi), .int (nI ne), .int (nI li), .int (nI sp), .int (nI q), .ref sw, .ref sr, .ref br, .ref bq, .int lb])), (sr, .inr (3, [.ref e0, .ref e1, .int (nI pl), .int (nI rw)])), (e0, .inr (2, [.int 0, .int (nI fs), .int (nI sm), .int (nI ct), .int (nI ng)])), (bq, .inr (0, [.ref qa, .int (nI fi), .int (nI h)])), (qa, .inl (cB, 1000, .inl g))] U.heap ∧ va_K D CLS [(cB, .byte)] U ∧ va_D (fun _ => True) [(x, .inr (4, [.int (nI bi), .int (nI ne), .int (nI li), .int (nI sp), .int (nI q), .ref sw, .ref sr, .ref br, .ref bq, .int lb])), (sr, .inr (3, [.ref e0, .ref e1, .int (nI pl), .int (nI rw)])), (e0, .inr (2, [.int 0, .int (nI fs), .int (nI sm), .int (nI ct), .int (nI ng)])), (bq, .inr (0, [.ref qa, .int (nI fi), .int (nI h)])), (qa, .inl (cB, 1000, .inl g))] ∧ EV (ad [(x, .inr (4, [.int (nI bi), .int (nI ne), .int (nI li), .int (nI sp), .int (nI q), .ref sw, .ref sr, .ref br, .ref bq, .int lb])), (sr, .inr (3, [.ref e0, .ref e1, .int (nI pl), .int (nI rw)])), (e0, .inr (2, [.int 0, .int (nI fs), .int (nI sm), .int (nI ct), .int (nI ng)])), (bq, .inr (0, [.ref qa, .int (nI fi), .int (nI h)])), (qa, .inl (cB, 1000, .inl g))]) tw U)) (QM (some (.int 2147483647)) [(x, .inr (4, [.int (nI bi), .int (nI ne), .int (nI li), .int (nI sp), .int (nI q), .ref sw, .ref sr, .ref br, .ref bq, .int lb])), (sr, .inr (3, [.ref e0, .ref e1, .int (nI pl), .int (nI rw)])), (e0, .inr (2, [.int 0, .int (nI fs), .int (nI sm), .int (nI ct), .int (nI ng)])), (bq, .inr (0, [.ref qa, .int (nI fi), .int (nI h)])), (qa, .inl (cB, 1000, .inl g))] [(x, .inr (4, [.int (nI bi), .int (nI ne), .int (nI li), .int (nI sp), .int (nI q), .ref sw, .ref sr, .ref br, .ref bq, .int lb])), (sr, .inr (3, [.ref e0, .ref e1, .int (nI pl), .int (nI rw)])), (e0, .inr (2, [.int 0, .int (nI fs), .int (nI sm), .int (nI ct), .int (nI ng)])), (bq, .inr (0, [.ref qa, .int (nI fi), .int (nI h)])), (qa, .inl (cB, 1000, .inl g))] D) 0 0 (ad [(x, .inr (4, [.int (nI bi), .int (nI ne), .int (nI li), .int (nI sp), .int (nI q), .ref sw, .ref sr, .ref br, .ref bq, .int lb])), (sr, .inr (3, [.ref e0, .ref e1, .int (nI pl), .int (nI rw)])), (e0, .inr (2, [.int 0, .int (nI fs), .int (nI sm), .int (nI ct), .int (nI ng)])), (bq, .inr (0, [.ref qa, .int (nI fi), .int (nI h)])), (qa, .inl (cB, 1000, .inl g))]) := by
  refine Met.ofW (cc := b_X_readInterrupt) (maxL := 6) (ret := (some .int)) (by decide) rfl ?_
  intro p e s m args below meth c s₁ B hml hv
  obtain ⟨rfl, hP, hK, hD0, hE⟩ := hv
  have hx := B.exec
  have hb := B.bytes
  have hr := B.returns
  have hts := atoms_spec (ws := WSY y_X_readInterrupt b_X_readInterrupt 6 (some .int)) B.pre
  have hg : ∀ w ∈ GW, w.before _ s = true := fun w h => hts w (List.mem_cons_of_mem _ h)
  have hown : s.vm.findClass "LineGolomb" = some m.cls := findClass_of_methodNamed B.named
  have hlocks := B.notSynchronized
  obtain ⟨A, hAe⟩ : ∃ A, A = ad [(x, .inr (4, [.int (nI bi), .int (nI ne), .int (nI li), .int (nI sp), .int (nI q), .ref sw, .ref sr, .ref br, .ref bq, .int lb])), (sr, .inr (3, [.ref e0, .ref e1, .int (nI pl), .int (nI rw)])), (e0, .inr (2, [.int 0, .int (nI fs), .int (nI sm), .int (nI ct), .int (nI ng)])), (bq, .inr (0, [.ref qa, .int (nI fi), .int (nI h)])), (qa, .inl (cB, 1000, .inl g))] := ⟨_, rfl⟩
  have hD : va_D A [(x, .inr (4, [.int (nI bi), .int (nI ne), .int (nI li), .int (nI sp), .int (nI q), .ref sw, .ref sr, .ref br, .ref bq, .int lb])), (sr, .inr (3, [.ref e0, .ref e1, .int (nI pl), .int (nI rw)])), (e0, .inr (2, [.int 0, .int (nI fs), .int (nI sm), .int (nI ct), .int (nI ng)])), (bq, .inr (0, [.ref qa, .int (nI fi), .int (nI h)])), (qa, .inl (cB, 1000, .inl g))] := by rw [hAe]; exact va_D_ad hD0
  have hS : va_S A s.heap s.heap [] := va_S.rf
  rw [← hAe] at hE
  have hl := lv_entry ([.ref x, .int 0]) (n := 6) (Nat.le_of_ble_eq_true rfl)
  rw [lg_entry_eq]
  generalize (lg_sl ([.ref x, .int 0]) ++ List.replicate (6 - (lg_sl ([.ref x, .int 0])).length) Slot.unset).toArray = ls at hl ⊢
  have hl : lv_has ls 6 [(0, .ref x), (1, .int 0)] := hl
  refine lv_iload_n hx hb d_X_readInterrupt_0 rfl (lv_at hl 1 rfl) ?_
  have hPc := hP.sub (ws' := []) [] rfl
  have hKc := hK.sub (tys' := []) [] rfl
  refine pci (va_runS (As := [.int 0]) (rest := []) ⟨hx, hb, hml, hown, hg⟩ (c_X_isKind l D 0) (va_cwS 1 hg (gS gw_343 gw_344 gw_1 gw_345) rfl rfl rfl (by decide +kernel) ⟨Nat.le_of_ble_eq_true rfl, Nat.le_of_ble_eq_true rfl⟩) ⟨fun a U g mk q => by obtain ⟨q0, qP, qK⟩ := q; exact ⟨q0, qP, va_K.moved (u := U) (U := U.calling g mk a) (Vm.Alike.refl U.vm) qK⟩, fun U hU hW => ⟨rfl, by rw [hU]; exact hPc, va_K.moved hW.alike hKc⟩⟩ rfl rfl hl.1 rfl (lv_room (Nat.le_of_ble_eq_true rfl)) d_X_readInterrupt_1 (⟨Nat.le_of_ble_eq_true rfl, Nat.le_of_ble_eq_true rfl⟩)) ?_
  refine tpi (y := 1) (by decide) ?_
  refine lv_if_ne (tgt := 17) hx hb d_X_readInterrupt_4 (by decide) (fun c_1 => ?_) (fun c_1 => ?_)
  · skip
    refine lv_aload_n hx hb d_X_readInterrupt_17 rfl (lv_at hl 0 rfl) ?_
    refine va_get (D := D) (ci := 4) (v := .ref sr) (C := R_X) (T := T_X) (N := 10) hx hb hg in_X hown hK hP 0 rfl rfl 6 (by decide) (hg _ gw_122) (fun _ h9 => h9) rfl d_X_readInterrupt_18 ?_
    refine lv_iload_n hx hb d_X_readInterrupt_21 rfl (lv_at hl 1 rfl) ?_
    have hPc := hP.sub (ws' := [(sr, .inr (3, [.ref e0, .ref e1, .int (nI pl), .int (nI rw)]))]) [1] rfl
    have hKc := hK.sub (tys' := []) [] rfl
    refine pcr (va_runV (As := [.int 0]) (rest := []) ⟨hx, hb, hml, hown, hg⟩ (c_S_endsOf0 l D sr e0 e1 pl rw) (cwV 1 hg (gV gw_367 gw_368 gw_369 gw_5 gw_370) rfl rfl rfl (by decide +kernel) ⟨Nat.le_of_ble_eq_true rfl, Nat.le_of_ble_eq_true rfl⟩) ⟨fun a U g mk q => by obtain ⟨q0, qP, qK⟩ := q; exact ⟨q0, qP, va_K.moved (u := U) (U := U.calling g mk a) (Vm.Alike.refl U.vm) qK⟩, va_recv hKc hPc (ci := 3) (q0 := 0) rfl rfl, fun U hU hW => ⟨rfl, by rw [hU]; exact hPc, va_K.moved hW.alike hKc⟩⟩ rfl rfl hl.1 rfl (lv_room (Nat.le_of_ble_eq_true rfl)) d_X_readInterrupt_22 (⟨Nat.le_of_ble_eq_true rfl, Nat.le_of_ble_eq_true rfl⟩)) ?_
    refine lv_astore_n (lv' := [(2, .ref e0), (0, .ref x), (1, .int 0)]) hx hb d_X_readInterrupt_25 rfl hl (by decide) rfl (fun ls hl => ?_)
    refine lv_aload_n hx hb d_X_readInterrupt_26 rfl (lv_at hl 0 rfl) ?_
    have hPc := hP.sub (ws' := [(e0, .inr (2, [.int 0, .int (nI fs), .int (nI sm), .int (nI ct), .int (nI ng)]))]) [2] rfl
    have hKc := hK.sub (tys' := []) [] rfl
    refine pci (va_runV (As := []) (rest := []) ⟨hx, hb, hml, hown, hg⟩ (c_E_shift0 l D e0 fs sm ct ng K hc0 (by omega) hKb hK1 hK2) (cwV 0 hg (gV gw_371 gw_372 gw_373 gw_6 gw_374) rfl rfl rfl (by decide +kernel) ⟨Nat.le_of_ble_eq_true rfl, Nat.le_of_ble_eq_true rfl⟩) ⟨fun a U g mk q => by obtain ⟨q0, qP, qK⟩ := q; exact ⟨q0, qP, va_K.moved (u := U) (U := U.calling g mk a) (Vm.Alike.refl U.vm) qK⟩, va_recv hKc hPc (ci := 2) (q0 := 0) rfl rfl, fun U hU hW => ⟨rfl, by rw [hU]; exact hPc, va_K.moved hW.alike hKc⟩⟩ rfl rfl hl.1 rfl (lv_room (Nat.le_of_ble_eq_true rfl)) d_X_readInterrupt_27 (⟨Nat.le_of_ble_eq_true rfl, Nat.le_of_ble_eq_true rfl⟩)) ?_
    refine lv_istore_n (lv' := [(3, .int (nI K)), (2, .ref e0), (0, .ref x), (1, .int 0)]) hx hb d_X_readInterrupt_30 rfl hl (by decide) rfl (fun ls hl => ?_)
    refine lv_aload_n hx hb d_X_readInterrupt_31 rfl (lv_at hl 2 rfl) ?_
    refine lv_iload_n hx hb d_X_readInterrupt_32 rfl (lv_at hl 0 rfl) ?_
    refine lv_aload_n hx hb d_X_readInterrupt_33 rfl (lv_at hl 2 rfl) ?_
    refine lv_aload_n hx hb d_X_readInterrupt_34 rfl (lv_at hl 2 rfl) ?_
    refine lv_aload_n hx hb d_X_readInterrupt_35 rfl (lv_at hl 2 rfl) ?_
    refine va_get (D := D) (ci := 4) (v := .ref sr) (C := R_X) (T := T_X) (N := 10) hx hb hg in_X hown hK hP 0 rfl rfl 6 (by decide) (hg _ gw_122) (fun _ h9 => h9) rfl d_X_readInterrupt_36 ?_
    have hPc := hP.sub (ws' := [(x, .inr (4, [.int (nI bi), .int (nI ne), .int (nI li), .int (nI sp), .int (nI q), .ref sw, .ref sr, .ref br, .ref bq, .int lb])), (sr, .inr (3, [.ref e0, .ref e1, .int (nI pl), .int (nI rw)]))]) [0, 1] rfl
    have hKc := hK.sub (tys' := []) [] rfl
    refine pci (va_runV (As := [.ref sr]) (rest := [.ref x, .int (nI K), .ref x]) ⟨hx, hb, hml, hown, hg⟩ (c_X_endLimit l D x sw sr br bq bi ne li sp q lb sr e0 e1 pl rw tw (by omega)) (cwV 1 hg (gV gw_386 gw_388 gs_8 gw_1 gw_389) rfl rfl rfl (by decide +kernel) ⟨Nat.le_of_ble_eq_true rfl, Nat.le_of_ble_eq_true rfl⟩) ⟨fun a U g mk q => by obtain ⟨q0, qP, qK, qX⟩ := q; exact ⟨q0, qP, va_K.moved (u := U) (U := U.calling g mk a) (Vm.Alike.refl U.vm) qK, qX.blind⟩, va_recv hKc hPc (ci := 4) (q0 := 0) rfl rfl, fun U hU hW => ⟨rfl, by rw [hU]; exact hPc, va_K.moved hW.alike hKc, hE.call hS noF hU hW⟩⟩ rfl rfl hl.1 rfl (lv_room (Nat.le_of_ble_eq_true rfl)) d_X_readInterrupt_39 (⟨Nat.le_of_ble_eq_true rfl, Nat.le_of_ble_eq_true rfl⟩)) ?_
    have hPc := hP.sub (ws' := [(x, .inr (4, [.int (nI bi), .int (nI ne), .int (nI li), .int (nI sp), .int (nI q), .ref sw, .ref sr, .ref br, .ref bq, .int lb]))]) [0] rfl
    have hKc := hK.sub (tys' := []) [] rfl
    refine pci (va_runV (As := [.int (nI (li - 1 - rw))]) (rest := [.int (nI K), .ref x]) ⟨hx, hb, hml, hown, hg⟩ (c_X_mostZeros l D x sw sr br bq bi ne li sp q lb (li - 1 - rw) (by omega)) (cwV 1 hg (gV gw_269 gw_271 gs_3 gw_1 gw_272) rfl rfl rfl (by decide +kernel) ⟨Nat.le_of_ble_eq_true rfl, Nat.le_of_ble_eq_true rfl⟩) ⟨fun a U g mk q => by obtain ⟨q0, qP, qK⟩ := q; exact ⟨q0, qP, va_K.moved (u := U) (U := U.calling g mk a) (Vm.Alike.refl U.vm) qK⟩, va_recv hKc hPc (ci := 4) (q0 := 0) rfl rfl, fun U hU hW => ⟨rfl, by rw [hU]; exact hPc, va_K.moved hW.alike hKc⟩⟩ rfl rfl hl.1 rfl (lv_room (Nat.le_of_ble_eq_true rfl)) d_X_readInterrupt_42 (⟨Nat.le_of_ble_eq_true rfl, Nat.le_of_ble_eq_true rfl⟩)) ?_
    have hPc := hP.sub (ws' := [(x, .inr (4, [.int (nI bi), .int (nI ne), .int (nI li), .int (nI sp), .int (nI q), .ref sw, .ref sr, .ref br, .ref bq, .int lb])), (bq, .inr (0, [.ref qa, .int (nI fi), .int (nI h)])), (qa, .inl (cB, 1000, .inl g))]) [0, 3, 4] rfl
    have hDc := hD.sub (ws' := [(x, .inr (4, [.int (nI bi), .int (nI ne), .int (nI li), .int (nI sp), .int (nI q), .ref sw, .ref sr, .ref br, .ref bq, .int lb])), (bq, .inr (0, [.ref qa, .int (nI fi), .int (nI h)])), (qa, .inl (cB, 1000, .inl g))]) [0, 3, 4] (by decide) rfl
    have hKc := hK.sub (tys' := [(cB, .byte)]) [0] rfl
    refine mci (va_runV (As := [.int (nI K), .int (nI (li - 1 - rw - q - 1))]) (rest := []) ⟨hx, hb, hml, hown, hg⟩ (c_X_takeNumberW l D x sw sr br bq bi ne li sp q lb qa cB fi h g tw K (li - 1 - rw - q - 1) z hf hh (by omega) (by omega) (by omega) hz1 hz2 hz3 hz4 hzm hw) (cwV 2 hg (gV gw_437 gw_439 gs_9 gw_1 gw_440) rfl rfl rfl (by decide +kernel) ⟨Nat.le_of_ble_eq_true rfl, Nat.le_of_ble_eq_true rfl⟩) ⟨fun a U g mk q => by obtain ⟨q0, qP, qK, qD, qX⟩ := q; exact ⟨q0, qP, va_K.moved (u := U) (U := U.calling g mk a) (Vm.Alike.refl U.vm) qK, qD, qX.blind⟩, va_recv hKc hPc (ci := 4) (q0 := 0) rfl rfl, fun U hU hW => ⟨rfl, by rw [hU]; exact hPc, va_K.moved hW.alike hKc, hDc.weaken (fun _ _ _ _ => trivial), hE.call hS (ad_sub hD [0, 3, 4] rfl) hU hW⟩⟩ rfl rfl hl.1 rfl (lv_room (Nat.le_of_ble_eq_true rfl)) d_X_readInterrupt_45 (⟨Nat.le_of_ble_eq_true rfl, Nat.le_of_ble_eq_true rfl⟩)) hS hP hD [0, 3, 4] rfl rfl rfl (fun H locs hP hD hS => ?_)
    have hP : va_P D CLS [(x, .inr (4, [.int (nI bi), .int (nI ne), .int (nI li), .int (nI sp), .int (nI q), .ref sw, .ref sr, .ref br, .ref bq, .int lb])), (sr, .inr (3, [.ref e0, .ref e1, .int (nI pl), .int (nI rw)])), (e0, .inr (2, [.int 0, .int (nI fs), .int (nI sm), .int (nI ct), .int (nI ng)])), (bq, .inr (0, [.ref qa, .int (nI fi), .int (nI h)])), (qa, .inl (cB, 1000, .inl g))] H := hP
    have hD : va_D A [(x, .inr (4, [.int (nI bi), .int (nI ne), .int (nI li), .int (nI sp), .int (nI q), .ref sw, .ref sr, .ref br, .ref bq, .int lb])), (sr, .inr (3, [.ref e0, .ref e1, .int (nI pl), .int (nI rw)])), (e0, .inr (2, [.int 0, .int (nI fs), .int (nI sm), .int (nI ct), .int (nI ng)])), (bq, .inr (0, [.ref qa, .int (nI fi), .int (nI h)])), (qa, .inl (cB, 1000, .inl g))] := hD
    refine lv_istore (lv' := [(4, .int (-1)), (3, .int (nI K)), (2, .ref e0), (0, .ref x), (1, .int 0)]) hx hb d_X_readInterrupt_48 hl (by decide) rfl (fun ls hl => ?_)
    refine lv_iload hx hb d_X_readInterrupt_50 (lv_at hl 0 rfl) ?_
    refine lv_if_ge (tgt := 58) hx hb d_X_readInterrupt_52 (by decide) (fun c_2 => ?_) (fun c_2 => ?_)
    · skip
      exact absurd c_2 (by decide)
    · skip
      refine lv_ldc (v := 2147483647) hx hb hown (hg _ gw_477) d_X_readInterrupt_55 ?_
      exact W.iret (v := 2147483647) hx hb hr (fun t ht hW => ⟨rfl, by rw [ht]; exact hP, (hAe ▸ hS).F ht⟩) (hAe ▸ hS).2.2 d_X_readInterrupt_57
  · skip
    exact absurd c_1 (by decide)
set_option maxHeartbeats 4000000 in
set_option maxRecDepth 100000 in
theorem c_X_readInterrupt0B (l : Launch) (D : va_G) (x sw sr br bq bi ne li sp q : Nat) (lb : Int32) (e0 e1 pl rw : Nat) (fs sm ct ng : Nat) (qa : Nat) (cB : ClassId) (fi h : Nat) (g : Nat → Int32) (tw K z : Nat) (hf : fi < 1000) (hh : h ≤ 1000) (hc0 : ct ≤ 64) (hn0 : ng ≤ 64) (hs0 : sm < 2 ^ 29) (hKb : K ≤ 29) (hK1 : sm ≤ ct * 2 ^ K) (hK2 : ∀ j, j < K → ct * 2 ^ j < sm) (hsp : sp ≤ 65536) (hq : q ≤ 29) (hli : q + 18 ≤ li) (hlb : li ≤ 200) (hrw : rw ≤ 15) (hz1 : z ≤ (li - 1 - rw - q - 1) + 1) (hz2 : z ≤ h) (hz3 : ∀ j, j < z → qb g fi h j = 0) (hz4 : z = (li - 1 - rw - q - 1) + 1 ∨ z = h ∨ qb g fi h z ≠ 0) (hzm : z ≤ (li - 1 - rw - q - 1)) (hw : z + 1 + tln q K (li - 1 - rw - q - 1) z ≤ h) (hzk : z * 2 ^ K < 2 ^ 31) (N : Nat) (hN : rnum (qb g fi h) q K (li - 1 - rw - q - 1) z = nI N) (hNb : N < 2 ^ 29) (eb : Int32) (heb : eb = if ((N + 0) % 2 = 1 ↔ (K = 0 ∧ 2 * ng < ct)) then nI ((N + 0 + 1) / 2) else -nI ((N + 0 + 1) / 2)) (hbad : ¬ (-((sp / 2 : Nat) : Int) ≤ eb.toInt ∧ eb.toInt ≤ ((sp / 2 : Nat) : Int) ∧ (¬ eb = 0 ∨ (0 : Int32) = 0))) : Met l y_X_readInterrupt (WSY y_X_readInterrupt b_X_readInterrupt 6 (some .int)) ({ frames := 5, cells := 0, slots := 0, locals := 117 }) (va_Pc [.ref x, .int 0] (fun U => va_P D CLS [(x, .inr (4, [.int (nI bi), .int (nI ne), .int (nI li), .int (nI sp), .int (nI q), .ref sw, .ref sr, .ref br, .ref bq, .int lb])), (sr, .inr (3, [.ref e0, .ref e1, .int (nI pl), .int (nI rw)])), (e0, .inr (2, [.int 0, .int (nI fs), .int (nI sm), .int (nI ct), .int (nI ng)])), (bq, .inr (0, [.ref qa, .int (nI fi), .int (nI h)])), (qa, .inl (cB, 1000, .inl g))] U.heap ∧ va_K D CLS [(cB, .byte)] U ∧ va_D (fun _ => True) [(x, .inr (4, [.int (nI bi), .int (nI ne), .int (nI li), .int (nI sp), .int (nI q), .ref sw, .ref sr, .ref br, .ref bq, .int lb])), (sr, .inr (3, [.ref e0, .ref e1, .int (nI pl), .int (nI rw)])), (e0, .inr (2, [.int 0, .int (nI fs), .int (nI sm), .int (nI ct), .int (nI ng)])), (bq, .inr (0, [.ref qa, .int (nI fi), .int (nI h)])), (qa, .inl (cB, 1000, .inl g))] ∧ EV (ad [(x, .inr (4, [.int (nI bi), .int (nI ne), .int (nI li), .int (nI sp), .int (nI q), .ref sw, .ref sr, .ref br, .ref bq, .int lb])), (sr, .inr (3, [.ref e0, .ref e1, .int (nI pl), .int (nI rw)])), (e0, .inr (2, [.int 0, .int (nI fs), .int (nI sm), .int (nI ct), .int (nI ng)])), (bq, .inr (0, [.ref qa, .int (nI fi), .int (nI h)])), (qa, .inl (cB, 1000, .inl g))]) tw U)) (QM (some (.int 2147483647)) [(x, .inr (4, [.int (nI bi), .int (nI ne), .int (nI li), .int (nI sp), .int (nI q), .ref sw, .ref sr, .ref br, .ref bq, .int lb])), (sr, .inr (3, [.ref e0, .ref e1, .int (nI pl), .int (nI rw)])), (e0, .inr (2, [.int 0, .int (nI fs), .int (nI sm), .int (nI ct), .int (nI ng)])), (bq, .inr (0, [.ref qa, .int (nI fi), .int (nI h)])), (qa, .inl (cB, 1000, .inl g))] [(x, .inr (4, [.int (nI bi), .int (nI ne), .int (nI li), .int (nI sp), .int (nI q), .ref sw, .ref sr, .ref br, .ref bq, .int lb])), (sr, .inr (3, [.ref e0, .ref e1, .int (nI pl), .int (nI rw)])), (e0, .inr (2, [.int 0, .int (nI fs), .int (nI sm), .int (nI ct), .int (nI ng)])), (bq, .inr (0, [.ref qa, .int (nI (rpl fi (z + 1 + tln q K (li - 1 - rw - q - 1) z))), .int (nI (h - (z + 1 + tln q K (li - 1 - rw - q - 1) z)))])), (qa, .inl (cB, 1000, .inl g))] D) 0 0 (ad [(x, .inr (4, [.int (nI bi), .int (nI ne), .int (nI li), .int (nI sp), .int (nI q), .ref sw, .ref sr, .ref br, .ref bq, .int lb])), (sr, .inr (3, [.ref e0, .ref e1, .int (nI pl), .int (nI rw)])), (e0, .inr (2, [.int 0, .int (nI fs), .int (nI sm), .int (nI ct), .int (nI ng)])), (bq, .inr (0, [.ref qa, .int (nI fi), .int (nI h)])), (qa, .inl (cB, 1000, .inl g))]) := by
  refine Met.ofW (cc := b_X_readInterrupt) (maxL := 6) (ret := (some .int)) (by decide) rfl ?_
  intro p e s m args below meth c s₁ B hml hv
  obtain ⟨rfl, hP, hK, hD0, hE⟩ := hv
  have hx := B.exec
  have hb := B.bytes
  have hr := B.returns
  have hts := atoms_spec (ws := WSY y_X_readInterrupt b_X_readInterrupt 6 (some .int)) B.pre
  have hg : ∀ w ∈ GW, w.before _ s = true := fun w h => hts w (List.mem_cons_of_mem _ h)
  have hown : s.vm.findClass "LineGolomb" = some m.cls := findClass_of_methodNamed B.named
  have hlocks := B.notSynchronized
  obtain ⟨A, hAe⟩ : ∃ A, A = ad [(x, .inr (4, [.int (nI bi), .int (nI ne), .int (nI li), .int (nI sp), .int (nI q), .ref sw, .ref sr, .ref br, .ref bq, .int lb])), (sr, .inr (3, [.ref e0, .ref e1, .int (nI pl), .int (nI rw)])), (e0, .inr (2, [.int 0, .int (nI fs), .int (nI sm), .int (nI ct), .int (nI ng)])), (bq, .inr (0, [.ref qa, .int (nI fi), .int (nI h)])), (qa, .inl (cB, 1000, .inl g))] := ⟨_, rfl⟩
  have hD : va_D A [(x, .inr (4, [.int (nI bi), .int (nI ne), .int (nI li), .int (nI sp), .int (nI q), .ref sw, .ref sr, .ref br, .ref bq, .int lb])), (sr, .inr (3, [.ref e0, .ref e1, .int (nI pl), .int (nI rw)])), (e0, .inr (2, [.int 0, .int (nI fs), .int (nI sm), .int (nI ct), .int (nI ng)])), (bq, .inr (0, [.ref qa, .int (nI fi), .int (nI h)])), (qa, .inl (cB, 1000, .inl g))] := by rw [hAe]; exact va_D_ad hD0
  have hS : va_S A s.heap s.heap [] := va_S.rf
  rw [← hAe] at hE
  have hl := lv_entry ([.ref x, .int 0]) (n := 6) (Nat.le_of_ble_eq_true rfl)
  rw [lg_entry_eq]
  generalize (lg_sl ([.ref x, .int 0]) ++ List.replicate (6 - (lg_sl ([.ref x, .int 0])).length) Slot.unset).toArray = ls at hl ⊢
  have hl : lv_has ls 6 [(0, .ref x), (1, .int 0)] := hl
  refine lv_iload_n hx hb d_X_readInterrupt_0 rfl (lv_at hl 1 rfl) ?_
  have hPc := hP.sub (ws' := []) [] rfl
  have hKc := hK.sub (tys' := []) [] rfl
  refine pci (va_runS (As := [.int 0]) (rest := []) ⟨hx, hb, hml, hown, hg⟩ (c_X_isKind l D 0) (va_cwS 1 hg (gS gw_343 gw_344 gw_1 gw_345) rfl rfl rfl (by decide +kernel) ⟨Nat.le_of_ble_eq_true rfl, Nat.le_of_ble_eq_true rfl⟩) ⟨fun a U g mk q => by obtain ⟨q0, qP, qK⟩ := q; exact ⟨q0, qP, va_K.moved (u := U) (U := U.calling g mk a) (Vm.Alike.refl U.vm) qK⟩, fun U hU hW => ⟨rfl, by rw [hU]; exact hPc, va_K.moved hW.alike hKc⟩⟩ rfl rfl hl.1 rfl (lv_room (Nat.le_of_ble_eq_true rfl)) d_X_readInterrupt_1 (⟨Nat.le_of_ble_eq_true rfl, Nat.le_of_ble_eq_true rfl⟩)) ?_
  refine tpi (y := 1) (by decide) ?_
  refine lv_if_ne (tgt := 17) hx hb d_X_readInterrupt_4 (by decide) (fun c_1 => ?_) (fun c_1 => ?_)
  · skip
    refine lv_aload_n hx hb d_X_readInterrupt_17 rfl (lv_at hl 0 rfl) ?_
    refine va_get (D := D) (ci := 4) (v := .ref sr) (C := R_X) (T := T_X) (N := 10) hx hb hg in_X hown hK hP 0 rfl rfl 6 (by decide) (hg _ gw_122) (fun _ h9 => h9) rfl d_X_readInterrupt_18 ?_
    refine lv_iload_n hx hb d_X_readInterrupt_21 rfl (lv_at hl 1 rfl) ?_
    have hPc := hP.sub (ws' := [(sr, .inr (3, [.ref e0, .ref e1, .int (nI pl), .int (nI rw)]))]) [1] rfl
    have hKc := hK.sub (tys' := []) [] rfl
    refine pcr (va_runV (As := [.int 0]) (rest := []) ⟨hx, hb, hml, hown, hg⟩ (c_S_endsOf0 l D sr e0 e1 pl rw) (cwV 1 hg (gV gw_367 gw_368 gw_369 gw_5 gw_370) rfl rfl rfl (by decide +kernel) ⟨Nat.le_of_ble_eq_true rfl, Nat.le_of_ble_eq_true rfl⟩) ⟨fun a U g mk q => by obtain ⟨q0, qP, qK⟩ := q; exact ⟨q0, qP, va_K.moved (u := U) (U := U.calling g mk a) (Vm.Alike.refl U.vm) qK⟩, va_recv hKc hPc (ci := 3) (q0 := 0) rfl rfl, fun U hU hW => ⟨rfl, by rw [hU]; exact hPc, va_K.moved hW.alike hKc⟩⟩ rfl rfl hl.1 rfl (lv_room (Nat.le_of_ble_eq_true rfl)) d_X_readInterrupt_22 (⟨Nat.le_of_ble_eq_true rfl, Nat.le_of_ble_eq_true rfl⟩)) ?_
    refine lv_astore_n (lv' := [(2, .ref e0), (0, .ref x), (1, .int 0)]) hx hb d_X_readInterrupt_25 rfl hl (by decide) rfl (fun ls hl => ?_)
    refine lv_aload_n hx hb d_X_readInterrupt_26 rfl (lv_at hl 0 rfl) ?_
    have hPc := hP.sub (ws' := [(e0, .inr (2, [.int 0, .int (nI fs), .int (nI sm), .int (nI ct), .int (nI ng)]))]) [2] rfl
    have hKc := hK.sub (tys' := []) [] rfl
    refine pci (va_runV (As := []) (rest := []) ⟨hx, hb, hml, hown, hg⟩ (c_E_shift0 l D e0 fs sm ct ng K hc0 (by omega) hKb hK1 hK2) (cwV 0 hg (gV gw_371 gw_372 gw_373 gw_6 gw_374) rfl rfl rfl (by decide +kernel) ⟨Nat.le_of_ble_eq_true rfl, Nat.le_of_ble_eq_true rfl⟩) ⟨fun a U g mk q => by obtain ⟨q0, qP, qK⟩ := q; exact ⟨q0, qP, va_K.moved (u := U) (U := U.calling g mk a) (Vm.Alike.refl U.vm) qK⟩, va_recv hKc hPc (ci := 2) (q0 := 0) rfl rfl, fun U hU hW => ⟨rfl, by rw [hU]; exact hPc, va_K.moved hW.alike hKc⟩⟩ rfl rfl hl.1 rfl (lv_room (Nat.le_of_ble_eq_true rfl)) d_X_readInterrupt_27 (⟨Nat.le_of_ble_eq_true rfl, Nat.le_of_ble_eq_true rfl⟩)) ?_
    refine lv_istore_n (lv' := [(3, .int (nI K)), (2, .ref e0), (0, .ref x), (1, .int 0)]) hx hb d_X_readInterrupt_30 rfl hl (by decide) rfl (fun ls hl => ?_)
    refine lv_aload_n hx hb d_X_readInterrupt_31 rfl (lv_at hl 2 rfl) ?_
    refine lv_iload_n hx hb d_X_readInterrupt_32 rfl (lv_at hl 0 rfl) ?_
    refine lv_aload_n hx hb d_X_readInterrupt_33 rfl (lv_at hl 2 rfl) ?_
    refine lv_aload_n hx hb d_X_readInterrupt_34 rfl (lv_at hl 2 rfl) ?_
    refine lv_aload_n hx hb d_X_readInterrupt_35 rfl (lv_at hl 2 rfl) ?_
    refine va_get (D := D) (ci := 4) (v := .ref sr) (C := R_X) (T := T_X) (N := 10) hx hb hg in_X hown hK hP 0 rfl rfl 6 (by decide) (hg _ gw_122) (fun _ h9 => h9) rfl d_X_readInterrupt_36 ?_
    have hPc := hP.sub (ws' := [(x, .inr (4, [.int (nI bi), .int (nI ne), .int (nI li), .int (nI sp), .int (nI q), .ref sw, .ref sr, .ref br, .ref bq, .int lb])), (sr, .inr (3, [.ref e0, .ref e1, .int (nI pl), .int (nI rw)]))]) [0, 1] rfl
    have hKc := hK.sub (tys' := []) [] rfl
    refine pci (va_runV (As := [.ref sr]) (rest := [.ref x, .int (nI K), .ref x]) ⟨hx, hb, hml, hown, hg⟩ (c_X_endLimit l D x sw sr br bq bi ne li sp q lb sr e0 e1 pl rw tw (by omega)) (cwV 1 hg (gV gw_386 gw_388 gs_8 gw_1 gw_389) rfl rfl rfl (by decide +kernel) ⟨Nat.le_of_ble_eq_true rfl, Nat.le_of_ble_eq_true rfl⟩) ⟨fun a U g mk q => by obtain ⟨q0, qP, qK, qX⟩ := q; exact ⟨q0, qP, va_K.moved (u := U) (U := U.calling g mk a) (Vm.Alike.refl U.vm) qK, qX.blind⟩, va_recv hKc hPc (ci := 4) (q0 := 0) rfl rfl, fun U hU hW => ⟨rfl, by rw [hU]; exact hPc, va_K.moved hW.alike hKc, hE.call hS noF hU hW⟩⟩ rfl rfl hl.1 rfl (lv_room (Nat.le_of_ble_eq_true rfl)) d_X_readInterrupt_39 (⟨Nat.le_of_ble_eq_true rfl, Nat.le_of_ble_eq_true rfl⟩)) ?_
    have hPc := hP.sub (ws' := [(x, .inr (4, [.int (nI bi), .int (nI ne), .int (nI li), .int (nI sp), .int (nI q), .ref sw, .ref sr, .ref br, .ref bq, .int lb]))]) [0] rfl
    have hKc := hK.sub (tys' := []) [] rfl
    refine pci (va_runV (As := [.int (nI (li - 1 - rw))]) (rest := [.int (nI K), .ref x]) ⟨hx, hb, hml, hown, hg⟩ (c_X_mostZeros l D x sw sr br bq bi ne li sp q lb (li - 1 - rw) (by omega)) (cwV 1 hg (gV gw_269 gw_271 gs_3 gw_1 gw_272) rfl rfl rfl (by decide +kernel) ⟨Nat.le_of_ble_eq_true rfl, Nat.le_of_ble_eq_true rfl⟩) ⟨fun a U g mk q => by obtain ⟨q0, qP, qK⟩ := q; exact ⟨q0, qP, va_K.moved (u := U) (U := U.calling g mk a) (Vm.Alike.refl U.vm) qK⟩, va_recv hKc hPc (ci := 4) (q0 := 0) rfl rfl, fun U hU hW => ⟨rfl, by rw [hU]; exact hPc, va_K.moved hW.alike hKc⟩⟩ rfl rfl hl.1 rfl (lv_room (Nat.le_of_ble_eq_true rfl)) d_X_readInterrupt_42 (⟨Nat.le_of_ble_eq_true rfl, Nat.le_of_ble_eq_true rfl⟩)) ?_
    have hPc := hP.sub (ws' := [(x, .inr (4, [.int (nI bi), .int (nI ne), .int (nI li), .int (nI sp), .int (nI q), .ref sw, .ref sr, .ref br, .ref bq, .int lb])), (bq, .inr (0, [.ref qa, .int (nI fi), .int (nI h)])), (qa, .inl (cB, 1000, .inl g))]) [0, 3, 4] rfl
    have hDc := hD.sub (ws' := [(x, .inr (4, [.int (nI bi), .int (nI ne), .int (nI li), .int (nI sp), .int (nI q), .ref sw, .ref sr, .ref br, .ref bq, .int lb])), (bq, .inr (0, [.ref qa, .int (nI fi), .int (nI h)])), (qa, .inl (cB, 1000, .inl g))]) [0, 3, 4] (by decide) rfl
    have hKc := hK.sub (tys' := [(cB, .byte)]) [0] rfl
    refine mci (va_runV (As := [.int (nI K), .int (nI (li - 1 - rw - q - 1))]) (rest := []) ⟨hx, hb, hml, hown, hg⟩ (c_X_takeNumberG l D x sw sr br bq bi ne li sp q lb qa cB fi h g tw K (li - 1 - rw - q - 1) z hf hh (by omega) (by omega) (by omega) hz1 hz2 hz3 hz4 hzm hw hzk) (cwV 2 hg (gV gw_437 gw_439 gs_9 gw_1 gw_440) rfl rfl rfl (by decide +kernel) ⟨Nat.le_of_ble_eq_true rfl, Nat.le_of_ble_eq_true rfl⟩) ⟨fun a U g mk q => by obtain ⟨q0, qP, qK, qD, qX⟩ := q; exact ⟨q0, qP, va_K.moved (u := U) (U := U.calling g mk a) (Vm.Alike.refl U.vm) qK, qD, qX.blind⟩, va_recv hKc hPc (ci := 4) (q0 := 0) rfl rfl, fun U hU hW => ⟨rfl, by rw [hU]; exact hPc, va_K.moved hW.alike hKc, hDc.weaken (fun _ _ _ _ => trivial), hE.call hS (ad_sub hD [0, 3, 4] rfl) hU hW⟩⟩ rfl rfl hl.1 rfl (lv_room (Nat.le_of_ble_eq_true rfl)) d_X_readInterrupt_45 (⟨Nat.le_of_ble_eq_true rfl, Nat.le_of_ble_eq_true rfl⟩)) hS hP hD [0, 3, 4] rfl rfl rfl (fun H locs hP hD hS => ?_)
    have hP : va_P D CLS [(x, .inr (4, [.int (nI bi), .int (nI ne), .int (nI li), .int (nI sp), .int (nI q), .ref sw, .ref sr, .ref br, .ref bq, .int lb])), (sr, .inr (3, [.ref e0, .ref e1, .int (nI pl), .int (nI rw)])), (e0, .inr (2, [.int 0, .int (nI fs), .int (nI sm), .int (nI ct), .int (nI ng)])), (bq, .inr (0, [.ref qa, .int (nI (rpl fi (z + 1 + tln q K (li - 1 - rw - q - 1) z))), .int (nI (h - (z + 1 + tln q K (li - 1 - rw - q - 1) z)))])), (qa, .inl (cB, 1000, .inl g))] H := hP
    have hD : va_D A [(x, .inr (4, [.int (nI bi), .int (nI ne), .int (nI li), .int (nI sp), .int (nI q), .ref sw, .ref sr, .ref br, .ref bq, .int lb])), (sr, .inr (3, [.ref e0, .ref e1, .int (nI pl), .int (nI rw)])), (e0, .inr (2, [.int 0, .int (nI fs), .int (nI sm), .int (nI ct), .int (nI ng)])), (bq, .inr (0, [.ref qa, .int (nI (rpl fi (z + 1 + tln q K (li - 1 - rw - q - 1) z))), .int (nI (h - (z + 1 + tln q K (li - 1 - rw - q - 1) z)))])), (qa, .inl (cB, 1000, .inl g))] := hD
    refine tpi (y := nI N) (hN) ?_
    refine lv_istore (lv' := [(4, .int (nI N)), (3, .int (nI K)), (2, .ref e0), (0, .ref x), (1, .int 0)]) hx hb d_X_readInterrupt_48 hl (by decide) rfl (fun ls hl => ?_)
    refine lv_iload hx hb d_X_readInterrupt_50 (lv_at hl 0 rfl) ?_
    refine lv_if_ge (tgt := 58) hx hb d_X_readInterrupt_52 (by decide) (fun c_2 => ?_) (fun c_2 => ?_)
    · skip
      refine lv_aload_n hx hb d_X_readInterrupt_58 rfl (lv_at hl 2 rfl) ?_
      refine lv_iload hx hb d_X_readInterrupt_59 (lv_at hl 0 rfl) ?_
      refine lv_iload_n hx hb d_X_readInterrupt_61 rfl (lv_at hl 1 rfl) ?_
      have hPc := hP.sub (ws' := [(e0, .inr (2, [.int 0, .int (nI fs), .int (nI sm), .int (nI ct), .int (nI ng)]))]) [2] rfl
      have hKc := hK.sub (tys' := []) [] rfl
      refine pci (va_runV (As := [.int (nI N), .int (nI K)]) (rest := []) ⟨hx, hb, hml, hown, hg⟩ (c_E_errorOf0 l D e0 fs sm ct ng N K hc0 hn0 hKb (by omega)) (cwV 2 hg (gV gw_478 gw_479 gw_480 gw_6 gw_481) rfl rfl rfl (by decide +kernel) ⟨Nat.le_of_ble_eq_true rfl, Nat.le_of_ble_eq_true rfl⟩) ⟨fun a U g mk q => by obtain ⟨q0, qP, qK⟩ := q; exact ⟨q0, qP, va_K.moved (u := U) (U := U.calling g mk a) (Vm.Alike.refl U.vm) qK⟩, va_recv hKc hPc (ci := 2) (q0 := 0) rfl rfl, fun U hU hW => ⟨rfl, by rw [hU]; exact hPc, va_K.moved hW.alike hKc⟩⟩ rfl rfl hl.1 rfl (lv_room (Nat.le_of_ble_eq_true rfl)) d_X_readInterrupt_62 (⟨Nat.le_of_ble_eq_true rfl, Nat.le_of_ble_eq_true rfl⟩)) ?_
      refine tpi (y := eb) (heb.symm) ?_
      refine lv_istore (lv' := [(5, .int eb), (4, .int (nI N)), (3, .int (nI K)), (2, .ref e0), (0, .ref x), (1, .int 0)]) hx hb d_X_readInterrupt_65 hl (by decide) rfl (fun ls hl => ?_)
      refine lv_aload_n hx hb d_X_readInterrupt_67 rfl (lv_at hl 4 rfl) ?_
      refine lv_iload_n hx hb d_X_readInterrupt_68 rfl (lv_at hl 5 rfl) ?_
      refine lv_iload hx hb d_X_readInterrupt_69 (lv_at hl 0 rfl) ?_
      have hPc := hP.sub (ws' := [(x, .inr (4, [.int (nI bi), .int (nI ne), .int (nI li), .int (nI sp), .int (nI q), .ref sw, .ref sr, .ref br, .ref bq, .int lb]))]) [0] rfl
      have hKc := hK.sub (tys' := []) [] rfl
      refine pci (va_runV (As := [.int 0, .int eb]) (rest := []) ⟨hx, hb, hml, hown, hg⟩ (c_X_isError l D x sw sr br bq bi ne li sp q lb 0 eb (by omega)) (cwV 2 hg (gV gw_362 gw_364 gs_6 gw_1 gw_365) rfl rfl rfl (by decide +kernel) ⟨Nat.le_of_ble_eq_true rfl, Nat.le_of_ble_eq_true rfl⟩) ⟨fun a U g mk q => by obtain ⟨q0, qP, qK⟩ := q; exact ⟨q0, qP, va_K.moved (u := U) (U := U.calling g mk a) (Vm.Alike.refl U.vm) qK⟩, va_recv hKc hPc (ci := 4) (q0 := 0) rfl rfl, fun U hU hW => ⟨rfl, by rw [hU]; exact hPc, va_K.moved hW.alike hKc⟩⟩ rfl rfl hl.1 rfl (lv_room (Nat.le_of_ble_eq_true rfl)) d_X_readInterrupt_71 (⟨Nat.le_of_ble_eq_true rfl, Nat.le_of_ble_eq_true rfl⟩)) ?_
      refine tpi (y := 0) (if_neg hbad) ?_
      refine lv_if_ne (tgt := 80) hx hb d_X_readInterrupt_74 (by decide) (fun c_3 => ?_) (fun c_3 => ?_)
      · skip
        exact absurd rfl c_3
      · skip
        refine lv_ldc (v := 2147483647) hx hb hown (hg _ gw_477) d_X_readInterrupt_77 ?_
        exact W.iret (v := 2147483647) hx hb hr (fun t ht hW => ⟨rfl, by rw [ht]; exact hP, (hAe ▸ hS).F ht⟩) (hAe ▸ hS).2.2 d_X_readInterrupt_79
    · skip
      exact absurd (nI_pos' (by omega)) c_2
  · skip
    exact absurd c_1 (by decide)
set_option maxHeartbeats 4000000 in
set_option maxRecDepth 100000 in
theorem c_X_readInterrupt0P (l : Launch) (D : va_G) (x sw sr br bq bi ne li sp q : Nat) (lb : Int32) (e0 e1 pl rw : Nat) (fs sm ct ng : Nat) (qa : Nat) (cB : ClassId) (fi h : Nat) (g : Nat → Int32) (tw K z : Nat) (hf : fi < 1000) (hh : h ≤ 1000) (hc0 : ct ≤ 64) (hn0 : ng ≤ 64) (hs0 : sm < 2 ^ 29) (hKb : K ≤ 29) (hK1 : sm ≤ ct * 2 ^ K) (hK2 : ∀ j, j < K → ct * 2 ^ j < sm) (hsp : sp ≤ 65536) (hq : q ≤ 29) (hli : q + 18 ≤ li) (hlb : li ≤ 200) (hrw : rw ≤ 15) (hz1 : z ≤ (li - 1 - rw - q - 1) + 1) (hz2 : z ≤ h) (hz3 : ∀ j, j < z → qb g fi h j = 0) (hz4 : z = (li - 1 - rw - q - 1) + 1 ∨ z = h ∨ qb g fi h z ≠ 0) (hzm : z ≤ (li - 1 - rw - q - 1)) (hw : z + 1 + tln q K (li - 1 - rw - q - 1) z ≤ h) (hzk : z * 2 ^ K < 2 ^ 31) (N : Nat) (hN : rnum (qb g fi h) q K (li - 1 - rw - q - 1) z = nI N) (hNb : N < 2 ^ 29) (hs2 : ((N + 0) % 2 = 1 ↔ (K = 0 ∧ 2 * ng < ct)) ∨ ((N + 0 + 1) / 2) = 0) (hn : ((N + 0 + 1) / 2) ≤ sp / 2) : Met l y_X_readInterrupt (WSY y_X_readInterrupt b_X_readInterrupt 6 (some .int)) ({ frames := 5, cells := 0, slots := 0, locals := 117 }) (va_Pc [.ref x, .int 0] (fun U => va_P D CLS [(x, .inr (4, [.int (nI bi), .int (nI ne), .int (nI li), .int (nI sp), .int (nI q), .ref sw, .ref sr, .ref br, .ref bq, .int lb])), (sr, .inr (3, [.ref e0, .ref e1, .int (nI pl), .int (nI rw)])), (e0, .inr (2, [.int 0, .int (nI fs), .int (nI sm), .int (nI ct), .int (nI ng)])), (bq, .inr (0, [.ref qa, .int (nI fi), .int (nI h)])), (qa, .inl (cB, 1000, .inl g))] U.heap ∧ va_K D CLS [(cB, .byte)] U ∧ va_D (fun _ => True) [(x, .inr (4, [.int (nI bi), .int (nI ne), .int (nI li), .int (nI sp), .int (nI q), .ref sw, .ref sr, .ref br, .ref bq, .int lb])), (sr, .inr (3, [.ref e0, .ref e1, .int (nI pl), .int (nI rw)])), (e0, .inr (2, [.int 0, .int (nI fs), .int (nI sm), .int (nI ct), .int (nI ng)])), (bq, .inr (0, [.ref qa, .int (nI fi), .int (nI h)])), (qa, .inl (cB, 1000, .inl g))] ∧ EV (ad [(x, .inr (4, [.int (nI bi), .int (nI ne), .int (nI li), .int (nI sp), .int (nI q), .ref sw, .ref sr, .ref br, .ref bq, .int lb])), (sr, .inr (3, [.ref e0, .ref e1, .int (nI pl), .int (nI rw)])), (e0, .inr (2, [.int 0, .int (nI fs), .int (nI sm), .int (nI ct), .int (nI ng)])), (bq, .inr (0, [.ref qa, .int (nI fi), .int (nI h)])), (qa, .inl (cB, 1000, .inl g))]) tw U)) (QM (some (.int (nI ((N + 0 + 1) / 2)))) [(x, .inr (4, [.int (nI bi), .int (nI ne), .int (nI li), .int (nI sp), .int (nI q), .ref sw, .ref sr, .ref br, .ref bq, .int lb])), (sr, .inr (3, [.ref e0, .ref e1, .int (nI pl), .int (nI rw)])), (e0, .inr (2, [.int 0, .int (nI fs), .int (nI sm), .int (nI ct), .int (nI ng)])), (bq, .inr (0, [.ref qa, .int (nI fi), .int (nI h)])), (qa, .inl (cB, 1000, .inl g))] [(x, .inr (4, [.int (nI bi), .int (nI ne), .int (nI li), .int (nI sp), .int (nI q), .ref sw, .ref sr, .ref br, .ref bq, .int lb])), (sr, .inr (3, [.ref e0, .ref e1, .int (nI pl), .int (nI rw)])), (e0, .inr (2, [.int 0, .int (nI fs), .int (nI (hvd ct (sm + (N + 1 - 0) / 2))), .int (nI (hvd ct ct + 1)), .int (nI (hvd ct ng))])), (bq, .inr (0, [.ref qa, .int (nI (rpl fi (z + 1 + tln q K (li - 1 - rw - q - 1) z))), .int (nI (h - (z + 1 + tln q K (li - 1 - rw - q - 1) z)))])), (qa, .inl (cB, 1000, .inl g))] D) 0 0 (ad [(x, .inr (4, [.int (nI bi), .int (nI ne), .int (nI li), .int (nI sp), .int (nI q), .ref sw, .ref sr, .ref br, .ref bq, .int lb])), (sr, .inr (3, [.ref e0, .ref e1, .int (nI pl), .int (nI rw)])), (e0, .inr (2, [.int 0, .int (nI fs), .int (nI sm), .int (nI ct), .int (nI ng)])), (bq, .inr (0, [.ref qa, .int (nI fi), .int (nI h)])), (qa, .inl (cB, 1000, .inl g))]) := by
  refine Met.ofW (cc := b_X_readInterrupt) (maxL := 6) (ret := (some .int)) (by decide) rfl ?_
  intro p e s m args below meth c s₁ B hml hv
  obtain ⟨rfl, hP, hK, hD0, hE⟩ := hv
  have hx := B.exec
  have hb := B.bytes
  have hr := B.returns
  have hts := atoms_spec (ws := WSY y_X_readInterrupt b_X_readInterrupt 6 (some .int)) B.pre
  have hg : ∀ w ∈ GW, w.before _ s = true := fun w h => hts w (List.mem_cons_of_mem _ h)
  have hown : s.vm.findClass "LineGolomb" = some m.cls := findClass_of_methodNamed B.named
  have hlocks := B.notSynchronized
  obtain ⟨A, hAe⟩ : ∃ A, A = ad [(x, .inr (4, [.int (nI bi), .int (nI ne), .int (nI li), .int (nI sp), .int (nI q), .ref sw, .ref sr, .ref br, .ref bq, .int lb])), (sr, .inr (3, [.ref e0, .ref e1, .int (nI pl), .int (nI rw)])), (e0, .inr (2, [.int 0, .int (nI fs), .int (nI sm), .int (nI ct), .int (nI ng)])), (bq, .inr (0, [.ref qa, .int (nI fi), .int (nI h)])), (qa, .inl (cB, 1000, .inl g))] := ⟨_, rfl⟩
  have hD : va_D A [(x, .inr (4, [.int (nI bi), .int (nI ne), .int (nI li), .int (nI sp), .int (nI q), .ref sw, .ref sr, .ref br, .ref bq, .int lb])), (sr, .inr (3, [.ref e0, .ref e1, .int (nI pl), .int (nI rw)])), (e0, .inr (2, [.int 0, .int (nI fs), .int (nI sm), .int (nI ct), .int (nI ng)])), (bq, .inr (0, [.ref qa, .int (nI fi), .int (nI h)])), (qa, .inl (cB, 1000, .inl g))] := by rw [hAe]; exact va_D_ad hD0
  have hS : va_S A s.heap s.heap [] := va_S.rf
  rw [← hAe] at hE
  have hl := lv_entry ([.ref x, .int 0]) (n := 6) (Nat.le_of_ble_eq_true rfl)
  rw [lg_entry_eq]
  generalize (lg_sl ([.ref x, .int 0]) ++ List.replicate (6 - (lg_sl ([.ref x, .int 0])).length) Slot.unset).toArray = ls at hl ⊢
  have hl : lv_has ls 6 [(0, .ref x), (1, .int 0)] := hl
  refine lv_iload_n hx hb d_X_readInterrupt_0 rfl (lv_at hl 1 rfl) ?_
  have hPc := hP.sub (ws' := []) [] rfl
  have hKc := hK.sub (tys' := []) [] rfl
  refine pci (va_runS (As := [.int 0]) (rest := []) ⟨hx, hb, hml, hown, hg⟩ (c_X_isKind l D 0) (va_cwS 1 hg (gS gw_343 gw_344 gw_1 gw_345) rfl rfl rfl (by decide +kernel) ⟨Nat.le_of_ble_eq_true rfl, Nat.le_of_ble_eq_true rfl⟩) ⟨fun a U g mk q => by obtain ⟨q0, qP, qK⟩ := q; exact ⟨q0, qP, va_K.moved (u := U) (U := U.calling g mk a) (Vm.Alike.refl U.vm) qK⟩, fun U hU hW => ⟨rfl, by rw [hU]; exact hPc, va_K.moved hW.alike hKc⟩⟩ rfl rfl hl.1 rfl (lv_room (Nat.le_of_ble_eq_true rfl)) d_X_readInterrupt_1 (⟨Nat.le_of_ble_eq_true rfl, Nat.le_of_ble_eq_true rfl⟩)) ?_
  refine tpi (y := 1) (by decide) ?_
  refine lv_if_ne (tgt := 17) hx hb d_X_readInterrupt_4 (by decide) (fun c_1 => ?_) (fun c_1 => ?_)
  · skip
    refine lv_aload_n hx hb d_X_readInterrupt_17 rfl (lv_at hl 0 rfl) ?_
    refine va_get (D := D) (ci := 4) (v := .ref sr) (C := R_X) (T := T_X) (N := 10) hx hb hg in_X hown hK hP 0 rfl rfl 6 (by decide) (hg _ gw_122) (fun _ h9 => h9) rfl d_X_readInterrupt_18 ?_
    refine lv_iload_n hx hb d_X_readInterrupt_21 rfl (lv_at hl 1 rfl) ?_
    have hPc := hP.sub (ws' := [(sr, .inr (3, [.ref e0, .ref e1, .int (nI pl), .int (nI rw)]))]) [1] rfl
    have hKc := hK.sub (tys' := []) [] rfl
    refine pcr (va_runV (As := [.int 0]) (rest := []) ⟨hx, hb, hml, hown, hg⟩ (c_S_endsOf0 l D sr e0 e1 pl rw) (cwV 1 hg (gV gw_367 gw_368 gw_369 gw_5 gw_370) rfl rfl rfl (by decide +kernel) ⟨Nat.le_of_ble_eq_true rfl, Nat.le_of_ble_eq_true rfl⟩) ⟨fun a U g mk q => by obtain ⟨q0, qP, qK⟩ := q; exact ⟨q0, qP, va_K.moved (u := U) (U := U.calling g mk a) (Vm.Alike.refl U.vm) qK⟩, va_recv hKc hPc (ci := 3) (q0 := 0) rfl rfl, fun U hU hW => ⟨rfl, by rw [hU]; exact hPc, va_K.moved hW.alike hKc⟩⟩ rfl rfl hl.1 rfl (lv_room (Nat.le_of_ble_eq_true rfl)) d_X_readInterrupt_22 (⟨Nat.le_of_ble_eq_true rfl, Nat.le_of_ble_eq_true rfl⟩)) ?_
    refine lv_astore_n (lv' := [(2, .ref e0), (0, .ref x), (1, .int 0)]) hx hb d_X_readInterrupt_25 rfl hl (by decide) rfl (fun ls hl => ?_)
    refine lv_aload_n hx hb d_X_readInterrupt_26 rfl (lv_at hl 0 rfl) ?_
    have hPc := hP.sub (ws' := [(e0, .inr (2, [.int 0, .int (nI fs), .int (nI sm), .int (nI ct), .int (nI ng)]))]) [2] rfl
    have hKc := hK.sub (tys' := []) [] rfl
    refine pci (va_runV (As := []) (rest := []) ⟨hx, hb, hml, hown, hg⟩ (c_E_shift0 l D e0 fs sm ct ng K hc0 (by omega) hKb hK1 hK2) (cwV 0 hg (gV gw_371 gw_372 gw_373 gw_6 gw_374) rfl rfl rfl (by decide +kernel) ⟨Nat.le_of_ble_eq_true rfl, Nat.le_of_ble_eq_true rfl⟩) ⟨fun a U g mk q => by obtain ⟨q0, qP, qK⟩ := q; exact ⟨q0, qP, va_K.moved (u := U) (U := U.calling g mk a) (Vm.Alike.refl U.vm) qK⟩, va_recv hKc hPc (ci := 2) (q0 := 0) rfl rfl, fun U hU hW => ⟨rfl, by rw [hU]; exact hPc, va_K.moved hW.alike hKc⟩⟩ rfl rfl hl.1 rfl (lv_room (Nat.le_of_ble_eq_true rfl)) d_X_readInterrupt_27 (⟨Nat.le_of_ble_eq_true rfl, Nat.le_of_ble_eq_true rfl⟩)) ?_
    refine lv_istore_n (lv' := [(3, .int (nI K)), (2, .ref e0), (0, .ref x), (1, .int 0)]) hx hb d_X_readInterrupt_30 rfl hl (by decide) rfl (fun ls hl => ?_)
    refine lv_aload_n hx hb d_X_readInterrupt_31 rfl (lv_at hl 2 rfl) ?_
    refine lv_iload_n hx hb d_X_readInterrupt_32 rfl (lv_at hl 0 rfl) ?_
    refine lv_aload_n hx hb d_X_readInterrupt_33 rfl (lv_at hl 2 rfl) ?_
    refine lv_aload_n hx hb d_X_readInterrupt_34 rfl (lv_at hl 2 rfl) ?_
    refine lv_aload_n hx hb d_X_readInterrupt_35 rfl (lv_at hl 2 rfl) ?_
    refine va_get (D := D) (ci := 4) (v := .ref sr) (C := R_X) (T := T_X) (N := 10) hx hb hg in_X hown hK hP 0 rfl rfl 6 (by decide) (hg _ gw_122) (fun _ h9 => h9) rfl d_X_readInterrupt_36 ?_
    have hPc := hP.sub (ws' := [(x, .inr (4, [.int (nI bi), .int (nI ne), .int (nI li), .int (nI sp), .int (nI q), .ref sw, .ref sr, .ref br, .ref bq, .int lb])), (sr, .inr (3, [.ref e0, .ref e1, .int (nI pl), .int (nI rw)]))]) [0, 1] rfl
    have hKc := hK.sub (tys' := []) [] rfl
    refine pci (va_runV (As := [.ref sr]) (rest := [.ref x, .int (nI K), .ref x]) ⟨hx, hb, hml, hown, hg⟩ (c_X_endLimit l D x sw sr br bq bi ne li sp q lb sr e0 e1 pl rw tw (by omega)) (cwV 1 hg (gV gw_386 gw_388 gs_8 gw_1 gw_389) rfl rfl rfl (by decide +kernel) ⟨Nat.le_of_ble_eq_true rfl, Nat.le_of_ble_eq_true rfl⟩) ⟨fun a U g mk q => by obtain ⟨q0, qP, qK, qX⟩ := q; exact ⟨q0, qP, va_K.moved (u := U) (U := U.calling g mk a) (Vm.Alike.refl U.vm) qK, qX.blind⟩, va_recv hKc hPc (ci := 4) (q0 := 0) rfl rfl, fun U hU hW => ⟨rfl, by rw [hU]; exact hPc, va_K.moved hW.alike hKc, hE.call hS noF hU hW⟩⟩ rfl rfl hl.1 rfl (lv_room (Nat.le_of_ble_eq_true rfl)) d_X_readInterrupt_39 (⟨Nat.le_of_ble_eq_true rfl, Nat.le_of_ble_eq_true rfl⟩)) ?_
    have hPc := hP.sub (ws' := [(x, .inr (4, [.int (nI bi), .int (nI ne), .int (nI li), .int (nI sp), .int (nI q), .ref sw, .ref sr, .ref br, .ref bq, .int lb]))]) [0] rfl
    have hKc := hK.sub (tys' := []) [] rfl
    refine pci (va_runV (As := [.int (nI (li - 1 - rw))]) (rest := [.int (nI K), .ref x]) ⟨hx, hb, hml, hown, hg⟩ (c_X_mostZeros l D x sw sr br bq bi ne li sp q lb (li - 1 - rw) (by omega)) (cwV 1 hg (gV gw_269 gw_271 gs_3 gw_1 gw_272) rfl rfl rfl (by decide +kernel) ⟨Nat.le_of_ble_eq_true rfl, Nat.le_of_ble_eq_true rfl⟩) ⟨fun a U g mk q => by obtain ⟨q0, qP, qK⟩ := q; exact ⟨q0, qP, va_K.moved (u := U) (U := U.calling g mk a) (Vm.Alike.refl U.vm) qK⟩, va_recv hKc hPc (ci := 4) (q0 := 0) rfl rfl, fun U hU hW => ⟨rfl, by rw [hU]; exact hPc, va_K.moved hW.alike hKc⟩⟩ rfl rfl hl.1 rfl (lv_room (Nat.le_of_ble_eq_true rfl)) d_X_readInterrupt_42 (⟨Nat.le_of_ble_eq_true rfl, Nat.le_of_ble_eq_true rfl⟩)) ?_
    have hPc := hP.sub (ws' := [(x, .inr (4, [.int (nI bi), .int (nI ne), .int (nI li), .int (nI sp), .int (nI q), .ref sw, .ref sr, .ref br, .ref bq, .int lb])), (bq, .inr (0, [.ref qa, .int (nI fi), .int (nI h)])), (qa, .inl (cB, 1000, .inl g))]) [0, 3, 4] rfl
    have hDc := hD.sub (ws' := [(x, .inr (4, [.int (nI bi), .int (nI ne), .int (nI li), .int (nI sp), .int (nI q), .ref sw, .ref sr, .ref br, .ref bq, .int lb])), (bq, .inr (0, [.ref qa, .int (nI fi), .int (nI h)])), (qa, .inl (cB, 1000, .inl g))]) [0, 3, 4] (by decide) rfl
    have hKc := hK.sub (tys' := [(cB, .byte)]) [0] rfl
    refine mci (va_runV (As := [.int (nI K), .int (nI (li - 1 - rw - q - 1))]) (rest := []) ⟨hx, hb, hml, hown, hg⟩ (c_X_takeNumberG l D x sw sr br bq bi ne li sp q lb qa cB fi h g tw K (li - 1 - rw - q - 1) z hf hh (by omega) (by omega) (by omega) hz1 hz2 hz3 hz4 hzm hw hzk) (cwV 2 hg (gV gw_437 gw_439 gs_9 gw_1 gw_440) rfl rfl rfl (by decide +kernel) ⟨Nat.le_of_ble_eq_true rfl, Nat.le_of_ble_eq_true rfl⟩) ⟨fun a U g mk q => by obtain ⟨q0, qP, qK, qD, qX⟩ := q; exact ⟨q0, qP, va_K.moved (u := U) (U := U.calling g mk a) (Vm.Alike.refl U.vm) qK, qD, qX.blind⟩, va_recv hKc hPc (ci := 4) (q0 := 0) rfl rfl, fun U hU hW => ⟨rfl, by rw [hU]; exact hPc, va_K.moved hW.alike hKc, hDc.weaken (fun _ _ _ _ => trivial), hE.call hS (ad_sub hD [0, 3, 4] rfl) hU hW⟩⟩ rfl rfl hl.1 rfl (lv_room (Nat.le_of_ble_eq_true rfl)) d_X_readInterrupt_45 (⟨Nat.le_of_ble_eq_true rfl, Nat.le_of_ble_eq_true rfl⟩)) hS hP hD [0, 3, 4] rfl rfl rfl (fun H locs hP hD hS => ?_)
    have hP : va_P D CLS [(x, .inr (4, [.int (nI bi), .int (nI ne), .int (nI li), .int (nI sp), .int (nI q), .ref sw, .ref sr, .ref br, .ref bq, .int lb])), (sr, .inr (3, [.ref e0, .ref e1, .int (nI pl), .int (nI rw)])), (e0, .inr (2, [.int 0, .int (nI fs), .int (nI sm), .int (nI ct), .int (nI ng)])), (bq, .inr (0, [.ref qa, .int (nI (rpl fi (z + 1 + tln q K (li - 1 - rw - q - 1) z))), .int (nI (h - (z + 1 + tln q K (li - 1 - rw - q - 1) z)))])), (qa, .inl (cB, 1000, .inl g))] H := hP
    have hD : va_D A [(x, .inr (4, [.int (nI bi), .int (nI ne), .int (nI li), .int (nI sp), .int (nI q), .ref sw, .ref sr, .ref br, .ref bq, .int lb])), (sr, .inr (3, [.ref e0, .ref e1, .int (nI pl), .int (nI rw)])), (e0, .inr (2, [.int 0, .int (nI fs), .int (nI sm), .int (nI ct), .int (nI ng)])), (bq, .inr (0, [.ref qa, .int (nI (rpl fi (z + 1 + tln q K (li - 1 - rw - q - 1) z))), .int (nI (h - (z + 1 + tln q K (li - 1 - rw - q - 1) z)))])), (qa, .inl (cB, 1000, .inl g))] := hD
    refine tpi (y := nI N) (hN) ?_
    refine lv_istore (lv' := [(4, .int (nI N)), (3, .int (nI K)), (2, .ref e0), (0, .ref x), (1, .int 0)]) hx hb d_X_readInterrupt_48 hl (by decide) rfl (fun ls hl => ?_)
    refine lv_iload hx hb d_X_readInterrupt_50 (lv_at hl 0 rfl) ?_
    refine lv_if_ge (tgt := 58) hx hb d_X_readInterrupt_52 (by decide) (fun c_2 => ?_) (fun c_2 => ?_)
    · skip
      refine lv_aload_n hx hb d_X_readInterrupt_58 rfl (lv_at hl 2 rfl) ?_
      refine lv_iload hx hb d_X_readInterrupt_59 (lv_at hl 0 rfl) ?_
      refine lv_iload_n hx hb d_X_readInterrupt_61 rfl (lv_at hl 1 rfl) ?_
      have hPc := hP.sub (ws' := [(e0, .inr (2, [.int 0, .int (nI fs), .int (nI sm), .int (nI ct), .int (nI ng)]))]) [2] rfl
      have hKc := hK.sub (tys' := []) [] rfl
      refine pci (va_runV (As := [.int (nI N), .int (nI K)]) (rest := []) ⟨hx, hb, hml, hown, hg⟩ (c_E_errorOf0 l D e0 fs sm ct ng N K hc0 hn0 hKb (by omega)) (cwV 2 hg (gV gw_478 gw_479 gw_480 gw_6 gw_481) rfl rfl rfl (by decide +kernel) ⟨Nat.le_of_ble_eq_true rfl, Nat.le_of_ble_eq_true rfl⟩) ⟨fun a U g mk q => by obtain ⟨q0, qP, qK⟩ := q; exact ⟨q0, qP, va_K.moved (u := U) (U := U.calling g mk a) (Vm.Alike.refl U.vm) qK⟩, va_recv hKc hPc (ci := 2) (q0 := 0) rfl rfl, fun U hU hW => ⟨rfl, by rw [hU]; exact hPc, va_K.moved hW.alike hKc⟩⟩ rfl rfl hl.1 rfl (lv_room (Nat.le_of_ble_eq_true rfl)) d_X_readInterrupt_62 (⟨Nat.le_of_ble_eq_true rfl, Nat.le_of_ble_eq_true rfl⟩)) ?_
      refine tpi (y := nI ((N + 0 + 1) / 2)) (hs2.elim (fun q9 => if_pos q9) (fun q9 => by rw [q9]; split <;> rfl)) ?_
      refine lv_istore (lv' := [(5, .int (nI ((N + 0 + 1) / 2))), (4, .int (nI N)), (3, .int (nI K)), (2, .ref e0), (0, .ref x), (1, .int 0)]) hx hb d_X_readInterrupt_65 hl (by decide) rfl (fun ls hl => ?_)
      refine lv_aload_n hx hb d_X_readInterrupt_67 rfl (lv_at hl 4 rfl) ?_
      refine lv_iload_n hx hb d_X_readInterrupt_68 rfl (lv_at hl 5 rfl) ?_
      refine lv_iload hx hb d_X_readInterrupt_69 (lv_at hl 0 rfl) ?_
      have hPc := hP.sub (ws' := [(x, .inr (4, [.int (nI bi), .int (nI ne), .int (nI li), .int (nI sp), .int (nI q), .ref sw, .ref sr, .ref br, .ref bq, .int lb]))]) [0] rfl
      have hKc := hK.sub (tys' := []) [] rfl
      refine pci (va_runV (As := [.int 0, .int (nI ((N + 0 + 1) / 2))]) (rest := []) ⟨hx, hb, hml, hown, hg⟩ (c_X_isError l D x sw sr br bq bi ne li sp q lb 0 (nI ((N + 0 + 1) / 2)) (by omega)) (cwV 2 hg (gV gw_362 gw_364 gs_6 gw_1 gw_365) rfl rfl rfl (by decide +kernel) ⟨Nat.le_of_ble_eq_true rfl, Nat.le_of_ble_eq_true rfl⟩) ⟨fun a U g mk q => by obtain ⟨q0, qP, qK⟩ := q; exact ⟨q0, qP, va_K.moved (u := U) (U := U.calling g mk a) (Vm.Alike.refl U.vm) qK⟩, va_recv hKc hPc (ci := 4) (q0 := 0) rfl rfl, fun U hU hW => ⟨rfl, by rw [hU]; exact hPc, va_K.moved hW.alike hKc⟩⟩ rfl rfl hl.1 rfl (lv_room (Nat.le_of_ble_eq_true rfl)) d_X_readInterrupt_71 (⟨Nat.le_of_ble_eq_true rfl, Nat.le_of_ble_eq_true rfl⟩)) ?_
      refine tpi (y := 1) (if_pos ⟨by rw [nI_toInt (by omega)]; omega, by rw [nI_toInt (by omega)]; omega, Or.inr rfl⟩) ?_
      refine lv_if_ne (tgt := 80) hx hb d_X_readInterrupt_74 (by decide) (fun c_3 => ?_) (fun c_3 => ?_)
      · skip
        refine lv_aload_n hx hb d_X_readInterrupt_80 rfl (lv_at hl 3 rfl) ?_
        refine lv_iload hx hb d_X_readInterrupt_81 (lv_at hl 0 rfl) ?_
        refine lv_iload hx hb d_X_readInterrupt_83 (lv_at hl 1 rfl) ?_
        have hPc := hP.sub (ws' := [(e0, .inr (2, [.int 0, .int (nI fs), .int (nI sm), .int (nI ct), .int (nI ng)]))]) [2] rfl
        have hDc := hD.sub (ws' := [(e0, .inr (2, [.int 0, .int (nI fs), .int (nI sm), .int (nI ct), .int (nI ng)]))]) [2] (by decide) rfl
        have hKc := hK.sub (tys' := []) [] rfl
        refine mcv (va_runV (As := [.int (nI ((N + 0 + 1) / 2)), .int (nI N)]) (rest := []) ⟨hx, hb, hml, hown, hg⟩ (c_E_learn0P l D e0 fs sm ct ng ((N + 0 + 1) / 2) N hc0 hn0 hs0 (by omega) (by omega)) (cwV 2 hg (gV gw_390 gw_391 gw_392 gw_6 gw_393) rfl rfl rfl (by decide +kernel) ⟨Nat.le_of_ble_eq_true rfl, Nat.le_of_ble_eq_true rfl⟩) ⟨fun a U g mk q => by obtain ⟨q0, qP, qK, qD⟩ := q; exact ⟨q0, qP, va_K.moved (u := U) (U := U.calling g mk a) (Vm.Alike.refl U.vm) qK, qD⟩, va_recv hKc hPc (ci := 2) (q0 := 0) rfl rfl, fun U hU hW => ⟨rfl, by rw [hU]; exact hPc, va_K.moved hW.alike hKc, hDc.weaken (fun _ _ _ _ => trivial)⟩⟩ rfl rfl hl.1 rfl (lv_room (Nat.le_of_ble_eq_true rfl)) d_X_readInterrupt_85 (⟨Nat.le_of_ble_eq_true rfl, Nat.le_of_ble_eq_true rfl⟩)) hS hP hD [2] rfl rfl rfl (fun H locs hP hD hS => ?_)
        have hP : va_P D CLS [(x, .inr (4, [.int (nI bi), .int (nI ne), .int (nI li), .int (nI sp), .int (nI q), .ref sw, .ref sr, .ref br, .ref bq, .int lb])), (sr, .inr (3, [.ref e0, .ref e1, .int (nI pl), .int (nI rw)])), (e0, .inr (2, [.int 0, .int (nI fs), .int (nI (hvd ct (sm + (N + 1 - 0) / 2))), .int (nI (hvd ct ct + 1)), .int (nI (hvd ct ng))])), (bq, .inr (0, [.ref qa, .int (nI (rpl fi (z + 1 + tln q K (li - 1 - rw - q - 1) z))), .int (nI (h - (z + 1 + tln q K (li - 1 - rw - q - 1) z)))])), (qa, .inl (cB, 1000, .inl g))] H := hP
        have hD : va_D A [(x, .inr (4, [.int (nI bi), .int (nI ne), .int (nI li), .int (nI sp), .int (nI q), .ref sw, .ref sr, .ref br, .ref bq, .int lb])), (sr, .inr (3, [.ref e0, .ref e1, .int (nI pl), .int (nI rw)])), (e0, .inr (2, [.int 0, .int (nI fs), .int (nI (hvd ct (sm + (N + 1 - 0) / 2))), .int (nI (hvd ct ct + 1)), .int (nI (hvd ct ng))])), (bq, .inr (0, [.ref qa, .int (nI (rpl fi (z + 1 + tln q K (li - 1 - rw - q - 1) z))), .int (nI (h - (z + 1 + tln q K (li - 1 - rw - q - 1) z)))])), (qa, .inl (cB, 1000, .inl g))] := hD
        refine lv_iload hx hb d_X_readInterrupt_88 (lv_at hl 0 rfl) ?_
        exact W.iret (v := nI ((N + 0 + 1) / 2)) hx hb hr (fun t ht hW => ⟨rfl, by rw [ht]; exact hP, (hAe ▸ hS).F ht⟩) (hAe ▸ hS).2.2 d_X_readInterrupt_90
      · skip
        exact absurd c_3 (by decide)
    · skip
      exact absurd (nI_pos' (by omega)) c_2
  · skip
    exact absurd c_1 (by decide)
set_option maxHeartbeats 4000000 in
set_option maxRecDepth 100000 in
theorem c_X_readInterrupt0M (l : Launch) (D : va_G) (x sw sr br bq bi ne li sp q : Nat) (lb : Int32) (e0 e1 pl rw : Nat) (fs sm ct ng : Nat) (qa : Nat) (cB : ClassId) (fi h : Nat) (g : Nat → Int32) (tw K z : Nat) (hf : fi < 1000) (hh : h ≤ 1000) (hc0 : ct ≤ 64) (hn0 : ng ≤ 64) (hs0 : sm < 2 ^ 29) (hKb : K ≤ 29) (hK1 : sm ≤ ct * 2 ^ K) (hK2 : ∀ j, j < K → ct * 2 ^ j < sm) (hsp : sp ≤ 65536) (hq : q ≤ 29) (hli : q + 18 ≤ li) (hlb : li ≤ 200) (hrw : rw ≤ 15) (hz1 : z ≤ (li - 1 - rw - q - 1) + 1) (hz2 : z ≤ h) (hz3 : ∀ j, j < z → qb g fi h j = 0) (hz4 : z = (li - 1 - rw - q - 1) + 1 ∨ z = h ∨ qb g fi h z ≠ 0) (hzm : z ≤ (li - 1 - rw - q - 1)) (hw : z + 1 + tln q K (li - 1 - rw - q - 1) z ≤ h) (hzk : z * 2 ^ K < 2 ^ 31) (N : Nat) (hN : rnum (qb g fi h) q K (li - 1 - rw - q - 1) z = nI N) (hNb : N < 2 ^ 29) (hs2 : ¬ ((N + 0) % 2 = 1 ↔ (K = 0 ∧ 2 * ng < ct))) (hn : ((N + 0 + 1) / 2) ≤ sp / 2) (hn1 : 0 < ((N + 0 + 1) / 2)) : Met l y_X_readInterrupt (WSY y_X_readInterrupt b_X_readInterrupt 6 (some .int)) ({ frames := 5, cells := 0, slots := 0, locals := 117 }) (va_Pc [.ref x, .int 0] (fun U => va_P D CLS [(x, .inr (4, [.int (nI bi), .int (nI ne), .int (nI li), .int (nI sp), .int (nI q), .ref sw, .ref sr, .ref br, .ref bq, .int lb])), (sr, .inr (3, [.ref e0, .ref e1, .int (nI pl), .int (nI rw)])), (e0, .inr (2, [.int 0, .int (nI fs), .int (nI sm), .int (nI ct), .int (nI ng)])), (bq, .inr (0, [.ref qa, .int (nI fi), .int (nI h)])), (qa, .inl (cB, 1000, .inl g))] U.heap ∧ va_K D CLS [(cB, .byte)] U ∧ va_D (fun _ => True) [(x, .inr (4, [.int (nI bi), .int (nI ne), .int (nI li), .int (nI sp), .int (nI q), .ref sw, .ref sr, .ref br, .ref bq, .int lb])), (sr, .inr (3, [.ref e0, .ref e1, .int (nI pl), .int (nI rw)])), (e0, .inr (2, [.int 0, .int (nI fs), .int (nI sm), .int (nI ct), .int (nI ng)])), (bq, .inr (0, [.ref qa, .int (nI fi), .int (nI h)])), (qa, .inl (cB, 1000, .inl g))] ∧ EV (ad [(x, .inr (4, [.int (nI bi), .int (nI ne), .int (nI li), .int (nI sp), .int (nI q), .ref sw, .ref sr, .ref br, .ref bq, .int lb])), (sr, .inr (3, [.ref e0, .ref e1, .int (nI pl), .int (nI rw)])), (e0, .inr (2, [.int 0, .int (nI fs), .int (nI sm), .int (nI ct), .int (nI ng)])), (bq, .inr (0, [.ref qa, .int (nI fi), .int (nI h)])), (qa, .inl (cB, 1000, .inl g))]) tw U)) (QM (some (.int (-nI ((N + 0 + 1) / 2)))) [(x, .inr (4, [.int (nI bi), .int (nI ne), .int (nI li), .int (nI sp), .int (nI q), .ref sw, .ref sr, .ref br, .ref bq, .int lb])), (sr, .inr (3, [.ref e0, .ref e1, .int (nI pl), .int (nI rw)])), (e0, .inr (2, [.int 0, .int (nI fs), .int (nI sm), .int (nI ct), .int (nI ng)])), (bq, .inr (0, [.ref qa, .int (nI fi), .int (nI h)])), (qa, .inl (cB, 1000, .inl g))] [(x, .inr (4, [.int (nI bi), .int (nI ne), .int (nI li), .int (nI sp), .int (nI q), .ref sw, .ref sr, .ref br, .ref bq, .int lb])), (sr, .inr (3, [.ref e0, .ref e1, .int (nI pl), .int (nI rw)])), (e0, .inr (2, [.int 0, .int (nI fs), .int (nI (hvd ct (sm + (N + 1 - 0) / 2))), .int (nI (hvd ct ct + 1)), .int (nI (hvd ct (ng + 1)))])), (bq, .inr (0, [.ref qa, .int (nI (rpl fi (z + 1 + tln q K (li - 1 - rw - q - 1) z))), .int (nI (h - (z + 1 + tln q K (li - 1 - rw - q - 1) z)))])), (qa, .inl (cB, 1000, .inl g))] D) 0 0 (ad [(x, .inr (4, [.int (nI bi), .int (nI ne), .int (nI li), .int (nI sp), .int (nI q), .ref sw, .ref sr, .ref br, .ref bq, .int lb])), (sr, .inr (3, [.ref e0, .ref e1, .int (nI pl), .int (nI rw)])), (e0, .inr (2, [.int 0, .int (nI fs), .int (nI sm), .int (nI ct), .int (nI ng)])), (bq, .inr (0, [.ref qa, .int (nI fi), .int (nI h)])), (qa, .inl (cB, 1000, .inl g))]) := by
  refine Met.ofW (cc := b_X_readInterrupt) (maxL := 6) (ret := (some .int)) (by decide) rfl ?_
  intro p e s m args below meth c s₁ B hml hv
  obtain ⟨rfl, hP, hK, hD0, hE⟩ := hv
  have hx := B.exec
  have hb := B.bytes
  have hr := B.returns
  have hts := atoms_spec (ws := WSY y_X_readInterrupt b_X_readInterrupt 6 (some .int)) B.pre
  have hg : ∀ w ∈ GW, w.before _ s = true := fun w h => hts w (List.mem_cons_of_mem _ h)
  have hown : s.vm.findClass "LineGolomb" = some m.cls := findClass_of_methodNamed B.named
  have hlocks := B.notSynchronized
  obtain ⟨A, hAe⟩ : ∃ A, A = ad [(x, .inr (4, [.int (nI bi), .int (nI ne), .int (nI li), .int (nI sp), .int (nI q), .ref sw, .ref sr, .ref br, .ref bq, .int lb])), (sr, .inr (3, [.ref e0, .ref e1, .int (nI pl), .int (nI rw)])), (e0, .inr (2, [.int 0, .int (nI fs), .int (nI sm), .int (nI ct), .int (nI ng)])), (bq, .inr (0, [.ref qa, .int (nI fi), .int (nI h)])), (qa, .inl (cB, 1000, .inl g))] := ⟨_, rfl⟩
  have hD : va_D A [(x, .inr (4, [.int (nI bi), .int (nI ne), .int (nI li), .int (nI sp), .int (nI q), .ref sw, .ref sr, .ref br, .ref bq, .int lb])), (sr, .inr (3, [.ref e0, .ref e1, .int (nI pl), .int (nI rw)])), (e0, .inr (2, [.int 0, .int (nI fs), .int (nI sm), .int (nI ct), .int (nI ng)])), (bq, .inr (0, [.ref qa, .int (nI fi), .int (nI h)])), (qa, .inl (cB, 1000, .inl g))] := by rw [hAe]; exact va_D_ad hD0
  have hS : va_S A s.heap s.heap [] := va_S.rf
  rw [← hAe] at hE
  have hl := lv_entry ([.ref x, .int 0]) (n := 6) (Nat.le_of_ble_eq_true rfl)
  rw [lg_entry_eq]
  generalize (lg_sl ([.ref x, .int 0]) ++ List.replicate (6 - (lg_sl ([.ref x, .int 0])).length) Slot.unset).toArray = ls at hl ⊢
  have hl : lv_has ls 6 [(0, .ref x), (1, .int 0)] := hl
  refine lv_iload_n hx hb d_X_readInterrupt_0 rfl (lv_at hl 1 rfl) ?_
  have hPc := hP.sub (ws' := []) [] rfl
  have hKc := hK.sub (tys' := []) [] rfl
  refine pci (va_runS (As := [.int 0]) (rest := []) ⟨hx, hb, hml, hown, hg⟩ (c_X_isKind l D 0) (va_cwS 1 hg (gS gw_343 gw_344 gw_1 gw_345) rfl rfl rfl (by decide +kernel) ⟨Nat.le_of_ble_eq_true rfl, Nat.le_of_ble_eq_true rfl⟩) ⟨fun a U g mk q => by obtain ⟨q0, qP, qK⟩ := q; exact ⟨q0, qP, va_K.moved (u := U) (U := U.calling g mk a) (Vm.Alike.refl U.vm) qK⟩, fun U hU hW => ⟨rfl, by rw [hU]; exact hPc, va_K.moved hW.alike hKc⟩⟩ rfl rfl hl.1 rfl (lv_room (Nat.le_of_ble_eq_true rfl)) d_X_readInterrupt_1 (⟨Nat.le_of_ble_eq_true rfl, Nat.le_of_ble_eq_true rfl⟩)) ?_
  refine tpi (y := 1) (by decide) ?_
  refine lv_if_ne (tgt := 17) hx hb d_X_readInterrupt_4 (by decide) (fun c_1 => ?_) (fun c_1 => ?_)
  · skip
    refine lv_aload_n hx hb d_X_readInterrupt_17 rfl (lv_at hl 0 rfl) ?_
    refine va_get (D := D) (ci := 4) (v := .ref sr) (C := R_X) (T := T_X) (N := 10) hx hb hg in_X hown hK hP 0 rfl rfl 6 (by decide) (hg _ gw_122) (fun _ h9 => h9) rfl d_X_readInterrupt_18 ?_
    refine lv_iload_n hx hb d_X_readInterrupt_21 rfl (lv_at hl 1 rfl) ?_
    have hPc := hP.sub (ws' := [(sr, .inr (3, [.ref e0, .ref e1, .int (nI pl), .int (nI rw)]))]) [1] rfl
    have hKc := hK.sub (tys' := []) [] rfl
    refine pcr (va_runV (As := [.int 0]) (rest := []) ⟨hx, hb, hml, hown, hg⟩ (c_S_endsOf0 l D sr e0 e1 pl rw) (cwV 1 hg (gV gw_367 gw_368 gw_369 gw_5 gw_370) rfl rfl rfl (by decide +kernel) ⟨Nat.le_of_ble_eq_true rfl, Nat.le_of_ble_eq_true rfl⟩) ⟨fun a U g mk q => by obtain ⟨q0, qP, qK⟩ := q; exact ⟨q0, qP, va_K.moved (u := U) (U := U.calling g mk a) (Vm.Alike.refl U.vm) qK⟩, va_recv hKc hPc (ci := 3) (q0 := 0) rfl rfl, fun U hU hW => ⟨rfl, by rw [hU]; exact hPc, va_K.moved hW.alike hKc⟩⟩ rfl rfl hl.1 rfl (lv_room (Nat.le_of_ble_eq_true rfl)) d_X_readInterrupt_22 (⟨Nat.le_of_ble_eq_true rfl, Nat.le_of_ble_eq_true rfl⟩)) ?_
    refine lv_astore_n (lv' := [(2, .ref e0), (0, .ref x), (1, .int 0)]) hx hb d_X_readInterrupt_25 rfl hl (by decide) rfl (fun ls hl => ?_)
    refine lv_aload_n hx hb d_X_readInterrupt_26 rfl (lv_at hl 0 rfl) ?_
    have hPc := hP.sub (ws' := [(e0, .inr (2, [.int 0, .int (nI fs), .int (nI sm), .int (nI ct), .int (nI ng)]))]) [2] rfl
    have hKc := hK.sub (tys' := []) [] rfl
    refine pci (va_runV (As := []) (rest := []) ⟨hx, hb, hml, hown, hg⟩ (c_E_shift0 l D e0 fs sm ct ng K hc0 (by omega) hKb hK1 hK2) (cwV 0 hg (gV gw_371 gw_372 gw_373 gw_6 gw_374) rfl rfl rfl (by decide +kernel) ⟨Nat.le_of_ble_eq_true rfl, Nat.le_of_ble_eq_true rfl⟩) ⟨fun a U g mk q => by obtain ⟨q0, qP, qK⟩ := q; exact ⟨q0, qP, va_K.moved (u := U) (U := U.calling g mk a) (Vm.Alike.refl U.vm) qK⟩, va_recv hKc hPc (ci := 2) (q0 := 0) rfl rfl, fun U hU hW => ⟨rfl, by rw [hU]; exact hPc, va_K.moved hW.alike hKc⟩⟩ rfl rfl hl.1 rfl (lv_room (Nat.le_of_ble_eq_true rfl)) d_X_readInterrupt_27 (⟨Nat.le_of_ble_eq_true rfl, Nat.le_of_ble_eq_true rfl⟩)) ?_
    refine lv_istore_n (lv' := [(3, .int (nI K)), (2, .ref e0), (0, .ref x), (1, .int 0)]) hx hb d_X_readInterrupt_30 rfl hl (by decide) rfl (fun ls hl => ?_)
    refine lv_aload_n hx hb d_X_readInterrupt_31 rfl (lv_at hl 2 rfl) ?_
    refine lv_iload_n hx hb d_X_readInterrupt_32 rfl (lv_at hl 0 rfl) ?_
    refine lv_aload_n hx hb d_X_readInterrupt_33 rfl (lv_at hl 2 rfl) ?_
    refine lv_aload_n hx hb d_X_readInterrupt_34 rfl (lv_at hl 2 rfl) ?_
    refine lv_aload_n hx hb d_X_readInterrupt_35 rfl (lv_at hl 2 rfl) ?_
    refine va_get (D := D) (ci := 4) (v := .ref sr) (C := R_X) (T := T_X) (N := 10) hx hb hg in_X hown hK hP 0 rfl rfl 6 (by decide) (hg _ gw_122) (fun _ h9 => h9) rfl d_X_readInterrupt_36 ?_
    have hPc := hP.sub (ws' := [(x, .inr (4, [.int (nI bi), .int (nI ne), .int (nI li), .int (nI sp), .int (nI q), .ref sw, .ref sr, .ref br, .ref bq, .int lb])), (sr, .inr (3, [.ref e0, .ref e1, .int (nI pl), .int (nI rw)]))]) [0, 1] rfl
    have hKc := hK.sub (tys' := []) [] rfl
    refine pci (va_runV (As := [.ref sr]) (rest := [.ref x, .int (nI K), .ref x]) ⟨hx, hb, hml, hown, hg⟩ (c_X_endLimit l D x sw sr br bq bi ne li sp q lb sr e0 e1 pl rw tw (by omega)) (cwV 1 hg (gV gw_386 gw_388 gs_8 gw_1 gw_389) rfl rfl rfl (by decide +kernel) ⟨Nat.le_of_ble_eq_true rfl, Nat.le_of_ble_eq_true rfl⟩) ⟨fun a U g mk q => by obtain ⟨q0, qP, qK, qX⟩ := q; exact ⟨q0, qP, va_K.moved (u := U) (U := U.calling g mk a) (Vm.Alike.refl U.vm) qK, qX.blind⟩, va_recv hKc hPc (ci := 4) (q0 := 0) rfl rfl, fun U hU hW => ⟨rfl, by rw [hU]; exact hPc, va_K.moved hW.alike hKc, hE.call hS noF hU hW⟩⟩ rfl rfl hl.1 rfl (lv_room (Nat.le_of_ble_eq_true rfl)) d_X_readInterrupt_39 (⟨Nat.le_of_ble_eq_true rfl, Nat.le_of_ble_eq_true rfl⟩)) ?_
    have hPc := hP.sub (ws' := [(x, .inr (4, [.int (nI bi), .int (nI ne), .int (nI li), .int (nI sp), .int (nI q), .ref sw, .ref sr, .ref br, .ref bq, .int lb]))]) [0] rfl
    have hKc := hK.sub (tys' := []) [] rfl
    refine pci (va_runV (As := [.int (nI (li - 1 - rw))]) (rest := [.int (nI K), .ref x]) ⟨hx, hb, hml, hown, hg⟩ (c_X_mostZeros l D x sw sr br bq bi ne li sp q lb (li - 1 - rw) (by omega)) (cwV 1 hg (gV gw_269 gw_271 gs_3 gw_1 gw_272) rfl rfl rfl (by decide +kernel) ⟨Nat.le_of_ble_eq_true rfl, Nat.le_of_ble_eq_true rfl⟩) ⟨fun a U g mk q => by obtain ⟨q0, qP, qK⟩ := q; exact ⟨q0, qP, va_K.moved (u := U) (U := U.calling g mk a) (Vm.Alike.refl U.vm) qK⟩, va_recv hKc hPc (ci := 4) (q0 := 0) rfl rfl, fun U hU hW => ⟨rfl, by rw [hU]; exact hPc, va_K.moved hW.alike hKc⟩⟩ rfl rfl hl.1 rfl (lv_room (Nat.le_of_ble_eq_true rfl)) d_X_readInterrupt_42 (⟨Nat.le_of_ble_eq_true rfl, Nat.le_of_ble_eq_true rfl⟩)) ?_
    have hPc := hP.sub (ws' := [(x, .inr (4, [.int (nI bi), .int (nI ne), .int (nI li), .int (nI sp), .int (nI q), .ref sw, .ref sr, .ref br, .ref bq, .int lb])), (bq, .inr (0, [.ref qa, .int (nI fi), .int (nI h)])), (qa, .inl (cB, 1000, .inl g))]) [0, 3, 4] rfl
    have hDc := hD.sub (ws' := [(x, .inr (4, [.int (nI bi), .int (nI ne), .int (nI li), .int (nI sp), .int (nI q), .ref sw, .ref sr, .ref br, .ref bq, .int lb])), (bq, .inr (0, [.ref qa, .int (nI fi), .int (nI h)])), (qa, .inl (cB, 1000, .inl g))]) [0, 3, 4] (by decide) rfl
    have hKc := hK.sub (tys' := [(cB, .byte)]) [0] rfl
    refine mci (va_runV (As := [.int (nI K), .int (nI (li - 1 - rw - q - 1))]) (rest := []) ⟨hx, hb, hml, hown, hg⟩ (c_X_takeNumberG l D x sw sr br bq bi ne li sp q lb qa cB fi h g tw K (li - 1 - rw - q - 1) z hf hh (by omega) (by omega) (by omega) hz1 hz2 hz3 hz4 hzm hw hzk) (cwV 2 hg (gV gw_437 gw_439 gs_9 gw_1 gw_440) rfl rfl rfl (by decide +kernel) ⟨Nat.le_of_ble_eq_true rfl, Nat.le_of_ble_eq_true rfl⟩) ⟨fun a U g mk q => by obtain ⟨q0, qP, qK, qD, qX⟩ := q; exact ⟨q0, qP, va_K.moved (u := U) (U := U.calling g mk a) (Vm.Alike.refl U.vm) qK, qD, qX.blind⟩, va_recv hKc hPc (ci := 4) (q0 := 0) rfl rfl, fun U hU hW => ⟨rfl, by rw [hU]; exact hPc, va_K.moved hW.alike hKc, hDc.weaken (fun _ _ _ _ => trivial), hE.call hS (ad_sub hD [0, 3, 4] rfl) hU hW⟩⟩ rfl rfl hl.1 rfl (lv_room (Nat.le_of_ble_eq_true rfl)) d_X_readInterrupt_45 (⟨Nat.le_of_ble_eq_true rfl, Nat.le_of_ble_eq_true rfl⟩)) hS hP hD [0, 3, 4] rfl rfl rfl (fun H locs hP hD hS => ?_)
    have hP : va_P D CLS [(x, .inr (4, [.int (nI bi), .int (nI ne), .int (nI li), .int (nI sp), .int (nI q), .ref sw, .ref sr, .ref br, .ref bq, .int lb])), (sr, .inr (3, [.ref e0, .ref e1, .int (nI pl), .int (nI rw)])), (e0, .inr (2, [.int 0, .int (nI fs), .int (nI sm), .int (nI ct), .int (nI ng)])), (bq, .inr (0, [.ref qa, .int (nI (rpl fi (z + 1 + tln q K (li - 1 - rw - q - 1) z))), .int (nI (h - (z + 1 + tln q K (li - 1 - rw - q - 1) z)))])), (qa, .inl (cB, 1000, .inl g))] H := hP
    have hD : va_D A [(x, .inr (4, [.int (nI bi), .int (nI ne), .int (nI li), .int (nI sp), .int (nI q), .ref sw, .ref sr, .ref br, .ref bq, .int lb])), (sr, .inr (3, [.ref e0, .ref e1, .int (nI pl), .int (nI rw)])), (e0, .inr (2, [.int 0, .int (nI fs), .int (nI sm), .int (nI ct), .int (nI ng)])), (bq, .inr (0, [.ref qa, .int (nI (rpl fi (z + 1 + tln q K (li - 1 - rw - q - 1) z))), .int (nI (h - (z + 1 + tln q K (li - 1 - rw - q - 1) z)))])), (qa, .inl (cB, 1000, .inl g))] := hD
    refine tpi (y := nI N) (hN) ?_
    refine lv_istore (lv' := [(4, .int (nI N)), (3, .int (nI K)), (2, .ref e0), (0, .ref x), (1, .int 0)]) hx hb d_X_readInterrupt_48 hl (by decide) rfl (fun ls hl => ?_)
    refine lv_iload hx hb d_X_readInterrupt_50 (lv_at hl 0 rfl) ?_
    refine lv_if_ge (tgt := 58) hx hb d_X_readInterrupt_52 (by decide) (fun c_2 => ?_) (fun c_2 => ?_)
    · skip
      refine lv_aload_n hx hb d_X_readInterrupt_58 rfl (lv_at hl 2 rfl) ?_
      refine lv_iload hx hb d_X_readInterrupt_59 (lv_at hl 0 rfl) ?_
      refine lv_iload_n hx hb d_X_readInterrupt_61 rfl (lv_at hl 1 rfl) ?_
      have hPc := hP.sub (ws' := [(e0, .inr (2, [.int 0, .int (nI fs), .int (nI sm), .int (nI ct), .int (nI ng)]))]) [2] rfl
      have hKc := hK.sub (tys' := []) [] rfl
      refine pci (va_runV (As := [.int (nI N), .int (nI K)]) (rest := []) ⟨hx, hb, hml, hown, hg⟩ (c_E_errorOf0 l D e0 fs sm ct ng N K hc0 hn0 hKb (by omega)) (cwV 2 hg (gV gw_478 gw_479 gw_480 gw_6 gw_481) rfl rfl rfl (by decide +kernel) ⟨Nat.le_of_ble_eq_true rfl, Nat.le_of_ble_eq_true rfl⟩) ⟨fun a U g mk q => by obtain ⟨q0, qP, qK⟩ := q; exact ⟨q0, qP, va_K.moved (u := U) (U := U.calling g mk a) (Vm.Alike.refl U.vm) qK⟩, va_recv hKc hPc (ci := 2) (q0 := 0) rfl rfl, fun U hU hW => ⟨rfl, by rw [hU]; exact hPc, va_K.moved hW.alike hKc⟩⟩ rfl rfl hl.1 rfl (lv_room (Nat.le_of_ble_eq_true rfl)) d_X_readInterrupt_62 (⟨Nat.le_of_ble_eq_true rfl, Nat.le_of_ble_eq_true rfl⟩)) ?_
      refine tpi (y := -nI ((N + 0 + 1) / 2)) (if_neg hs2) ?_
      refine lv_istore (lv' := [(5, .int (-nI ((N + 0 + 1) / 2))), (4, .int (nI N)), (3, .int (nI K)), (2, .ref e0), (0, .ref x), (1, .int 0)]) hx hb d_X_readInterrupt_65 hl (by decide) rfl (fun ls hl => ?_)
      refine lv_aload_n hx hb d_X_readInterrupt_67 rfl (lv_at hl 4 rfl) ?_
      refine lv_iload_n hx hb d_X_readInterrupt_68 rfl (lv_at hl 5 rfl) ?_
      refine lv_iload hx hb d_X_readInterrupt_69 (lv_at hl 0 rfl) ?_
      have hPc := hP.sub (ws' := [(x, .inr (4, [.int (nI bi), .int (nI ne), .int (nI li), .int (nI sp), .int (nI q), .ref sw, .ref sr, .ref br, .ref bq, .int lb]))]) [0] rfl
      have hKc := hK.sub (tys' := []) [] rfl
      refine pci (va_runV (As := [.int 0, .int (-nI ((N + 0 + 1) / 2))]) (rest := []) ⟨hx, hb, hml, hown, hg⟩ (c_X_isError l D x sw sr br bq bi ne li sp q lb 0 (-nI ((N + 0 + 1) / 2)) (by omega)) (cwV 2 hg (gV gw_362 gw_364 gs_6 gw_1 gw_365) rfl rfl rfl (by decide +kernel) ⟨Nat.le_of_ble_eq_true rfl, Nat.le_of_ble_eq_true rfl⟩) ⟨fun a U g mk q => by obtain ⟨q0, qP, qK⟩ := q; exact ⟨q0, qP, va_K.moved (u := U) (U := U.calling g mk a) (Vm.Alike.refl U.vm) qK⟩, va_recv hKc hPc (ci := 4) (q0 := 0) rfl rfl, fun U hU hW => ⟨rfl, by rw [hU]; exact hPc, va_K.moved hW.alike hKc⟩⟩ rfl rfl hl.1 rfl (lv_room (Nat.le_of_ble_eq_true rfl)) d_X_readInterrupt_71 (⟨Nat.le_of_ble_eq_true rfl, Nat.le_of_ble_eq_true rfl⟩)) ?_
      refine tpi (y := 1) (if_pos ⟨by rw [ngT (by omega)]; omega, by rw [ngT (by omega)]; omega, Or.inr rfl⟩) ?_
      refine lv_if_ne (tgt := 80) hx hb d_X_readInterrupt_74 (by decide) (fun c_3 => ?_) (fun c_3 => ?_)
      · skip
        refine lv_aload_n hx hb d_X_readInterrupt_80 rfl (lv_at hl 3 rfl) ?_
        refine lv_iload hx hb d_X_readInterrupt_81 (lv_at hl 0 rfl) ?_
        refine lv_iload hx hb d_X_readInterrupt_83 (lv_at hl 1 rfl) ?_
        have hPc := hP.sub (ws' := [(e0, .inr (2, [.int 0, .int (nI fs), .int (nI sm), .int (nI ct), .int (nI ng)]))]) [2] rfl
        have hDc := hD.sub (ws' := [(e0, .inr (2, [.int 0, .int (nI fs), .int (nI sm), .int (nI ct), .int (nI ng)]))]) [2] (by decide) rfl
        have hKc := hK.sub (tys' := []) [] rfl
        refine mcv (va_runV (As := [.int (-nI ((N + 0 + 1) / 2)), .int (nI N)]) (rest := []) ⟨hx, hb, hml, hown, hg⟩ (c_E_learn0N l D e0 fs sm ct ng ((N + 0 + 1) / 2) N hc0 hn0 hs0 (by omega) (by omega) hn1) (cwV 2 hg (gV gw_390 gw_391 gw_392 gw_6 gw_393) rfl rfl rfl (by decide +kernel) ⟨Nat.le_of_ble_eq_true rfl, Nat.le_of_ble_eq_true rfl⟩) ⟨fun a U g mk q => by obtain ⟨q0, qP, qK, qD⟩ := q; exact ⟨q0, qP, va_K.moved (u := U) (U := U.calling g mk a) (Vm.Alike.refl U.vm) qK, qD⟩, va_recv hKc hPc (ci := 2) (q0 := 0) rfl rfl, fun U hU hW => ⟨rfl, by rw [hU]; exact hPc, va_K.moved hW.alike hKc, hDc.weaken (fun _ _ _ _ => trivial)⟩⟩ rfl rfl hl.1 rfl (lv_room (Nat.le_of_ble_eq_true rfl)) d_X_readInterrupt_85 (⟨Nat.le_of_ble_eq_true rfl, Nat.le_of_ble_eq_true rfl⟩)) hS hP hD [2] rfl rfl rfl (fun H locs hP hD hS => ?_)
        have hP : va_P D CLS [(x, .inr (4, [.int (nI bi), .int (nI ne), .int (nI li), .int (nI sp), .int (nI q), .ref sw, .ref sr, .ref br, .ref bq, .int lb])), (sr, .inr (3, [.ref e0, .ref e1, .int (nI pl), .int (nI rw)])), (e0, .inr (2, [.int 0, .int (nI fs), .int (nI (hvd ct (sm + (N + 1 - 0) / 2))), .int (nI (hvd ct ct + 1)), .int (nI (hvd ct (ng + 1)))])), (bq, .inr (0, [.ref qa, .int (nI (rpl fi (z + 1 + tln q K (li - 1 - rw - q - 1) z))), .int (nI (h - (z + 1 + tln q K (li - 1 - rw - q - 1) z)))])), (qa, .inl (cB, 1000, .inl g))] H := hP
        have hD : va_D A [(x, .inr (4, [.int (nI bi), .int (nI ne), .int (nI li), .int (nI sp), .int (nI q), .ref sw, .ref sr, .ref br, .ref bq, .int lb])), (sr, .inr (3, [.ref e0, .ref e1, .int (nI pl), .int (nI rw)])), (e0, .inr (2, [.int 0, .int (nI fs), .int (nI (hvd ct (sm + (N + 1 - 0) / 2))), .int (nI (hvd ct ct + 1)), .int (nI (hvd ct (ng + 1)))])), (bq, .inr (0, [.ref qa, .int (nI (rpl fi (z + 1 + tln q K (li - 1 - rw - q - 1) z))), .int (nI (h - (z + 1 + tln q K (li - 1 - rw - q - 1) z)))])), (qa, .inl (cB, 1000, .inl g))] := hD
        refine lv_iload hx hb d_X_readInterrupt_88 (lv_at hl 0 rfl) ?_
        exact W.iret (v := -nI ((N + 0 + 1) / 2)) hx hb hr (fun t ht hW => ⟨rfl, by rw [ht]; exact hP, (hAe ▸ hS).F ht⟩) (hAe ▸ hS).2.2 d_X_readInterrupt_90
      · skip
        exact absurd c_3 (by decide)
    · skip
      exact absurd (nI_pos' (by omega)) c_2
  · skip
    exact absurd c_1 (by decide)
set_option maxHeartbeats 4000000 in
set_option maxRecDepth 100000 in
theorem c_X_readInterrupt1N (l : Launch) (D : va_G) (x sw sr br bq bi ne li sp q : Nat) (lb : Int32) (e0 e1 pl rw : Nat) (fs sm ct ng : Nat) (qa : Nat) (cB : ClassId) (fi h : Nat) (g : Nat → Int32) (tw K z : Nat) (hf : fi < 1000) (hh : h ≤ 1000) (hc0 : ct ≤ 64) (hn0 : ng ≤ 64) (hs0 : sm < 2 ^ 29) (hKb : K ≤ 29) (hK1 : sm + ct / 2 ≤ ct * 2 ^ K) (hK2 : ∀ j, j < K → ct * 2 ^ j < sm + ct / 2) (hsp : sp ≤ 65536) (hq : q ≤ 29) (hli : q + 18 ≤ li) (hlb : li ≤ 200) (hrw : rw ≤ 15) (hz1 : z ≤ (li - 1 - rw - q - 1) + 1) (hz2 : z ≤ h) (hz3 : ∀ j, j < z → qb g fi h j = 0) (hz4 : z = (li - 1 - rw - q - 1) + 1 ∨ z = h ∨ qb g fi h z ≠ 0) (hzN : z = (li - 1 - rw - q - 1) + 1) : Met l y_X_readInterrupt (WSY y_X_readInterrupt b_X_readInterrupt 6 (some .int)) ({ frames := 5, cells := 0, slots := 0, locals := 117 }) (va_Pc [.ref x, .int 1] (fun U => va_P D CLS [(x, .inr (4, [.int (nI bi), .int (nI ne), .int (nI li), .int (nI sp), .int (nI q), .ref sw, .ref sr, .ref br, .ref bq, .int lb])), (sr, .inr (3, [.ref e0, .ref e1, .int (nI pl), .int (nI rw)])), (e1, .inr (2, [.int 1, .int (nI fs), .int (nI sm), .int (nI ct), .int (nI ng)])), (bq, .inr (0, [.ref qa, .int (nI fi), .int (nI h)])), (qa, .inl (cB, 1000, .inl g))] U.heap ∧ va_K D CLS [(cB, .byte)] U ∧ va_D (fun _ => True) [(x, .inr (4, [.int (nI bi), .int (nI ne), .int (nI li), .int (nI sp), .int (nI q), .ref sw, .ref sr, .ref br, .ref bq, .int lb])), (sr, .inr (3, [.ref e0, .ref e1, .int (nI pl), .int (nI rw)])), (e1, .inr (2, [.int 1, .int (nI fs), .int (nI sm), .int (nI ct), .int (nI ng)])), (bq, .inr (0, [.ref qa, .int (nI fi), .int (nI h)])), (qa, .inl (cB, 1000, .inl g))] ∧ EV (ad [(x, .inr (4, [.int (nI bi), .int (nI ne), .int (nI li), .int (nI sp), .int (nI q), .ref sw, .ref sr, .ref br, .ref bq, .int lb])), (sr, .inr (3, [.ref e0, .ref e1, .int (nI pl), .int (nI rw)])), (e1, .inr (2, [.int 1, .int (nI fs), .int (nI sm), .int (nI ct), .int (nI ng)])), (bq, .inr (0, [.ref qa, .int (nI fi), .int (nI h)])), (qa, .inl (cB, 1000, .inl g))]) tw U)) (QM (some (.int 2147483647)) [(x, .inr (4, [.int (nI bi), .int (nI ne), .int (nI li), .int (nI sp), .int (nI q), .ref sw, .ref sr, .ref br, .ref bq, .int lb])), (sr, .inr (3, [.ref e0, .ref e1, .int (nI pl), .int (nI rw)])), (e1, .inr (2, [.int 1, .int (nI fs), .int (nI sm), .int (nI ct), .int (nI ng)])), (bq, .inr (0, [.ref qa, .int (nI fi), .int (nI h)])), (qa, .inl (cB, 1000, .inl g))] [(x, .inr (4, [.int (nI bi), .int (nI ne), .int (nI li), .int (nI sp), .int (nI q), .ref sw, .ref sr, .ref br, .ref bq, .int lb])), (sr, .inr (3, [.ref e0, .ref e1, .int (nI pl), .int (nI rw)])), (e1, .inr (2, [.int 1, .int (nI fs), .int (nI sm), .int (nI ct), .int (nI ng)])), (bq, .inr (0, [.ref qa, .int (nI (rpl fi ((li - 1 - rw - q - 1) + 1))), .int (nI (h - ((li - 1 - rw - q - 1) + 1)))])), (qa, .inl (cB, 1000, .inl g))] D) 0 0 (ad [(x, .inr (4, [.int (nI bi), .int (nI ne), .int (nI li), .int (nI sp), .int (nI q), .ref sw, .ref sr, .ref br, .ref bq, .int lb])), (sr, .inr (3, [.ref e0, .ref e1, .int (nI pl), .int (nI rw)])), (e1, .inr (2, [.int 1, .int (nI fs), .int (nI sm), .int (nI ct), .int (nI ng)])), (bq, .inr (0, [.ref qa, .int (nI fi), .int (nI h)])), (qa, .inl (cB, 1000, .inl g))]) := by
  refine Met.ofW (cc := b_X_readInterrupt) (maxL := 6) (ret := (some .int)) (by decide) rfl ?_
  intro p e s m args below meth c s₁ B hml hv
  obtain ⟨rfl, hP, hK, hD0, hE⟩ := hv
  have hx := B.exec
  have hb := B.bytes
  have hr := B.returns
  have hts := atoms_spec (ws := WSY y_X_readInterrupt b_X_readInterrupt 6 (some .int)) B.pre
  have hg : ∀ w ∈ GW, w.before _ s = true := fun w h => hts w (List.mem_cons_of_mem _ h)
  have hown : s.vm.findClass "LineGolomb" = some m.cls := findClass_of_methodNamed B.named
  have hlocks := B.notSynchronized
  obtain ⟨A, hAe⟩ : ∃ A, A = ad [(x, .inr (4, [.int (nI bi), .int (nI ne), .int (nI li), .int (nI sp), .int (nI q), .ref sw, .ref sr, .ref br, .ref bq, .int lb])), (sr, .inr (3, [.ref e0, .ref e1, .int (nI pl), .int (nI rw)])), (e1, .inr (2, [.int 1, .int (nI fs), .int (nI sm), .int (nI ct), .int (nI ng)])), (bq, .inr (0, [.ref qa, .int (nI fi), .int (nI h)])), (qa, .inl (cB, 1000, .inl g))] := ⟨_, rfl⟩
  have hD : va_D A [(x, .inr (4, [.int (nI bi), .int (nI ne), .int (nI li), .int (nI sp), .int (nI q), .ref sw, .ref sr, .ref br, .ref bq, .int lb])), (sr, .inr (3, [.ref e0, .ref e1, .int (nI pl), .int (nI rw)])), (e1, .inr (2, [.int 1, .int (nI fs), .int (nI sm), .int (nI ct), .int (nI ng)])), (bq, .inr (0, [.ref qa, .int (nI fi), .int (nI h)])), (qa, .inl (cB, 1000, .inl g))] := by rw [hAe]; exact va_D_ad hD0
  have hS : va_S A s.heap s.heap [] := va_S.rf
  rw [← hAe] at hE
  have hl := lv_entry ([.ref x, .int 1]) (n := 6) (Nat.le_of_ble_eq_true rfl)
  rw [lg_entry_eq]
  generalize (lg_sl ([.ref x, .int 1]) ++ List.replicate (6 - (lg_sl ([.ref x, .int 1])).length) Slot.unset).toArray = ls at hl ⊢
  have hl : lv_has ls 6 [(0, .ref x), (1, .int 1)] := hl
  refine lv_iload_n hx hb d_X_readInterrupt_0 rfl (lv_at hl 1 rfl) ?_
  have hPc := hP.sub (ws' := []) [] rfl
  have hKc := hK.sub (tys' := []) [] rfl
  refine pci (va_runS (As := [.int 1]) (rest := []) ⟨hx, hb, hml, hown, hg⟩ (c_X_isKind l D 1) (va_cwS 1 hg (gS gw_343 gw_344 gw_1 gw_345) rfl rfl rfl (by decide +kernel) ⟨Nat.le_of_ble_eq_true rfl, Nat.le_of_ble_eq_true rfl⟩) ⟨fun a U g mk q => by obtain ⟨q0, qP, qK⟩ := q; exact ⟨q0, qP, va_K.moved (u := U) (U := U.calling g mk a) (Vm.Alike.refl U.vm) qK⟩, fun U hU hW => ⟨rfl, by rw [hU]; exact hPc, va_K.moved hW.alike hKc⟩⟩ rfl rfl hl.1 rfl (lv_room (Nat.le_of_ble_eq_true rfl)) d_X_readInterrupt_1 (⟨Nat.le_of_ble_eq_true rfl, Nat.le_of_ble_eq_true rfl⟩)) ?_
  refine tpi (y := 1) (by decide) ?_
  refine lv_if_ne (tgt := 17) hx hb d_X_readInterrupt_4 (by decide) (fun c_1 => ?_) (fun c_1 => ?_)
  · skip
    refine lv_aload_n hx hb d_X_readInterrupt_17 rfl (lv_at hl 0 rfl) ?_
    refine va_get (D := D) (ci := 4) (v := .ref sr) (C := R_X) (T := T_X) (N := 10) hx hb hg in_X hown hK hP 0 rfl rfl 6 (by decide) (hg _ gw_122) (fun _ h9 => h9) rfl d_X_readInterrupt_18 ?_
    refine lv_iload_n hx hb d_X_readInterrupt_21 rfl (lv_at hl 1 rfl) ?_
    have hPc := hP.sub (ws' := [(sr, .inr (3, [.ref e0, .ref e1, .int (nI pl), .int (nI rw)]))]) [1] rfl
    have hKc := hK.sub (tys' := []) [] rfl
    refine pcr (va_runV (As := [.int 1]) (rest := []) ⟨hx, hb, hml, hown, hg⟩ (c_S_endsOf1 l D sr e0 e1 pl rw) (cwV 1 hg (gV gw_367 gw_368 gw_369 gw_5 gw_370) rfl rfl rfl (by decide +kernel) ⟨Nat.le_of_ble_eq_true rfl, Nat.le_of_ble_eq_true rfl⟩) ⟨fun a U g mk q => by obtain ⟨q0, qP, qK⟩ := q; exact ⟨q0, qP, va_K.moved (u := U) (U := U.calling g mk a) (Vm.Alike.refl U.vm) qK⟩, va_recv hKc hPc (ci := 3) (q0 := 0) rfl rfl, fun U hU hW => ⟨rfl, by rw [hU]; exact hPc, va_K.moved hW.alike hKc⟩⟩ rfl rfl hl.1 rfl (lv_room (Nat.le_of_ble_eq_true rfl)) d_X_readInterrupt_22 (⟨Nat.le_of_ble_eq_true rfl, Nat.le_of_ble_eq_true rfl⟩)) ?_
    refine lv_astore_n (lv' := [(2, .ref e1), (0, .ref x), (1, .int 1)]) hx hb d_X_readInterrupt_25 rfl hl (by decide) rfl (fun ls hl => ?_)
    refine lv_aload_n hx hb d_X_readInterrupt_26 rfl (lv_at hl 0 rfl) ?_
    have hPc := hP.sub (ws' := [(e1, .inr (2, [.int 1, .int (nI fs), .int (nI sm), .int (nI ct), .int (nI ng)]))]) [2] rfl
    have hKc := hK.sub (tys' := []) [] rfl
    refine pci (va_runV (As := []) (rest := []) ⟨hx, hb, hml, hown, hg⟩ (c_E_shift1 l D e1 fs sm ct ng K hc0 (by omega) hKb hK1 hK2) (cwV 0 hg (gV gw_371 gw_372 gw_373 gw_6 gw_374) rfl rfl rfl (by decide +kernel) ⟨Nat.le_of_ble_eq_true rfl, Nat.le_of_ble_eq_true rfl⟩) ⟨fun a U g mk q => by obtain ⟨q0, qP, qK⟩ := q; exact ⟨q0, qP, va_K.moved (u := U) (U := U.calling g mk a) (Vm.Alike.refl U.vm) qK⟩, va_recv hKc hPc (ci := 2) (q0 := 0) rfl rfl, fun U hU hW => ⟨rfl, by rw [hU]; exact hPc, va_K.moved hW.alike hKc⟩⟩ rfl rfl hl.1 rfl (lv_room (Nat.le_of_ble_eq_true rfl)) d_X_readInterrupt_27 (⟨Nat.le_of_ble_eq_true rfl, Nat.le_of_ble_eq_true rfl⟩)) ?_
    refine lv_istore_n (lv' := [(3, .int (nI K)), (2, .ref e1), (0, .ref x), (1, .int 1)]) hx hb d_X_readInterrupt_30 rfl hl (by decide) rfl (fun ls hl => ?_)
    refine lv_aload_n hx hb d_X_readInterrupt_31 rfl (lv_at hl 2 rfl) ?_
    refine lv_iload_n hx hb d_X_readInterrupt_32 rfl (lv_at hl 0 rfl) ?_
    refine lv_aload_n hx hb d_X_readInterrupt_33 rfl (lv_at hl 2 rfl) ?_
    refine lv_aload_n hx hb d_X_readInterrupt_34 rfl (lv_at hl 2 rfl) ?_
    refine lv_aload_n hx hb d_X_readInterrupt_35 rfl (lv_at hl 2 rfl) ?_
    refine va_get (D := D) (ci := 4) (v := .ref sr) (C := R_X) (T := T_X) (N := 10) hx hb hg in_X hown hK hP 0 rfl rfl 6 (by decide) (hg _ gw_122) (fun _ h9 => h9) rfl d_X_readInterrupt_36 ?_
    have hPc := hP.sub (ws' := [(x, .inr (4, [.int (nI bi), .int (nI ne), .int (nI li), .int (nI sp), .int (nI q), .ref sw, .ref sr, .ref br, .ref bq, .int lb])), (sr, .inr (3, [.ref e0, .ref e1, .int (nI pl), .int (nI rw)]))]) [0, 1] rfl
    have hKc := hK.sub (tys' := []) [] rfl
    refine pci (va_runV (As := [.ref sr]) (rest := [.ref x, .int (nI K), .ref x]) ⟨hx, hb, hml, hown, hg⟩ (c_X_endLimit l D x sw sr br bq bi ne li sp q lb sr e0 e1 pl rw tw (by omega)) (cwV 1 hg (gV gw_386 gw_388 gs_8 gw_1 gw_389) rfl rfl rfl (by decide +kernel) ⟨Nat.le_of_ble_eq_true rfl, Nat.le_of_ble_eq_true rfl⟩) ⟨fun a U g mk q => by obtain ⟨q0, qP, qK, qX⟩ := q; exact ⟨q0, qP, va_K.moved (u := U) (U := U.calling g mk a) (Vm.Alike.refl U.vm) qK, qX.blind⟩, va_recv hKc hPc (ci := 4) (q0 := 0) rfl rfl, fun U hU hW => ⟨rfl, by rw [hU]; exact hPc, va_K.moved hW.alike hKc, hE.call hS noF hU hW⟩⟩ rfl rfl hl.1 rfl (lv_room (Nat.le_of_ble_eq_true rfl)) d_X_readInterrupt_39 (⟨Nat.le_of_ble_eq_true rfl, Nat.le_of_ble_eq_true rfl⟩)) ?_
    have hPc := hP.sub (ws' := [(x, .inr (4, [.int (nI bi), .int (nI ne), .int (nI li), .int (nI sp), .int (nI q), .ref sw, .ref sr, .ref br, .ref bq, .int lb]))]) [0] rfl
    have hKc := hK.sub (tys' := []) [] rfl
    refine pci (va_runV (As := [.int (nI (li - 1 - rw))]) (rest := [.int (nI K), .ref x]) ⟨hx, hb, hml, hown, hg⟩ (c_X_mostZeros l D x sw sr br bq bi ne li sp q lb (li - 1 - rw) (by omega)) (cwV 1 hg (gV gw_269 gw_271 gs_3 gw_1 gw_272) rfl rfl rfl (by decide +kernel) ⟨Nat.le_of_ble_eq_true rfl, Nat.le_of_ble_eq_true rfl⟩) ⟨fun a U g mk q => by obtain ⟨q0, qP, qK⟩ := q; exact ⟨q0, qP, va_K.moved (u := U) (U := U.calling g mk a) (Vm.Alike.refl U.vm) qK⟩, va_recv hKc hPc (ci := 4) (q0 := 0) rfl rfl, fun U hU hW => ⟨rfl, by rw [hU]; exact hPc, va_K.moved hW.alike hKc⟩⟩ rfl rfl hl.1 rfl (lv_room (Nat.le_of_ble_eq_true rfl)) d_X_readInterrupt_42 (⟨Nat.le_of_ble_eq_true rfl, Nat.le_of_ble_eq_true rfl⟩)) ?_
    have hPc := hP.sub (ws' := [(x, .inr (4, [.int (nI bi), .int (nI ne), .int (nI li), .int (nI sp), .int (nI q), .ref sw, .ref sr, .ref br, .ref bq, .int lb])), (bq, .inr (0, [.ref qa, .int (nI fi), .int (nI h)])), (qa, .inl (cB, 1000, .inl g))]) [0, 3, 4] rfl
    have hDc := hD.sub (ws' := [(x, .inr (4, [.int (nI bi), .int (nI ne), .int (nI li), .int (nI sp), .int (nI q), .ref sw, .ref sr, .ref br, .ref bq, .int lb])), (bq, .inr (0, [.ref qa, .int (nI fi), .int (nI h)])), (qa, .inl (cB, 1000, .inl g))]) [0, 3, 4] (by decide) rfl
    have hKc := hK.sub (tys' := [(cB, .byte)]) [0] rfl
    refine mci (va_runV (As := [.int (nI K), .int (nI (li - 1 - rw - q - 1))]) (rest := []) ⟨hx, hb, hml, hown, hg⟩ (c_X_takeNumberN l D x sw sr br bq bi ne li sp q lb qa cB fi h g tw K (li - 1 - rw - q - 1) z hf hh (by omega) (by omega) (by omega) hz1 hz2 hz3 hz4 hzN) (cwV 2 hg (gV gw_437 gw_439 gs_9 gw_1 gw_440) rfl rfl rfl (by decide +kernel) ⟨Nat.le_of_ble_eq_true rfl, Nat.le_of_ble_eq_true rfl⟩) ⟨fun a U g mk q => by obtain ⟨q0, qP, qK, qD, qX⟩ := q; exact ⟨q0, qP, va_K.moved (u := U) (U := U.calling g mk a) (Vm.Alike.refl U.vm) qK, qD, qX.blind⟩, va_recv hKc hPc (ci := 4) (q0 := 0) rfl rfl, fun U hU hW => ⟨rfl, by rw [hU]; exact hPc, va_K.moved hW.alike hKc, hDc.weaken (fun _ _ _ _ => trivial), hE.call hS (ad_sub hD [0, 3, 4] rfl) hU hW⟩⟩ rfl rfl hl.1 rfl (lv_room (Nat.le_of_ble_eq_true rfl)) d_X_readInterrupt_45 (⟨Nat.le_of_ble_eq_true rfl, Nat.le_of_ble_eq_true rfl⟩)) hS hP hD [0, 3, 4] rfl rfl rfl (fun H locs hP hD hS => ?_)
    have hP : va_P D CLS [(x, .inr (4, [.int (nI bi), .int (nI ne), .int (nI li), .int (nI sp), .int (nI q), .ref sw, .ref sr, .ref br, .ref bq, .int lb])), (sr, .inr (3, [.ref e0, .ref e1, .int (nI pl), .int (nI rw)])), (e1, .inr (2, [.int 1, .int (nI fs), .int (nI sm), .int (nI ct), .int (nI ng)])), (bq, .inr (0, [.ref qa, .int (nI (rpl fi ((li - 1 - rw - q - 1) + 1))), .int (nI (h - ((li - 1 - rw - q - 1) + 1)))])), (qa, .inl (cB, 1000, .inl g))] H := hP
    have hD : va_D A [(x, .inr (4, [.int (nI bi), .int (nI ne), .int (nI li), .int (nI sp), .int (nI q), .ref sw, .ref sr, .ref br, .ref bq, .int lb])), (sr, .inr (3, [.ref e0, .ref e1, .int (nI pl), .int (nI rw)])), (e1, .inr (2, [.int 1, .int (nI fs), .int (nI sm), .int (nI ct), .int (nI ng)])), (bq, .inr (0, [.ref qa, .int (nI (rpl fi ((li - 1 - rw - q - 1) + 1))), .int (nI (h - ((li - 1 - rw - q - 1) + 1)))])), (qa, .inl (cB, 1000, .inl g))] := hD
    refine lv_istore (lv' := [(4, .int (-2)), (3, .int (nI K)), (2, .ref e1), (0, .ref x), (1, .int 1)]) hx hb d_X_readInterrupt_48 hl (by decide) rfl (fun ls hl => ?_)
    refine lv_iload hx hb d_X_readInterrupt_50 (lv_at hl 0 rfl) ?_
    refine lv_if_ge (tgt := 58) hx hb d_X_readInterrupt_52 (by decide) (fun c_2 => ?_) (fun c_2 => ?_)
    · skip
      exact absurd c_2 (by decide)
    · skip
      refine lv_ldc (v := 2147483647) hx hb hown (hg _ gw_477) d_X_readInterrupt_55 ?_
      exact W.iret (v := 2147483647) hx hb hr (fun t ht hW => ⟨rfl, by rw [ht]; exact hP, (hAe ▸ hS).F ht⟩) (hAe ▸ hS).2.2 d_X_readInterrupt_57
  · skip
    exact absurd c_1 (by decide)
set_option maxHeartbeats 4000000 in
set_option maxRecDepth 100000 in
theorem c_X_readInterrupt1W (l : Launch) (D : va_G) (x sw sr br bq bi ne li sp q : Nat) (lb : Int32) (e0 e1 pl rw : Nat) (fs sm ct ng : Nat) (qa : Nat) (cB : ClassId) (fi h : Nat) (g : Nat → Int32) (tw K z : Nat) (hf : fi < 1000) (hh : h ≤ 1000) (hc0 : ct ≤ 64) (hn0 : ng ≤ 64) (hs0 : sm < 2 ^ 29) (hKb : K ≤ 29) (hK1 : sm + ct / 2 ≤ ct * 2 ^ K) (hK2 : ∀ j, j < K → ct * 2 ^ j < sm + ct / 2) (hsp : sp ≤ 65536) (hq : q ≤ 29) (hli : q + 18 ≤ li) (hlb : li ≤ 200) (hrw : rw ≤ 15) (hz1 : z ≤ (li - 1 - rw - q - 1) + 1) (hz2 : z ≤ h) (hz3 : ∀ j, j < z → qb g fi h j = 0) (hz4 : z = (li - 1 - rw - q - 1) + 1 ∨ z = h ∨ qb g fi h z ≠ 0) (hzm : z ≤ (li - 1 - rw - q - 1)) (hw : h < z + 1 + tln q K (li - 1 - rw - q - 1) z) : Met l y_X_readInterrupt (WSY y_X_readInterrupt b_X_readInterrupt 6 (some .int)) ({ frames := 5, cells := 0, slots := 0, locals := 117 }) (va_Pc [.ref x, .int 1] (fun U => va_P D CLS [(x, .inr (4, [.int (nI bi), .int (nI ne), .int (nI li), .int (nI sp), .int (nI q), .ref sw, .ref sr, .ref br, .ref bq, .int lb])), (sr, .inr (3, [.ref e0, .ref e1, .int (nI pl), .int (nI rw)])), (e1, .inr (2, [.int 1, .int (nI fs), .int (nI sm), .int (nI ct), .int (nI ng)])), (bq, .inr (0, [.ref qa, .int (nI fi), .int (nI h)])), (qa, .inl (cB, 1000, .inl g))] U.heap ∧ va_K D CLS [(cB, .byte)] U ∧ va_D (fun _ => True) [(x, .inr (4, [.int (nI bi), .int (nI ne), .int (nI li), .int (nI sp), .int (nI q), .ref sw, .ref sr, .ref br, .ref bq, .int lb])), (sr, .inr (3, [.ref e0, .ref e1, .int (nI pl), .int (nI rw)])), (e1, .inr (2, [.int 1, .int (nI fs), .int (nI sm), .int (nI ct), .int (nI ng)])), (bq, .inr (0, [.ref qa, .int (nI fi), .int (nI h)])), (qa, .inl (cB, 1000, .inl g))] ∧ EV (ad [(x, .inr (4, [.int (nI bi), .int (nI ne), .int (nI li), .int (nI sp), .int (nI q), .ref sw, .ref sr, .ref br, .ref bq, .int lb])), (sr, .inr (3, [.ref e0, .ref e1, .int (nI pl), .int (nI rw)])), (e1, .inr (2, [.int 1, .int (nI fs), .int (nI sm), .int (nI ct), .int (nI ng)])), (bq, .inr (0, [.ref qa, .int (nI fi), .int (nI h)])), (qa, .inl (cB, 1000, .inl g))]) tw U)) (QM (some (.int 2147483647)) [(x, .inr (4, [.int (nI bi), .int (nI ne), .int (nI li), .int (nI sp), .int (nI q), .ref sw, .ref sr, .ref br, .ref bq, .int lb])), (sr, .inr (3, [.ref e0, .ref e1, .int (nI pl), .int (nI rw)])), (e1, .inr (2, [.int 1, .int (nI fs), .int (nI sm), .int (nI ct), .int (nI ng)])), (bq, .inr (0, [.ref qa, .int (nI fi), .int (nI h)])), (qa, .inl (cB, 1000, .inl g))] [(x, .inr (4, [.int (nI bi), .int (nI ne), .int (nI li), .int (nI sp), .int (nI q), .ref sw, .ref sr, .ref br, .ref bq, .int lb])), (sr, .inr (3, [.ref e0, .ref e1, .int (nI pl), .int (nI rw)])), (e1, .inr (2, [.int 1, .int (nI fs), .int (nI sm), .int (nI ct), .int (nI ng)])), (bq, .inr (0, [.ref qa, .int (nI fi), .int (nI h)])), (qa, .inl (cB, 1000, .inl g))] D) 0 0 (ad [(x, .inr (4, [.int (nI bi), .int (nI ne), .int (nI li), .int (nI sp), .int (nI q), .ref sw, .ref sr, .ref br, .ref bq, .int lb])), (sr, .inr (3, [.ref e0, .ref e1, .int (nI pl), .int (nI rw)])), (e1, .inr (2, [.int 1, .int (nI fs), .int (nI sm), .int (nI ct), .int (nI ng)])), (bq, .inr (0, [.ref qa, .int (nI fi), .int (nI h)])), (qa, .inl (cB, 1000, .inl g))]) := by
  refine Met.ofW (cc := b_X_readInterrupt) (maxL := 6) (ret := (some .int)) (by decide) rfl ?_
  intro p e s m args below meth c s₁ B hml hv
  obtain ⟨rfl, hP, hK, hD0, hE⟩ := hv
  have hx := B.exec
  have hb := B.bytes
  have hr := B.returns
  have hts := atoms_spec (ws := WSY y_X_readInterrupt b_X_readInterrupt 6 (some .int)) B.pre
  have hg : ∀ w ∈ GW, w.before _ s = true := fun w h => hts w (List.mem_cons_of_mem _ h)
  have hown : s.vm.findClass "LineGolomb" = some m.cls := findClass_of_methodNamed B.named
  have hlocks := B.notSynchronized
  obtain ⟨A, hAe⟩ : ∃ A, A = ad [(x, .inr (4, [.int (nI bi), .int (nI ne), .int (nI li), .int (nI sp), .int (nI q), .ref sw, .ref sr, .ref br, .ref bq, .int lb])), (sr, .inr (3, [.ref e0, .ref e1, .int (nI pl), .int (nI rw)])), (e1, .inr (2, [.int 1, .int (nI fs), .int (nI sm), .int (nI ct), .int (nI ng)])), (bq, .inr (0, [.ref qa, .int (nI fi), .int (nI h)])), (qa, .inl (cB, 1000, .inl g))] := ⟨_, rfl⟩
  have hD : va_D A [(x, .inr (4, [.int (nI bi), .int (nI ne), .int (nI li), .int (nI sp), .int (nI q), .ref sw, .ref sr, .ref br, .ref bq, .int lb])), (sr, .inr (3, [.ref e0, .ref e1, .int (nI pl), .int (nI rw)])), (e1, .inr (2, [.int 1, .int (nI fs), .int (nI sm), .int (nI ct), .int (nI ng)])), (bq, .inr (0, [.ref qa, .int (nI fi), .int (nI h)])), (qa, .inl (cB, 1000, .inl g))] := by rw [hAe]; exact va_D_ad hD0
  have hS : va_S A s.heap s.heap [] := va_S.rf
  rw [← hAe] at hE
  have hl := lv_entry ([.ref x, .int 1]) (n := 6) (Nat.le_of_ble_eq_true rfl)
  rw [lg_entry_eq]
  generalize (lg_sl ([.ref x, .int 1]) ++ List.replicate (6 - (lg_sl ([.ref x, .int 1])).length) Slot.unset).toArray = ls at hl ⊢
  have hl : lv_has ls 6 [(0, .ref x), (1, .int 1)] := hl
  refine lv_iload_n hx hb d_X_readInterrupt_0 rfl (lv_at hl 1 rfl) ?_
  have hPc := hP.sub (ws' := []) [] rfl
  have hKc := hK.sub (tys' := []) [] rfl
  refine pci (va_runS (As := [.int 1]) (rest := []) ⟨hx, hb, hml, hown, hg⟩ (c_X_isKind l D 1) (va_cwS 1 hg (gS gw_343 gw_344 gw_1 gw_345) rfl rfl rfl (by decide +kernel) ⟨Nat.le_of_ble_eq_true rfl, Nat.le_of_ble_eq_true rfl⟩) ⟨fun a U g mk q => by obtain ⟨q0, qP, qK⟩ := q; exact ⟨q0, qP, va_K.moved (u := U) (U := U.calling g mk a) (Vm.Alike.refl U.vm) qK⟩, fun U hU hW => ⟨rfl, by rw [hU]; exact hPc, va_K.moved hW.alike hKc⟩⟩ rfl rfl hl.1 rfl (lv_room (Nat.le_of_ble_eq_true rfl)) d_X_readInterrupt_1 (⟨Nat.le_of_ble_eq_true rfl, Nat.le_of_ble_eq_true rfl⟩)) ?_
  refine tpi (y := 1) (by decide) ?_
  refine lv_if_ne (tgt := 17) hx hb d_X_readInterrupt_4 (by decide) (fun c_1 => ?_) (fun c_1 => ?_)
  · skip
    refine lv_aload_n hx hb d_X_readInterrupt_17 rfl (lv_at hl 0 rfl) ?_
    refine va_get (D := D) (ci := 4) (v := .ref sr) (C := R_X) (T := T_X) (N := 10) hx hb hg in_X hown hK hP 0 rfl rfl 6 (by decide) (hg _ gw_122) (fun _ h9 => h9) rfl d_X_readInterrupt_18 ?_
    refine lv_iload_n hx hb d_X_readInterrupt_21 rfl (lv_at hl 1 rfl) ?_
    have hPc := hP.sub (ws' := [(sr, .inr (3, [.ref e0, .ref e1, .int (nI pl), .int (nI rw)]))]) [1] rfl
    have hKc := hK.sub (tys' := []) [] rfl
    refine pcr (va_runV (As := [.int 1]) (rest := []) ⟨hx, hb, hml, hown, hg⟩ (c_S_endsOf1 l D sr e0 e1 pl rw) (cwV 1 hg (gV gw_367 gw_368 gw_369 gw_5 gw_370) rfl rfl rfl (by decide +kernel) ⟨Nat.le_of_ble_eq_true rfl, Nat.le_of_ble_eq_true rfl⟩) ⟨fun a U g mk q => by obtain ⟨q0, qP, qK⟩ := q; exact ⟨q0, qP, va_K.moved (u := U) (U := U.calling g mk a) (Vm.Alike.refl U.vm) qK⟩, va_recv hKc hPc (ci := 3) (q0 := 0) rfl rfl, fun U hU hW => ⟨rfl, by rw [hU]; exact hPc, va_K.moved hW.alike hKc⟩⟩ rfl rfl hl.1 rfl (lv_room (Nat.le_of_ble_eq_true rfl)) d_X_readInterrupt_22 (⟨Nat.le_of_ble_eq_true rfl, Nat.le_of_ble_eq_true rfl⟩)) ?_
    refine lv_astore_n (lv' := [(2, .ref e1), (0, .ref x), (1, .int 1)]) hx hb d_X_readInterrupt_25 rfl hl (by decide) rfl (fun ls hl => ?_)
    refine lv_aload_n hx hb d_X_readInterrupt_26 rfl (lv_at hl 0 rfl) ?_
    have hPc := hP.sub (ws' := [(e1, .inr (2, [.int 1, .int (nI fs), .int (nI sm), .int (nI ct), .int (nI ng)]))]) [2] rfl
    have hKc := hK.sub (tys' := []) [] rfl
    refine pci (va_runV (As := []) (rest := []) ⟨hx, hb, hml, hown, hg⟩ (c_E_shift1 l D e1 fs sm ct ng K hc0 (by omega) hKb hK1 hK2) (cwV 0 hg (gV gw_371 gw_372 gw_373 gw_6 gw_374) rfl rfl rfl (by decide +kernel) ⟨Nat.le_of_ble_eq_true rfl, Nat.le_of_ble_eq_true rfl⟩) ⟨fun a U g mk q => by obtain ⟨q0, qP, qK⟩ := q; exact ⟨q0, qP, va_K.moved (u := U) (U := U.calling g mk a) (Vm.Alike.refl U.vm) qK⟩, va_recv hKc hPc (ci := 2) (q0 := 0) rfl rfl, fun U hU hW => ⟨rfl, by rw [hU]; exact hPc, va_K.moved hW.alike hKc⟩⟩ rfl rfl hl.1 rfl (lv_room (Nat.le_of_ble_eq_true rfl)) d_X_readInterrupt_27 (⟨Nat.le_of_ble_eq_true rfl, Nat.le_of_ble_eq_true rfl⟩)) ?_
    refine lv_istore_n (lv' := [(3, .int (nI K)), (2, .ref e1), (0, .ref x), (1, .int 1)]) hx hb d_X_readInterrupt_30 rfl hl (by decide) rfl (fun ls hl => ?_)
    refine lv_aload_n hx hb d_X_readInterrupt_31 rfl (lv_at hl 2 rfl) ?_
    refine lv_iload_n hx hb d_X_readInterrupt_32 rfl (lv_at hl 0 rfl) ?_
    refine lv_aload_n hx hb d_X_readInterrupt_33 rfl (lv_at hl 2 rfl) ?_
    refine lv_aload_n hx hb d_X_readInterrupt_34 rfl (lv_at hl 2 rfl) ?_
    refine lv_aload_n hx hb d_X_readInterrupt_35 rfl (lv_at hl 2 rfl) ?_
    refine va_get (D := D) (ci := 4) (v := .ref sr) (C := R_X) (T := T_X) (N := 10) hx hb hg in_X hown hK hP 0 rfl rfl 6 (by decide) (hg _ gw_122) (fun _ h9 => h9) rfl d_X_readInterrupt_36 ?_
    have hPc := hP.sub (ws' := [(x, .inr (4, [.int (nI bi), .int (nI ne), .int (nI li), .int (nI sp), .int (nI q), .ref sw, .ref sr, .ref br, .ref bq, .int lb])), (sr, .inr (3, [.ref e0, .ref e1, .int (nI pl), .int (nI rw)]))]) [0, 1] rfl
    have hKc := hK.sub (tys' := []) [] rfl
    refine pci (va_runV (As := [.ref sr]) (rest := [.ref x, .int (nI K), .ref x]) ⟨hx, hb, hml, hown, hg⟩ (c_X_endLimit l D x sw sr br bq bi ne li sp q lb sr e0 e1 pl rw tw (by omega)) (cwV 1 hg (gV gw_386 gw_388 gs_8 gw_1 gw_389) rfl rfl rfl (by decide +kernel) ⟨Nat.le_of_ble_eq_true rfl, Nat.le_of_ble_eq_true rfl⟩) ⟨fun a U g mk q => by obtain ⟨q0, qP, qK, qX⟩ := q; exact ⟨q0, qP, va_K.moved (u := U) (U := U.calling g mk a) (Vm.Alike.refl U.vm) qK, qX.blind⟩, va_recv hKc hPc (ci := 4) (q0 := 0) rfl rfl, fun U hU hW => ⟨rfl, by rw [hU]; exact hPc, va_K.moved hW.alike hKc, hE.call hS noF hU hW⟩⟩ rfl rfl hl.1 rfl (lv_room (Nat.le_of_ble_eq_true rfl)) d_X_readInterrupt_39 (⟨Nat.le_of_ble_eq_true rfl, Nat.le_of_ble_eq_true rfl⟩)) ?_
    have hPc := hP.sub (ws' := [(x, .inr (4, [.int (nI bi), .int (nI ne), .int (nI li), .int (nI sp), .int (nI q), .ref sw, .ref sr, .ref br, .ref bq, .int lb]))]) [0] rfl
    have hKc := hK.sub (tys' := []) [] rfl
    refine pci (va_runV (As := [.int (nI (li - 1 - rw))]) (rest := [.int (nI K), .ref x]) ⟨hx, hb, hml, hown, hg⟩ (c_X_mostZeros l D x sw sr br bq bi ne li sp q lb (li - 1 - rw) (by omega)) (cwV 1 hg (gV gw_269 gw_271 gs_3 gw_1 gw_272) rfl rfl rfl (by decide +kernel) ⟨Nat.le_of_ble_eq_true rfl, Nat.le_of_ble_eq_true rfl⟩) ⟨fun a U g mk q => by obtain ⟨q0, qP, qK⟩ := q; exact ⟨q0, qP, va_K.moved (u := U) (U := U.calling g mk a) (Vm.Alike.refl U.vm) qK⟩, va_recv hKc hPc (ci := 4) (q0 := 0) rfl rfl, fun U hU hW => ⟨rfl, by rw [hU]; exact hPc, va_K.moved hW.alike hKc⟩⟩ rfl rfl hl.1 rfl (lv_room (Nat.le_of_ble_eq_true rfl)) d_X_readInterrupt_42 (⟨Nat.le_of_ble_eq_true rfl, Nat.le_of_ble_eq_true rfl⟩)) ?_
    have hPc := hP.sub (ws' := [(x, .inr (4, [.int (nI bi), .int (nI ne), .int (nI li), .int (nI sp), .int (nI q), .ref sw, .ref sr, .ref br, .ref bq, .int lb])), (bq, .inr (0, [.ref qa, .int (nI fi), .int (nI h)])), (qa, .inl (cB, 1000, .inl g))]) [0, 3, 4] rfl
    have hDc := hD.sub (ws' := [(x, .inr (4, [.int (nI bi), .int (nI ne), .int (nI li), .int (nI sp), .int (nI q), .ref sw, .ref sr, .ref br, .ref bq, .int lb])), (bq, .inr (0, [.ref qa, .int (nI fi), .int (nI h)])), (qa, .inl (cB, 1000, .inl g))]) [0, 3, 4] (by decide) rfl
    have hKc := hK.sub (tys' := [(cB, .byte)]) [0] rfl
    refine mci (va_runV (As := [.int (nI K), .int (nI (li - 1 - rw - q - 1))]) (rest := []) ⟨hx, hb, hml, hown, hg⟩ (c_X_takeNumberW l D x sw sr br bq bi ne li sp q lb qa cB fi h g tw K (li - 1 - rw - q - 1) z hf hh (by omega) (by omega) (by omega) hz1 hz2 hz3 hz4 hzm hw) (cwV 2 hg (gV gw_437 gw_439 gs_9 gw_1 gw_440) rfl rfl rfl (by decide +kernel) ⟨Nat.le_of_ble_eq_true rfl, Nat.le_of_ble_eq_true rfl⟩) ⟨fun a U g mk q => by obtain ⟨q0, qP, qK, qD, qX⟩ := q; exact ⟨q0, qP, va_K.moved (u := U) (U := U.calling g mk a) (Vm.Alike.refl U.vm) qK, qD, qX.blind⟩, va_recv hKc hPc (ci := 4) (q0 := 0) rfl rfl, fun U hU hW => ⟨rfl, by rw [hU]; exact hPc, va_K.moved hW.alike hKc, hDc.weaken (fun _ _ _ _ => trivial), hE.call hS (ad_sub hD [0, 3, 4] rfl) hU hW⟩⟩ rfl rfl hl.1 rfl (lv_room (Nat.le_of_ble_eq_true rfl)) d_X_readInterrupt_45 (⟨Nat.le_of_ble_eq_true rfl, Nat.le_of_ble_eq_true rfl⟩)) hS hP hD [0, 3, 4] rfl rfl rfl (fun H locs hP hD hS => ?_)
    have hP : va_P D CLS [(x, .inr (4, [.int (nI bi), .int (nI ne), .int (nI li), .int (nI sp), .int (nI q), .ref sw, .ref sr, .ref br, .ref bq, .int lb])), (sr, .inr (3, [.ref e0, .ref e1, .int (nI pl), .int (nI rw)])), (e1, .inr (2, [.int 1, .int (nI fs), .int (nI sm), .int (nI ct), .int (nI ng)])), (bq, .inr (0, [.ref qa, .int (nI fi), .int (nI h)])), (qa, .inl (cB, 1000, .inl g))] H := hP
    have hD : va_D A [(x, .inr (4, [.int (nI bi), .int (nI ne), .int (nI li), .int (nI sp), .int (nI q), .ref sw, .ref sr, .ref br, .ref bq, .int lb])), (sr, .inr (3, [.ref e0, .ref e1, .int (nI pl), .int (nI rw)])), (e1, .inr (2, [.int 1, .int (nI fs), .int (nI sm), .int (nI ct), .int (nI ng)])), (bq, .inr (0, [.ref qa, .int (nI fi), .int (nI h)])), (qa, .inl (cB, 1000, .inl g))] := hD
    refine lv_istore (lv' := [(4, .int (-1)), (3, .int (nI K)), (2, .ref e1), (0, .ref x), (1, .int 1)]) hx hb d_X_readInterrupt_48 hl (by decide) rfl (fun ls hl => ?_)
    refine lv_iload hx hb d_X_readInterrupt_50 (lv_at hl 0 rfl) ?_
    refine lv_if_ge (tgt := 58) hx hb d_X_readInterrupt_52 (by decide) (fun c_2 => ?_) (fun c_2 => ?_)
    · skip
      exact absurd c_2 (by decide)
    · skip
      refine lv_ldc (v := 2147483647) hx hb hown (hg _ gw_477) d_X_readInterrupt_55 ?_
      exact W.iret (v := 2147483647) hx hb hr (fun t ht hW => ⟨rfl, by rw [ht]; exact hP, (hAe ▸ hS).F ht⟩) (hAe ▸ hS).2.2 d_X_readInterrupt_57
  · skip
    exact absurd c_1 (by decide)
set_option maxHeartbeats 4000000 in
set_option maxRecDepth 100000 in
theorem c_X_readInterrupt1B (l : Launch) (D : va_G) (x sw sr br bq bi ne li sp q : Nat) (lb : Int32) (e0 e1 pl rw : Nat) (fs sm ct ng : Nat) (qa : Nat) (cB : ClassId) (fi h : Nat) (g : Nat → Int32) (tw K z : Nat) (hf : fi < 1000) (hh : h ≤ 1000) (hc0 : ct ≤ 64) (hn0 : ng ≤ 64) (hs0 : sm < 2 ^ 29) (hKb : K ≤ 29) (hK1 : sm + ct / 2 ≤ ct * 2 ^ K) (hK2 : ∀ j, j < K → ct * 2 ^ j < sm + ct / 2) (hsp : sp ≤ 65536) (hq : q ≤ 29) (hli : q + 18 ≤ li) (hlb : li ≤ 200) (hrw : rw ≤ 15) (hz1 : z ≤ (li - 1 - rw - q - 1) + 1) (hz2 : z ≤ h) (hz3 : ∀ j, j < z → qb g fi h j = 0) (hz4 : z = (li - 1 - rw - q - 1) + 1 ∨ z = h ∨ qb g fi h z ≠ 0) (hzm : z ≤ (li - 1 - rw - q - 1)) (hw : z + 1 + tln q K (li - 1 - rw - q - 1) z ≤ h) (hzk : z * 2 ^ K < 2 ^ 31) (N : Nat) (hN : rnum (qb g fi h) q K (li - 1 - rw - q - 1) z = nI N) (hNb : N < 2 ^ 29) (eb : Int32) (heb : eb = if ((N + 1) % 2 = 1 ↔ (K = 0 ∧ 2 * ng < ct)) then nI ((N + 1 + 1) / 2) else -nI ((N + 1 + 1) / 2)) (hbad : ¬ (-((sp / 2 : Nat) : Int) ≤ eb.toInt ∧ eb.toInt ≤ ((sp / 2 : Nat) : Int) ∧ (¬ eb = 0 ∨ (1 : Int32) = 0))) : Met l y_X_readInterrupt (WSY y_X_readInterrupt b_X_readInterrupt 6 (some .int)) ({ frames := 5, cells := 0, slots := 0, locals := 117 }) (va_Pc [.ref x, .int 1] (fun U => va_P D CLS [(x, .inr (4, [.int (nI bi), .int (nI ne), .int (nI li), .int (nI sp), .int (nI q), .ref sw, .ref sr, .ref br, .ref bq, .int lb])), (sr, .inr (3, [.ref e0, .ref e1, .int (nI pl), .int (nI rw)])), (e1, .inr (2, [.int 1, .int (nI fs), .int (nI sm), .int (nI ct), .int (nI ng)])), (bq, .inr (0, [.ref qa, .int (nI fi), .int (nI h)])), (qa, .inl (cB, 1000, .inl g))] U.heap ∧ va_K D CLS [(cB, .byte)] U ∧ va_D (fun _ => True) [(x, .inr (4, [.int (nI bi), .int (nI ne), .int (nI li), .int (nI sp), .int (nI q), .ref sw, .ref sr, .ref br, .ref bq, .int lb])), (sr, .inr (3, [.ref e0, .ref e1, .int (nI pl), .int (nI rw)])), (e1, .inr (2, [.int 1, .int (nI fs), .int (nI sm), .int (nI ct), .int (nI ng)])), (bq, .inr (0, [.ref qa, .int (nI fi), .int (nI h)])), (qa, .inl (cB, 1000, .inl g))] ∧ EV (ad [(x, .inr (4, [.int (nI bi), .int (nI ne), .int (nI li), .int (nI sp), .int (nI q), .ref sw, .ref sr, .ref br, .ref bq, .int lb])), (sr, .inr (3, [.ref e0, .ref e1, .int (nI pl), .int (nI rw)])), (e1, .inr (2, [.int 1, .int (nI fs), .int (nI sm), .int (nI ct), .int (nI ng)])), (bq, .inr (0, [.ref qa, .int (nI fi), .int (nI h)])), (qa, .inl (cB, 1000, .inl g))]) tw U)) (QM (some (.int 2147483647)) [(x, .inr (4, [.int (nI bi), .int (nI ne), .int (nI li), .int (nI sp), .int (nI q), .ref sw, .ref sr, .ref br, .ref bq, .int lb])), (sr, .inr (3, [.ref e0, .ref e1, .int (nI pl), .int (nI rw)])), (e1, .inr (2, [.int 1, .int (nI fs), .int (nI sm), .int (nI ct), .int (nI ng)])), (bq, .inr (0, [.ref qa, .int (nI fi), .int (nI h)])), (qa, .inl (cB, 1000, .inl g))] [(x, .inr (4, [.int (nI bi), .int (nI ne), .int (nI li), .int (nI sp), .int (nI q), .ref sw, .ref sr, .ref br, .ref bq, .int lb])), (sr, .inr (3, [.ref e0, .ref e1, .int (nI pl), .int (nI rw)])), (e1, .inr (2, [.int 1, .int (nI fs), .int (nI sm), .int (nI ct), .int (nI ng)])), (bq, .inr (0, [.ref qa, .int (nI (rpl fi (z + 1 + tln q K (li - 1 - rw - q - 1) z))), .int (nI (h - (z + 1 + tln q K (li - 1 - rw - q - 1) z)))])), (qa, .inl (cB, 1000, .inl g))] D) 0 0 (ad [(x, .inr (4, [.int (nI bi), .int (nI ne), .int (nI li), .int (nI sp), .int (nI q), .ref sw, .ref sr, .ref br, .ref bq, .int lb])), (sr, .inr (3, [.ref e0, .ref e1, .int (nI pl), .int (nI rw)])), (e1, .inr (2, [.int 1, .int (nI fs), .int (nI sm), .int (nI ct), .int (nI ng)])), (bq, .inr (0, [.ref qa, .int (nI fi), .int (nI h)])), (qa, .inl (cB, 1000, .inl g))]) := by
  refine Met.ofW (cc := b_X_readInterrupt) (maxL := 6) (ret := (some .int)) (by decide) rfl ?_
  intro p e s m args below meth c s₁ B hml hv
  obtain ⟨rfl, hP, hK, hD0, hE⟩ := hv
  have hx := B.exec
  have hb := B.bytes
  have hr := B.returns
  have hts := atoms_spec (ws := WSY y_X_readInterrupt b_X_readInterrupt 6 (some .int)) B.pre
  have hg : ∀ w ∈ GW, w.before _ s = true := fun w h => hts w (List.mem_cons_of_mem _ h)
  have hown : s.vm.findClass "LineGolomb" = some m.cls := findClass_of_methodNamed B.named
  have hlocks := B.notSynchronized
  obtain ⟨A, hAe⟩ : ∃ A, A = ad [(x, .inr (4, [.int (nI bi), .int (nI ne), .int (nI li), .int (nI sp), .int (nI q), .ref sw, .ref sr, .ref br, .ref bq, .int lb])), (sr, .inr (3, [.ref e0, .ref e1, .int (nI pl), .int (nI rw)])), (e1, .inr (2, [.int 1, .int (nI fs), .int (nI sm), .int (nI ct), .int (nI ng)])), (bq, .inr (0, [.ref qa, .int (nI fi), .int (nI h)])), (qa, .inl (cB, 1000, .inl g))] := ⟨_, rfl⟩
  have hD : va_D A [(x, .inr (4, [.int (nI bi), .int (nI ne), .int (nI li), .int (nI sp), .int (nI q), .ref sw, .ref sr, .ref br, .ref bq, .int lb])), (sr, .inr (3, [.ref e0, .ref e1, .int (nI pl), .int (nI rw)])), (e1, .inr (2, [.int 1, .int (nI fs), .int (nI sm), .int (nI ct), .int (nI ng)])), (bq, .inr (0, [.ref qa, .int (nI fi), .int (nI h)])), (qa, .inl (cB, 1000, .inl g))] := by rw [hAe]; exact va_D_ad hD0
  have hS : va_S A s.heap s.heap [] := va_S.rf
  rw [← hAe] at hE
  have hl := lv_entry ([.ref x, .int 1]) (n := 6) (Nat.le_of_ble_eq_true rfl)
  rw [lg_entry_eq]
  generalize (lg_sl ([.ref x, .int 1]) ++ List.replicate (6 - (lg_sl ([.ref x, .int 1])).length) Slot.unset).toArray = ls at hl ⊢
  have hl : lv_has ls 6 [(0, .ref x), (1, .int 1)] := hl
  refine lv_iload_n hx hb d_X_readInterrupt_0 rfl (lv_at hl 1 rfl) ?_
  have hPc := hP.sub (ws' := []) [] rfl
  have hKc := hK.sub (tys' := []) [] rfl
  refine pci (va_runS (As := [.int 1]) (rest := []) ⟨hx, hb, hml, hown, hg⟩ (c_X_isKind l D 1) (va_cwS 1 hg (gS gw_343 gw_344 gw_1 gw_345) rfl rfl rfl (by decide +kernel) ⟨Nat.le_of_ble_eq_true rfl, Nat.le_of_ble_eq_true rfl⟩) ⟨fun a U g mk q => by obtain ⟨q0, qP, qK⟩ := q; exact ⟨q0, qP, va_K.moved (u := U) (U := U.calling g mk a) (Vm.Alike.refl U.vm) qK⟩, fun U hU hW => ⟨rfl, by rw [hU]; exact hPc, va_K.moved hW.alike hKc⟩⟩ rfl rfl hl.1 rfl (lv_room (Nat.le_of_ble_eq_true rfl)) d_X_readInterrupt_1 (⟨Nat.le_of_ble_eq_true rfl, Nat.le_of_ble_eq_true rfl⟩)) ?_
  refine tpi (y := 1) (by decide) ?_
  refine lv_if_ne (tgt := 17) hx hb d_X_readInterrupt_4 (by decide) (fun c_1 => ?_) (fun c_1 => ?_)
  · skip
    refine lv_aload_n hx hb d_X_readInterrupt_17 rfl (lv_at hl 0 rfl) ?_
    refine va_get (D := D) (ci := 4) (v := .ref sr) (C := R_X) (T := T_X) (N := 10) hx hb hg in_X hown hK hP 0 rfl rfl 6 (by decide) (hg _ gw_122) (fun _ h9 => h9) rfl d_X_readInterrupt_18 ?_
    refine lv_iload_n hx hb d_X_readInterrupt_21 rfl (lv_at hl 1 rfl) ?_
    have hPc := hP.sub (ws' := [(sr, .inr (3, [.ref e0, .ref e1, .int (nI pl), .int (nI rw)]))]) [1] rfl
    have hKc := hK.sub (tys' := []) [] rfl
    refine pcr (va_runV (As := [.int 1]) (rest := []) ⟨hx, hb, hml, hown, hg⟩ (c_S_endsOf1 l D sr e0 e1 pl rw) (cwV 1 hg (gV gw_367 gw_368 gw_369 gw_5 gw_370) rfl rfl rfl (by decide +kernel) ⟨Nat.le_of_ble_eq_true rfl, Nat.le_of_ble_eq_true rfl⟩) ⟨fun a U g mk q => by obtain ⟨q0, qP, qK⟩ := q; exact ⟨q0, qP, va_K.moved (u := U) (U := U.calling g mk a) (Vm.Alike.refl U.vm) qK⟩, va_recv hKc hPc (ci := 3) (q0 := 0) rfl rfl, fun U hU hW => ⟨rfl, by rw [hU]; exact hPc, va_K.moved hW.alike hKc⟩⟩ rfl rfl hl.1 rfl (lv_room (Nat.le_of_ble_eq_true rfl)) d_X_readInterrupt_22 (⟨Nat.le_of_ble_eq_true rfl, Nat.le_of_ble_eq_true rfl⟩)) ?_
    refine lv_astore_n (lv' := [(2, .ref e1), (0, .ref x), (1, .int 1)]) hx hb d_X_readInterrupt_25 rfl hl (by decide) rfl (fun ls hl => ?_)
    refine lv_aload_n hx hb d_X_readInterrupt_26 rfl (lv_at hl 0 rfl) ?_
    have hPc := hP.sub (ws' := [(e1, .inr (2, [.int 1, .int (nI fs), .int (nI sm), .int (nI ct), .int (nI ng)]))]) [2] rfl
    have hKc := hK.sub (tys' := []) [] rfl
    refine pci (va_runV (As := []) (rest := []) ⟨hx, hb, hml, hown, hg⟩ (c_E_shift1 l D e1 fs sm ct ng K hc0 (by omega) hKb hK1 hK2) (cwV 0 hg (gV gw_371 gw_372 gw_373 gw_6 gw_374) rfl rfl rfl (by decide +kernel) ⟨Nat.le_of_ble_eq_true rfl, Nat.le_of_ble_eq_true rfl⟩) ⟨fun a U g mk q => by obtain ⟨q0, qP, qK⟩ := q; exact ⟨q0, qP, va_K.moved (u := U) (U := U.calling g mk a) (Vm.Alike.refl U.vm) qK⟩, va_recv hKc hPc (ci := 2) (q0 := 0) rfl rfl, fun U hU hW => ⟨rfl, by rw [hU]; exact hPc, va_K.moved hW.alike hKc⟩⟩ rfl rfl hl.1 rfl (lv_room (Nat.le_of_ble_eq_true rfl)) d_X_readInterrupt_27 (⟨Nat.le_of_ble_eq_true rfl, Nat.le_of_ble_eq_true rfl⟩)) ?_
    refine lv_istore_n (lv' := [(3, .int (nI K)), (2, .ref e1), (0, .ref x), (1, .int 1)]) hx hb d_X_readInterrupt_30 rfl hl (by decide) rfl (fun ls hl => ?_)
    refine lv_aload_n hx hb d_X_readInterrupt_31 rfl (lv_at hl 2 rfl) ?_
    refine lv_iload_n hx hb d_X_readInterrupt_32 rfl (lv_at hl 0 rfl) ?_
    refine lv_aload_n hx hb d_X_readInterrupt_33 rfl (lv_at hl 2 rfl) ?_
    refine lv_aload_n hx hb d_X_readInterrupt_34 rfl (lv_at hl 2 rfl) ?_
    refine lv_aload_n hx hb d_X_readInterrupt_35 rfl (lv_at hl 2 rfl) ?_
    refine va_get (D := D) (ci := 4) (v := .ref sr) (C := R_X) (T := T_X) (N := 10) hx hb hg in_X hown hK hP 0 rfl rfl 6 (by decide) (hg _ gw_122) (fun _ h9 => h9) rfl d_X_readInterrupt_36 ?_
    have hPc := hP.sub (ws' := [(x, .inr (4, [.int (nI bi), .int (nI ne), .int (nI li), .int (nI sp), .int (nI q), .ref sw, .ref sr, .ref br, .ref bq, .int lb])), (sr, .inr (3, [.ref e0, .ref e1, .int (nI pl), .int (nI rw)]))]) [0, 1] rfl
    have hKc := hK.sub (tys' := []) [] rfl
    refine pci (va_runV (As := [.ref sr]) (rest := [.ref x, .int (nI K), .ref x]) ⟨hx, hb, hml, hown, hg⟩ (c_X_endLimit l D x sw sr br bq bi ne li sp q lb sr e0 e1 pl rw tw (by omega)) (cwV 1 hg (gV gw_386 gw_388 gs_8 gw_1 gw_389) rfl rfl rfl (by decide +kernel) ⟨Nat.le_of_ble_eq_true rfl, Nat.le_of_ble_eq_true rfl⟩) ⟨fun a U g mk q => by obtain ⟨q0, qP, qK, qX⟩ := q; exact ⟨q0, qP, va_K.moved (u := U) (U := U.calling g mk a) (Vm.Alike.refl U.vm) qK, qX.blind⟩, va_recv hKc hPc (ci := 4) (q0 := 0) rfl rfl, fun U hU hW => ⟨rfl, by rw [hU]; exact hPc, va_K.moved hW.alike hKc, hE.call hS noF hU hW⟩⟩ rfl rfl hl.1 rfl (lv_room (Nat.le_of_ble_eq_true rfl)) d_X_readInterrupt_39 (⟨Nat.le_of_ble_eq_true rfl, Nat.le_of_ble_eq_true rfl⟩)) ?_
    have hPc := hP.sub (ws' := [(x, .inr (4, [.int (nI bi), .int (nI ne), .int (nI li), .int (nI sp), .int (nI q), .ref sw, .ref sr, .ref br, .ref bq, .int lb]))]) [0] rfl
    have hKc := hK.sub (tys' := []) [] rfl
    refine pci (va_runV (As := [.int (nI (li - 1 - rw))]) (rest := [.int (nI K), .ref x]) ⟨hx, hb, hml, hown, hg⟩ (c_X_mostZeros l D x sw sr br bq bi ne li sp q lb (li - 1 - rw) (by omega)) (cwV 1 hg (gV gw_269 gw_271 gs_3 gw_1 gw_272) rfl rfl rfl (by decide +kernel) ⟨Nat.le_of_ble_eq_true rfl, Nat.le_of_ble_eq_true rfl⟩) ⟨fun a U g mk q => by obtain ⟨q0, qP, qK⟩ := q; exact ⟨q0, qP, va_K.moved (u := U) (U := U.calling g mk a) (Vm.Alike.refl U.vm) qK⟩, va_recv hKc hPc (ci := 4) (q0 := 0) rfl rfl, fun U hU hW => ⟨rfl, by rw [hU]; exact hPc, va_K.moved hW.alike hKc⟩⟩ rfl rfl hl.1 rfl (lv_room (Nat.le_of_ble_eq_true rfl)) d_X_readInterrupt_42 (⟨Nat.le_of_ble_eq_true rfl, Nat.le_of_ble_eq_true rfl⟩)) ?_
    have hPc := hP.sub (ws' := [(x, .inr (4, [.int (nI bi), .int (nI ne), .int (nI li), .int (nI sp), .int (nI q), .ref sw, .ref sr, .ref br, .ref bq, .int lb])), (bq, .inr (0, [.ref qa, .int (nI fi), .int (nI h)])), (qa, .inl (cB, 1000, .inl g))]) [0, 3, 4] rfl
    have hDc := hD.sub (ws' := [(x, .inr (4, [.int (nI bi), .int (nI ne), .int (nI li), .int (nI sp), .int (nI q), .ref sw, .ref sr, .ref br, .ref bq, .int lb])), (bq, .inr (0, [.ref qa, .int (nI fi), .int (nI h)])), (qa, .inl (cB, 1000, .inl g))]) [0, 3, 4] (by decide) rfl
    have hKc := hK.sub (tys' := [(cB, .byte)]) [0] rfl
    refine mci (va_runV (As := [.int (nI K), .int (nI (li - 1 - rw - q - 1))]) (rest := []) ⟨hx, hb, hml, hown, hg⟩ (c_X_takeNumberG l D x sw sr br bq bi ne li sp q lb qa cB fi h g tw K (li - 1 - rw - q - 1) z hf hh (by omega) (by omega) (by omega) hz1 hz2 hz3 hz4 hzm hw hzk) (cwV 2 hg (gV gw_437 gw_439 gs_9 gw_1 gw_440) rfl rfl rfl (by decide +kernel) ⟨Nat.le_of_ble_eq_true rfl, Nat.le_of_ble_eq_true rfl⟩) ⟨fun a U g mk q => by obtain ⟨q0, qP, qK, qD, qX⟩ := q; exact ⟨q0, qP, va_K.moved (u := U) (U := U.calling g mk a) (Vm.Alike.refl U.vm) qK, qD, qX.blind⟩, va_recv hKc hPc (ci := 4) (q0 := 0) rfl rfl, fun U hU hW => ⟨rfl, by rw [hU]; exact hPc, va_K.moved hW.alike hKc, hDc.weaken (fun _ _ _ _ => trivial), hE.call hS (ad_sub hD [0, 3, 4] rfl) hU hW⟩⟩ rfl rfl hl.1 rfl (lv_room (Nat.le_of_ble_eq_true rfl)) d_X_readInterrupt_45 (⟨Nat.le_of_ble_eq_true rfl, Nat.le_of_ble_eq_true rfl⟩)) hS hP hD [0, 3, 4] rfl rfl rfl (fun H locs hP hD hS => ?_)
    have hP : va_P D CLS [(x, .inr (4, [.int (nI bi), .int (nI ne), .int (nI li), .int (nI sp), .int (nI q), .ref sw, .ref sr, .ref br, .ref bq, .int lb])), (sr, .inr (3, [.ref e0, .ref e1, .int (nI pl), .int (nI rw)])), (e1, .inr (2, [.int 1, .int (nI fs), .int (nI sm), .int (nI ct), .int (nI ng)])), (bq, .inr (0, [.ref qa, .int (nI (rpl fi (z + 1 + tln q K (li - 1 - rw - q - 1) z))), .int (nI (h - (z + 1 + tln q K (li - 1 - rw - q - 1) z)))])), (qa, .inl (cB, 1000, .inl g))] H := hP
    have hD : va_D A [(x, .inr (4, [.int (nI bi), .int (nI ne), .int (nI li), .int (nI sp), .int (nI q), .ref sw, .ref sr, .ref br, .ref bq, .int lb])), (sr, .inr (3, [.ref e0, .ref e1, .int (nI pl), .int (nI rw)])), (e1, .inr (2, [.int 1, .int (nI fs), .int (nI sm), .int (nI ct), .int (nI ng)])), (bq, .inr (0, [.ref qa, .int (nI (rpl fi (z + 1 + tln q K (li - 1 - rw - q - 1) z))), .int (nI (h - (z + 1 + tln q K (li - 1 - rw - q - 1) z)))])), (qa, .inl (cB, 1000, .inl g))] := hD
    refine tpi (y := nI N) (hN) ?_
    refine lv_istore (lv' := [(4, .int (nI N)), (3, .int (nI K)), (2, .ref e1), (0, .ref x), (1, .int 1)]) hx hb d_X_readInterrupt_48 hl (by decide) rfl (fun ls hl => ?_)
    refine lv_iload hx hb d_X_readInterrupt_50 (lv_at hl 0 rfl) ?_
    refine lv_if_ge (tgt := 58) hx hb d_X_readInterrupt_52 (by decide) (fun c_2 => ?_) (fun c_2 => ?_)
    · skip
      refine lv_aload_n hx hb d_X_readInterrupt_58 rfl (lv_at hl 2 rfl) ?_
      refine lv_iload hx hb d_X_readInterrupt_59 (lv_at hl 0 rfl) ?_
      refine lv_iload_n hx hb d_X_readInterrupt_61 rfl (lv_at hl 1 rfl) ?_
      have hPc := hP.sub (ws' := [(e1, .inr (2, [.int 1, .int (nI fs), .int (nI sm), .int (nI ct), .int (nI ng)]))]) [2] rfl
      have hKc := hK.sub (tys' := []) [] rfl
      refine pci (va_runV (As := [.int (nI N), .int (nI K)]) (rest := []) ⟨hx, hb, hml, hown, hg⟩ (c_E_errorOf1 l D e1 fs sm ct ng N K hc0 hn0 hKb (by omega)) (cwV 2 hg (gV gw_478 gw_479 gw_480 gw_6 gw_481) rfl rfl rfl (by decide +kernel) ⟨Nat.le_of_ble_eq_true rfl, Nat.le_of_ble_eq_true rfl⟩) ⟨fun a U g mk q => by obtain ⟨q0, qP, qK⟩ := q; exact ⟨q0, qP, va_K.moved (u := U) (U := U.calling g mk a) (Vm.Alike.refl U.vm) qK⟩, va_recv hKc hPc (ci := 2) (q0 := 0) rfl rfl, fun U hU hW => ⟨rfl, by rw [hU]; exact hPc, va_K.moved hW.alike hKc⟩⟩ rfl rfl hl.1 rfl (lv_room (Nat.le_of_ble_eq_true rfl)) d_X_readInterrupt_62 (⟨Nat.le_of_ble_eq_true rfl, Nat.le_of_ble_eq_true rfl⟩)) ?_
      refine tpi (y := eb) (heb.symm) ?_
      refine lv_istore (lv' := [(5, .int eb), (4, .int (nI N)), (3, .int (nI K)), (2, .ref e1), (0, .ref x), (1, .int 1)]) hx hb d_X_readInterrupt_65 hl (by decide) rfl (fun ls hl => ?_)
      refine lv_aload_n hx hb d_X_readInterrupt_67 rfl (lv_at hl 4 rfl) ?_
      refine lv_iload_n hx hb d_X_readInterrupt_68 rfl (lv_at hl 5 rfl) ?_
      refine lv_iload hx hb d_X_readInterrupt_69 (lv_at hl 0 rfl) ?_
      have hPc := hP.sub (ws' := [(x, .inr (4, [.int (nI bi), .int (nI ne), .int (nI li), .int (nI sp), .int (nI q), .ref sw, .ref sr, .ref br, .ref bq, .int lb]))]) [0] rfl
      have hKc := hK.sub (tys' := []) [] rfl
      refine pci (va_runV (As := [.int 1, .int eb]) (rest := []) ⟨hx, hb, hml, hown, hg⟩ (c_X_isError l D x sw sr br bq bi ne li sp q lb 1 eb (by omega)) (cwV 2 hg (gV gw_362 gw_364 gs_6 gw_1 gw_365) rfl rfl rfl (by decide +kernel) ⟨Nat.le_of_ble_eq_true rfl, Nat.le_of_ble_eq_true rfl⟩) ⟨fun a U g mk q => by obtain ⟨q0, qP, qK⟩ := q; exact ⟨q0, qP, va_K.moved (u := U) (U := U.calling g mk a) (Vm.Alike.refl U.vm) qK⟩, va_recv hKc hPc (ci := 4) (q0 := 0) rfl rfl, fun U hU hW => ⟨rfl, by rw [hU]; exact hPc, va_K.moved hW.alike hKc⟩⟩ rfl rfl hl.1 rfl (lv_room (Nat.le_of_ble_eq_true rfl)) d_X_readInterrupt_71 (⟨Nat.le_of_ble_eq_true rfl, Nat.le_of_ble_eq_true rfl⟩)) ?_
      refine tpi (y := 0) (if_neg hbad) ?_
      refine lv_if_ne (tgt := 80) hx hb d_X_readInterrupt_74 (by decide) (fun c_3 => ?_) (fun c_3 => ?_)
      · skip
        exact absurd rfl c_3
      · skip
        refine lv_ldc (v := 2147483647) hx hb hown (hg _ gw_477) d_X_readInterrupt_77 ?_
        exact W.iret (v := 2147483647) hx hb hr (fun t ht hW => ⟨rfl, by rw [ht]; exact hP, (hAe ▸ hS).F ht⟩) (hAe ▸ hS).2.2 d_X_readInterrupt_79
    · skip
      exact absurd (nI_pos' (by omega)) c_2
  · skip
    exact absurd c_1 (by decide)
set_option maxHeartbeats 4000000 in
set_option maxRecDepth 100000 in
theorem c_X_readInterrupt1P (l : Launch) (D : va_G) (x sw sr br bq bi ne li sp q : Nat) (lb : Int32) (e0 e1 pl rw : Nat) (fs sm ct ng : Nat) (qa : Nat) (cB : ClassId) (fi h : Nat) (g : Nat → Int32) (tw K z : Nat) (hf : fi < 1000) (hh : h ≤ 1000) (hc0 : ct ≤ 64) (hn0 : ng ≤ 64) (hs0 : sm < 2 ^ 29) (hKb : K ≤ 29) (hK1 : sm + ct / 2 ≤ ct * 2 ^ K) (hK2 : ∀ j, j < K → ct * 2 ^ j < sm + ct / 2) (hsp : sp ≤ 65536) (hq : q ≤ 29) (hli : q + 18 ≤ li) (hlb : li ≤ 200) (hrw : rw ≤ 15) (hz1 : z ≤ (li - 1 - rw - q - 1) + 1) (hz2 : z ≤ h) (hz3 : ∀ j, j < z → qb g fi h j = 0) (hz4 : z = (li - 1 - rw - q - 1) + 1 ∨ z = h ∨ qb g fi h z ≠ 0) (hzm : z ≤ (li - 1 - rw - q - 1)) (hw : z + 1 + tln q K (li - 1 - rw - q - 1) z ≤ h) (hzk : z * 2 ^ K < 2 ^ 31) (N : Nat) (hN : rnum (qb g fi h) q K (li - 1 - rw - q - 1) z = nI N) (hNb : N < 2 ^ 29) (hs2 : ((N + 1) % 2 = 1 ↔ (K = 0 ∧ 2 * ng < ct)) ∨ ((N + 1 + 1) / 2) = 0) (hn : ((N + 1 + 1) / 2) ≤ sp / 2) (hn1 : 0 < ((N + 1 + 1) / 2)) : Met l y_X_readInterrupt (WSY y_X_readInterrupt b_X_readInterrupt 6 (some .int)) ({ frames := 5, cells := 0, slots := 0, locals := 117 }) (va_Pc [.ref x, .int 1] (fun U => va_P D CLS [(x, .inr (4, [.int (nI bi), .int (nI ne), .int (nI li), .int (nI sp), .int (nI q), .ref sw, .ref sr, .ref br, .ref bq, .int lb])), (sr, .inr (3, [.ref e0, .ref e1, .int (nI pl), .int (nI rw)])), (e1, .inr (2, [.int 1, .int (nI fs), .int (nI sm), .int (nI ct), .int (nI ng)])), (bq, .inr (0, [.ref qa, .int (nI fi), .int (nI h)])), (qa, .inl (cB, 1000, .inl g))] U.heap ∧ va_K D CLS [(cB, .byte)] U ∧ va_D (fun _ => True) [(x, .inr (4, [.int (nI bi), .int (nI ne), .int (nI li), .int (nI sp), .int (nI q), .ref sw, .ref sr, .ref br, .ref bq, .int lb])), (sr, .inr (3, [.ref e0, .ref e1, .int (nI pl), .int (nI rw)])), (e1, .inr (2, [.int 1, .int (nI fs), .int (nI sm), .int (nI ct), .int (nI ng)])), (bq, .inr (0, [.ref qa, .int (nI fi), .int (nI h)])), (qa, .inl (cB, 1000, .inl g))] ∧ EV (ad [(x, .inr (4, [.int (nI bi), .int (nI ne), .int (nI li), .int (nI sp), .int (nI q), .ref sw, .ref sr, .ref br, .ref bq, .int lb])), (sr, .inr (3, [.ref e0, .ref e1, .int (nI pl), .int (nI rw)])), (e1, .inr (2, [.int 1, .int (nI fs), .int (nI sm), .int (nI ct), .int (nI ng)])), (bq, .inr (0, [.ref qa, .int (nI fi), .int (nI h)])), (qa, .inl (cB, 1000, .inl g))]) tw U)) (QM (some (.int (nI ((N + 1 + 1) / 2)))) [(x, .inr (4, [.int (nI bi), .int (nI ne), .int (nI li), .int (nI sp), .int (nI q), .ref sw, .ref sr, .ref br, .ref bq, .int lb])), (sr, .inr (3, [.ref e0, .ref e1, .int (nI pl), .int (nI rw)])), (e1, .inr (2, [.int 1, .int (nI fs), .int (nI sm), .int (nI ct), .int (nI ng)])), (bq, .inr (0, [.ref qa, .int (nI fi), .int (nI h)])), (qa, .inl (cB, 1000, .inl g))] [(x, .inr (4, [.int (nI bi), .int (nI ne), .int (nI li), .int (nI sp), .int (nI q), .ref sw, .ref sr, .ref br, .ref bq, .int lb])), (sr, .inr (3, [.ref e0, .ref e1, .int (nI pl), .int (nI rw)])), (e1, .inr (2, [.int 1, .int (nI fs), .int (nI (hvd ct (sm + (N + 1 - 1) / 2))), .int (nI (hvd ct ct + 1)), .int (nI (hvd ct ng))])), (bq, .inr (0, [.ref qa, .int (nI (rpl fi (z + 1 + tln q K (li - 1 - rw - q - 1) z))), .int (nI (h - (z + 1 + tln q K (li - 1 - rw - q - 1) z)))])), (qa, .inl (cB, 1000, .inl g))] D) 0 0 (ad [(x, .inr (4, [.int (nI bi), .int (nI ne), .int (nI li), .int (nI sp), .int (nI q), .ref sw, .ref sr, .ref br, .ref bq, .int lb])), (sr, .inr (3, [.ref e0, .ref e1, .int (nI pl), .int (nI rw)])), (e1, .inr (2, [.int 1, .int (nI fs), .int (nI sm), .int (nI ct), .int (nI ng)])), (bq, .inr (0, [.ref qa, .int (nI fi), .int (nI h)])), (qa, .inl (cB, 1000, .inl g))]) := by
  refine Met.ofW (cc := b_X_readInterrupt) (maxL := 6) (ret := (some .int)) (by decide) rfl ?_
  intro p e s m args below meth c s₁ B hml hv
  obtain ⟨rfl, hP, hK, hD0, hE⟩ := hv
  have hx := B.exec
  have hb := B.bytes
  have hr := B.returns
  have hts := atoms_spec (ws := WSY y_X_readInterrupt b_X_readInterrupt 6 (some .int)) B.pre
  have hg : ∀ w ∈ GW, w.before _ s = true := fun w h => hts w (List.mem_cons_of_mem _ h)
  have hown : s.vm.findClass "LineGolomb" = some m.cls := findClass_of_methodNamed B.named
  have hlocks := B.notSynchronized
  obtain ⟨A, hAe⟩ : ∃ A, A = ad [(x, .inr (4, [.int (nI bi), .int (nI ne), .int (nI li), .int (nI sp), .int (nI q), .ref sw, .ref sr, .ref br, .ref bq, .int lb])), (sr, .inr (3, [.ref e0, .ref e1, .int (nI pl), .int (nI rw)])), (e1, .inr (2, [.int 1, .int (nI fs), .int (nI sm), .int (nI ct), .int (nI ng)])), (bq, .inr (0, [.ref qa, .int (nI fi), .int (nI h)])), (qa, .inl (cB, 1000, .inl g))] := ⟨_, rfl⟩
  have hD : va_D A [(x, .inr (4, [.int (nI bi), .int (nI ne), .int (nI li), .int (nI sp), .int (nI q), .ref sw, .ref sr, .ref br, .ref bq, .int lb])), (sr, .inr (3, [.ref e0, .ref e1, .int (nI pl), .int (nI rw)])), (e1, .inr (2, [.int 1, .int (nI fs), .int (nI sm), .int (nI ct), .int (nI ng)])), (bq, .inr (0, [.ref qa, .int (nI fi), .int (nI h)])), (qa, .inl (cB, 1000, .inl g))] := by rw [hAe]; exact va_D_ad hD0
  have hS : va_S A s.heap s.heap [] := va_S.rf
  rw [← hAe] at hE
  have hl := lv_entry ([.ref x, .int 1]) (n := 6) (Nat.le_of_ble_eq_true rfl)
  rw [lg_entry_eq]
  generalize (lg_sl ([.ref x, .int 1]) ++ List.replicate (6 - (lg_sl ([.ref x, .int 1])).length) Slot.unset).toArray = ls at hl ⊢
  have hl : lv_has ls 6 [(0, .ref x), (1, .int 1)] := hl
  refine lv_iload_n hx hb d_X_readInterrupt_0 rfl (lv_at hl 1 rfl) ?_
  have hPc := hP.sub (ws' := []) [] rfl
  have hKc := hK.sub (tys' := []) [] rfl
  refine pci (va_runS (As := [.int 1]) (rest := []) ⟨hx, hb, hml, hown, hg⟩ (c_X_isKind l D 1) (va_cwS 1 hg (gS gw_343 gw_344 gw_1 gw_345) rfl rfl rfl (by decide +kernel) ⟨Nat.le_of_ble_eq_true rfl, Nat.le_of_ble_eq_true rfl⟩) ⟨fun a U g mk q => by obtain ⟨q0, qP, qK⟩ := q; exact ⟨q0, qP, va_K.moved (u := U) (U := U.calling g mk a) (Vm.Alike.refl U.vm) qK⟩, fun U hU hW => ⟨rfl, by rw [hU]; exact hPc, va_K.moved hW.alike hKc⟩⟩ rfl rfl hl.1 rfl (lv_room (Nat.le_of_ble_eq_true rfl)) d_X_readInterrupt_1 (⟨Nat.le_of_ble_eq_true rfl, Nat.le_of_ble_eq_true rfl⟩)) ?_
  refine tpi (y := 1) (by decide) ?_
  refine lv_if_ne (tgt := 17) hx hb d_X_readInterrupt_4 (by decide) (fun c_1 => ?_) (fun c_1 => ?_)
  · skip
    refine lv_aload_n hx hb d_X_readInterrupt_17 rfl (lv_at hl 0 rfl) ?_
    refine va_get (D := D) (ci := 4) (v := .ref sr) (C := R_X) (T := T_X) (N := 10) hx hb hg in_X hown hK hP 0 rfl rfl 6 (by decide) (hg _ gw_122) (fun _ h9 => h9) rfl d_X_readInterrupt_18 ?_
    refine lv_iload_n hx hb d_X_readInterrupt_21 rfl (lv_at hl 1 rfl) ?_
    have hPc := hP.sub (ws' := [(sr, .inr (3, [.ref e0, .ref e1, .int (nI pl), .int (nI rw)]))]) [1] rfl
    have hKc := hK.sub (tys' := []) [] rfl
    refine pcr (va_runV (As := [.int 1]) (rest := []) ⟨hx, hb, hml, hown, hg⟩ (c_S_endsOf1 l D sr e0 e1 pl rw) (cwV 1 hg (gV gw_367 gw_368 gw_369 gw_5 gw_370) rfl rfl rfl (by decide +kernel) ⟨Nat.le_of_ble_eq_true rfl, Nat.le_of_ble_eq_true rfl⟩) ⟨fun a U g mk q => by obtain ⟨q0, qP, qK⟩ := q; exact ⟨q0, qP, va_K.moved (u := U) (U := U.calling g mk a) (Vm.Alike.refl U.vm) qK⟩, va_recv hKc hPc (ci := 3) (q0 := 0) rfl rfl, fun U hU hW => ⟨rfl, by rw [hU]; exact hPc, va_K.moved hW.alike hKc⟩⟩ rfl rfl hl.1 rfl (lv_room (Nat.le_of_ble_eq_true rfl)) d_X_readInterrupt_22 (⟨Nat.le_of_ble_eq_true rfl, Nat.le_of_ble_eq_true rfl⟩)) ?_
    refine lv_astore_n (lv' := [(2, .ref e1), (0, .ref x), (1, .int 1)]) hx hb d_X_readInterrupt_25 rfl hl (by decide) rfl (fun ls hl => ?_)
    refine lv_aload_n hx hb d_X_readInterrupt_26 rfl (lv_at hl 0 rfl) ?_
    have hPc := hP.sub (ws' := [(e1, .inr (2, [.int 1, .int (nI fs), .int (nI sm), .int (nI ct), .int (nI ng)]))]) [2] rfl
    have hKc := hK.sub (tys' := []) [] rfl
    refine pci (va_runV (As := []) (rest := []) ⟨hx, hb, hml, hown, hg⟩ (c_E_shift1 l D e1 fs sm ct ng K hc0 (by omega) hKb hK1 hK2) (cwV 0 hg (gV gw_371 gw_372 gw_373 gw_6 gw_374) rfl rfl rfl (by decide +kernel) ⟨Nat.le_of_ble_eq_true rfl, Nat.le_of_ble_eq_true rfl⟩) ⟨fun a U g mk q => by obtain ⟨q0, qP, qK⟩ := q; exact ⟨q0, qP, va_K.moved (u := U) (U := U.calling g mk a) (Vm.Alike.refl U.vm) qK⟩, va_recv hKc hPc (ci := 2) (q0 := 0) rfl rfl, fun U hU hW => ⟨rfl, by rw [hU]; exact hPc, va_K.moved hW.alike hKc⟩⟩ rfl rfl hl.1 rfl (lv_room (Nat.le_of_ble_eq_true rfl)) d_X_readInterrupt_27 (⟨Nat.le_of_ble_eq_true rfl, Nat.le_of_ble_eq_true rfl⟩)) ?_
    refine lv_istore_n (lv' := [(3, .int (nI K)), (2, .ref e1), (0, .ref x), (1, .int 1)]) hx hb d_X_readInterrupt_30 rfl hl (by decide) rfl (fun ls hl => ?_)
    refine lv_aload_n hx hb d_X_readInterrupt_31 rfl (lv_at hl 2 rfl) ?_
    refine lv_iload_n hx hb d_X_readInterrupt_32 rfl (lv_at hl 0 rfl) ?_
    refine lv_aload_n hx hb d_X_readInterrupt_33 rfl (lv_at hl 2 rfl) ?_
    refine lv_aload_n hx hb d_X_readInterrupt_34 rfl (lv_at hl 2 rfl) ?_
    refine lv_aload_n hx hb d_X_readInterrupt_35 rfl (lv_at hl 2 rfl) ?_
    refine va_get (D := D) (ci := 4) (v := .ref sr) (C := R_X) (T := T_X) (N := 10) hx hb hg in_X hown hK hP 0 rfl rfl 6 (by decide) (hg _ gw_122) (fun _ h9 => h9) rfl d_X_readInterrupt_36 ?_
    have hPc := hP.sub (ws' := [(x, .inr (4, [.int (nI bi), .int (nI ne), .int (nI li), .int (nI sp), .int (nI q), .ref sw, .ref sr, .ref br, .ref bq, .int lb])), (sr, .inr (3, [.ref e0, .ref e1, .int (nI pl), .int (nI rw)]))]) [0, 1] rfl
    have hKc := hK.sub (tys' := []) [] rfl
    refine pci (va_runV (As := [.ref sr]) (rest := [.ref x, .int (nI K), .ref x]) ⟨hx, hb, hml, hown, hg⟩ (c_X_endLimit l D x sw sr br bq bi ne li sp q lb sr e0 e1 pl rw tw (by omega)) (cwV 1 hg (gV gw_386 gw_388 gs_8 gw_1 gw_389) rfl rfl rfl (by decide +kernel) ⟨Nat.le_of_ble_eq_true rfl, Nat.le_of_ble_eq_true rfl⟩) ⟨fun a U g mk q => by obtain ⟨q0, qP, qK, qX⟩ := q; exact ⟨q0, qP, va_K.moved (u := U) (U := U.calling g mk a) (Vm.Alike.refl U.vm) qK, qX.blind⟩, va_recv hKc hPc (ci := 4) (q0 := 0) rfl rfl, fun U hU hW => ⟨rfl, by rw [hU]; exact hPc, va_K.moved hW.alike hKc, hE.call hS noF hU hW⟩⟩ rfl rfl hl.1 rfl (lv_room (Nat.le_of_ble_eq_true rfl)) d_X_readInterrupt_39 (⟨Nat.le_of_ble_eq_true rfl, Nat.le_of_ble_eq_true rfl⟩)) ?_
    have hPc := hP.sub (ws' := [(x, .inr (4, [.int (nI bi), .int (nI ne), .int (nI li), .int (nI sp), .int (nI q), .ref sw, .ref sr, .ref br, .ref bq, .int lb]))]) [0] rfl
    have hKc := hK.sub (tys' := []) [] rfl
    refine pci (va_runV (As := [.int (nI (li - 1 - rw))]) (rest := [.int (nI K), .ref x]) ⟨hx, hb, hml, hown, hg⟩ (c_X_mostZeros l D x sw sr br bq bi ne li sp q lb (li - 1 - rw) (by omega)) (cwV 1 hg (gV gw_269 gw_271 gs_3 gw_1 gw_272) rfl rfl rfl (by decide +kernel) ⟨Nat.le_of_ble_eq_true rfl, Nat.le_of_ble_eq_true rfl⟩) ⟨fun a U g mk q => by obtain ⟨q0, qP, qK⟩ := q; exact ⟨q0, qP, va_K.moved (u := U) (U := U.calling g mk a) (Vm.Alike.refl U.vm) qK⟩, va_recv hKc hPc (ci := 4) (q0 := 0) rfl rfl, fun U hU hW => ⟨rfl, by rw [hU]; exact hPc, va_K.moved hW.alike hKc⟩⟩ rfl rfl hl.1 rfl (lv_room (Nat.le_of_ble_eq_true rfl)) d_X_readInterrupt_42 (⟨Nat.le_of_ble_eq_true rfl, Nat.le_of_ble_eq_true rfl⟩)) ?_
    have hPc := hP.sub (ws' := [(x, .inr (4, [.int (nI bi), .int (nI ne), .int (nI li), .int (nI sp), .int (nI q), .ref sw, .ref sr, .ref br, .ref bq, .int lb])), (bq, .inr (0, [.ref qa, .int (nI fi), .int (nI h)])), (qa, .inl (cB, 1000, .inl g))]) [0, 3, 4] rfl
    have hDc := hD.sub (ws' := [(x, .inr (4, [.int (nI bi), .int (nI ne), .int (nI li), .int (nI sp), .int (nI q), .ref sw, .ref sr, .ref br, .ref bq, .int lb])), (bq, .inr (0, [.ref qa, .int (nI fi), .int (nI h)])), (qa, .inl (cB, 1000, .inl g))]) [0, 3, 4] (by decide) rfl
    have hKc := hK.sub (tys' := [(cB, .byte)]) [0] rfl
    refine mci (va_runV (As := [.int (nI K), .int (nI (li - 1 - rw - q - 1))]) (rest := []) ⟨hx, hb, hml, hown, hg⟩ (c_X_takeNumberG l D x sw sr br bq bi ne li sp q lb qa cB fi h g tw K (li - 1 - rw - q - 1) z hf hh (by omega) (by omega) (by omega) hz1 hz2 hz3 hz4 hzm hw hzk) (cwV 2 hg (gV gw_437 gw_439 gs_9 gw_1 gw_440) rfl rfl rfl (by decide +kernel) ⟨Nat.le_of_ble_eq_true rfl, Nat.le_of_ble_eq_true rfl⟩) ⟨fun a U g mk q => by obtain ⟨q0, qP, qK, qD, qX⟩ := q; exact ⟨q0, qP, va_K.moved (u := U) (U := U.calling g mk a) (Vm.Alike.refl U.vm) qK, qD, qX.blind⟩, va_recv hKc hPc (ci := 4) (q0 := 0) rfl rfl, fun U hU hW => ⟨rfl, by rw [hU]; exact hPc, va_K.moved hW.alike hKc, hDc.weaken (fun _ _ _ _ => trivial), hE.call hS (ad_sub hD [0, 3, 4] rfl) hU hW⟩⟩ rfl rfl hl.1 rfl (lv_room (Nat.le_of_ble_eq_true rfl)) d_X_readInterrupt_45 (⟨Nat.le_of_ble_eq_true rfl, Nat.le_of_ble_eq_true rfl⟩)) hS hP hD [0, 3, 4] rfl rfl rfl (fun H locs hP hD hS => ?_)
    have hP : va_P D CLS [(x, .inr (4, [.int (nI bi), .int (nI ne), .int (nI li), .int (nI sp), .int (nI q), .ref sw, .ref sr, .ref br, .ref bq, .int lb])), (sr, .inr (3, [.ref e0, .ref e1, .int (nI pl), .int (nI rw)])), (e1, .inr (2, [.int 1, .int (nI fs), .int (nI sm), .int (nI ct), .int (nI ng)])), (bq, .inr (0, [.ref qa, .int (nI (rpl fi (z + 1 + tln q K (li - 1 - rw - q - 1) z))), .int (nI (h - (z + 1 + tln q K (li - 1 - rw - q - 1) z)))])), (qa, .inl (cB, 1000, .inl g))] H := hP
    have hD : va_D A [(x, .inr (4, [.int (nI bi), .int (nI ne), .int (nI li), .int (nI sp), .int (nI q), .ref sw, .ref sr, .ref br, .ref bq, .int lb])), (sr, .inr (3, [.ref e0, .ref e1, .int (nI pl), .int (nI rw)])), (e1, .inr (2, [.int 1, .int (nI fs), .int (nI sm), .int (nI ct), .int (nI ng)])), (bq, .inr (0, [.ref qa, .int (nI (rpl fi (z + 1 + tln q K (li - 1 - rw - q - 1) z))), .int (nI (h - (z + 1 + tln q K (li - 1 - rw - q - 1) z)))])), (qa, .inl (cB, 1000, .inl g))] := hD
    refine tpi (y := nI N) (hN) ?_
    refine lv_istore (lv' := [(4, .int (nI N)), (3, .int (nI K)), (2, .ref e1), (0, .ref x), (1, .int 1)]) hx hb d_X_readInterrupt_48 hl (by decide) rfl (fun ls hl => ?_)
    refine lv_iload hx hb d_X_readInterrupt_50 (lv_at hl 0 rfl) ?_
    refine lv_if_ge (tgt := 58) hx hb d_X_readInterrupt_52 (by decide) (fun c_2 => ?_) (fun c_2 => ?_)
    · skip
      refine lv_aload_n hx hb d_X_readInterrupt_58 rfl (lv_at hl 2 rfl) ?_
      refine lv_iload hx hb d_X_readInterrupt_59 (lv_at hl 0 rfl) ?_
      refine lv_iload_n hx hb d_X_readInterrupt_61 rfl (lv_at hl 1 rfl) ?_
      have hPc := hP.sub (ws' := [(e1, .inr (2, [.int 1, .int (nI fs), .int (nI sm), .int (nI ct), .int (nI ng)]))]) [2] rfl
      have hKc := hK.sub (tys' := []) [] rfl
      refine pci (va_runV (As := [.int (nI N), .int (nI K)]) (rest := []) ⟨hx, hb, hml, hown, hg⟩ (c_E_errorOf1 l D e1 fs sm ct ng N K hc0 hn0 hKb (by omega)) (cwV 2 hg (gV gw_478 gw_479 gw_480 gw_6 gw_481) rfl rfl rfl (by decide +kernel) ⟨Nat.le_of_ble_eq_true rfl, Nat.le_of_ble_eq_true rfl⟩) ⟨fun a U g mk q => by obtain ⟨q0, qP, qK⟩ := q; exact ⟨q0, qP, va_K.moved (u := U) (U := U.calling g mk a) (Vm.Alike.refl U.vm) qK⟩, va_recv hKc hPc (ci := 2) (q0 := 0) rfl rfl, fun U hU hW => ⟨rfl, by rw [hU]; exact hPc, va_K.moved hW.alike hKc⟩⟩ rfl rfl hl.1 rfl (lv_room (Nat.le_of_ble_eq_true rfl)) d_X_readInterrupt_62 (⟨Nat.le_of_ble_eq_true rfl, Nat.le_of_ble_eq_true rfl⟩)) ?_
      refine tpi (y := nI ((N + 1 + 1) / 2)) (hs2.elim (fun q9 => if_pos q9) (fun q9 => by rw [q9]; split <;> rfl)) ?_
      refine lv_istore (lv' := [(5, .int (nI ((N + 1 + 1) / 2))), (4, .int (nI N)), (3, .int (nI K)), (2, .ref e1), (0, .ref x), (1, .int 1)]) hx hb d_X_readInterrupt_65 hl (by decide) rfl (fun ls hl => ?_)
      refine lv_aload_n hx hb d_X_readInterrupt_67 rfl (lv_at hl 4 rfl) ?_
      refine lv_iload_n hx hb d_X_readInterrupt_68 rfl (lv_at hl 5 rfl) ?_
      refine lv_iload hx hb d_X_readInterrupt_69 (lv_at hl 0 rfl) ?_
      have hPc := hP.sub (ws' := [(x, .inr (4, [.int (nI bi), .int (nI ne), .int (nI li), .int (nI sp), .int (nI q), .ref sw, .ref sr, .ref br, .ref bq, .int lb]))]) [0] rfl
      have hKc := hK.sub (tys' := []) [] rfl
      refine pci (va_runV (As := [.int 1, .int (nI ((N + 1 + 1) / 2))]) (rest := []) ⟨hx, hb, hml, hown, hg⟩ (c_X_isError l D x sw sr br bq bi ne li sp q lb 1 (nI ((N + 1 + 1) / 2)) (by omega)) (cwV 2 hg (gV gw_362 gw_364 gs_6 gw_1 gw_365) rfl rfl rfl (by decide +kernel) ⟨Nat.le_of_ble_eq_true rfl, Nat.le_of_ble_eq_true rfl⟩) ⟨fun a U g mk q => by obtain ⟨q0, qP, qK⟩ := q; exact ⟨q0, qP, va_K.moved (u := U) (U := U.calling g mk a) (Vm.Alike.refl U.vm) qK⟩, va_recv hKc hPc (ci := 4) (q0 := 0) rfl rfl, fun U hU hW => ⟨rfl, by rw [hU]; exact hPc, va_K.moved hW.alike hKc⟩⟩ rfl rfl hl.1 rfl (lv_room (Nat.le_of_ble_eq_true rfl)) d_X_readInterrupt_71 (⟨Nat.le_of_ble_eq_true rfl, Nat.le_of_ble_eq_true rfl⟩)) ?_
      refine tpi (y := 1) (if_pos ⟨by rw [nI_toInt (by omega)]; omega, by rw [nI_toInt (by omega)]; omega, Or.inl (nI_ne0 hn1 (by omega))⟩) ?_
      refine lv_if_ne (tgt := 80) hx hb d_X_readInterrupt_74 (by decide) (fun c_3 => ?_) (fun c_3 => ?_)
      · skip
        refine lv_aload_n hx hb d_X_readInterrupt_80 rfl (lv_at hl 3 rfl) ?_
        refine lv_iload hx hb d_X_readInterrupt_81 (lv_at hl 0 rfl) ?_
        refine lv_iload hx hb d_X_readInterrupt_83 (lv_at hl 1 rfl) ?_
        have hPc := hP.sub (ws' := [(e1, .inr (2, [.int 1, .int (nI fs), .int (nI sm), .int (nI ct), .int (nI ng)]))]) [2] rfl
        have hDc := hD.sub (ws' := [(e1, .inr (2, [.int 1, .int (nI fs), .int (nI sm), .int (nI ct), .int (nI ng)]))]) [2] (by decide) rfl
        have hKc := hK.sub (tys' := []) [] rfl
        refine mcv (va_runV (As := [.int (nI ((N + 1 + 1) / 2)), .int (nI N)]) (rest := []) ⟨hx, hb, hml, hown, hg⟩ (c_E_learn1P l D e1 fs sm ct ng ((N + 1 + 1) / 2) N hc0 hn0 hs0 (by omega) (by omega)) (cwV 2 hg (gV gw_390 gw_391 gw_392 gw_6 gw_393) rfl rfl rfl (by decide +kernel) ⟨Nat.le_of_ble_eq_true rfl, Nat.le_of_ble_eq_true rfl⟩) ⟨fun a U g mk q => by obtain ⟨q0, qP, qK, qD⟩ := q; exact ⟨q0, qP, va_K.moved (u := U) (U := U.calling g mk a) (Vm.Alike.refl U.vm) qK, qD⟩, va_recv hKc hPc (ci := 2) (q0 := 0) rfl rfl, fun U hU hW => ⟨rfl, by rw [hU]; exact hPc, va_K.moved hW.alike hKc, hDc.weaken (fun _ _ _ _ => trivial)⟩⟩ rfl rfl hl.1 rfl (lv_room (Nat.le_of_ble_eq_true rfl)) d_X_readInterrupt_85 (⟨Nat.le_of_ble_eq_true rfl, Nat.le_of_ble_eq_true rfl⟩)) hS hP hD [2] rfl rfl rfl (fun H locs hP hD hS => ?_)
        have hP : va_P D CLS [(x, .inr (4, [.int (nI bi), .int (nI ne), .int (nI li), .int (nI sp), .int (nI q), .ref sw, .ref sr, .ref br, .ref bq, .int lb])), (sr, .inr (3, [.ref e0, .ref e1, .int (nI pl), .int (nI rw)])), (e1, .inr (2, [.int 1, .int (nI fs), .int (nI (hvd ct (sm + (N + 1 - 1) / 2))), .int (nI (hvd ct ct + 1)), .int (nI (hvd ct ng))])), (bq, .inr (0, [.ref qa, .int (nI (rpl fi (z + 1 + tln q K (li - 1 - rw - q - 1) z))), .int (nI (h - (z + 1 + tln q K (li - 1 - rw - q - 1) z)))])), (qa, .inl (cB, 1000, .inl g))] H := hP
        have hD : va_D A [(x, .inr (4, [.int (nI bi), .int (nI ne), .int (nI li), .int (nI sp), .int (nI q), .ref sw, .ref sr, .ref br, .ref bq, .int lb])), (sr, .inr (3, [.ref e0, .ref e1, .int (nI pl), .int (nI rw)])), (e1, .inr (2, [.int 1, .int (nI fs), .int (nI (hvd ct (sm + (N + 1 - 1) / 2))), .int (nI (hvd ct ct + 1)), .int (nI (hvd ct ng))])), (bq, .inr (0, [.ref qa, .int (nI (rpl fi (z + 1 + tln q K (li - 1 - rw - q - 1) z))), .int (nI (h - (z + 1 + tln q K (li - 1 - rw - q - 1) z)))])), (qa, .inl (cB, 1000, .inl g))] := hD
        refine lv_iload hx hb d_X_readInterrupt_88 (lv_at hl 0 rfl) ?_
        exact W.iret (v := nI ((N + 1 + 1) / 2)) hx hb hr (fun t ht hW => ⟨rfl, by rw [ht]; exact hP, (hAe ▸ hS).F ht⟩) (hAe ▸ hS).2.2 d_X_readInterrupt_90
      · skip
        exact absurd c_3 (by decide)
    · skip
      exact absurd (nI_pos' (by omega)) c_2
  · skip
    exact absurd c_1 (by decide)
set_option maxHeartbeats 4000000 in
set_option maxRecDepth 100000 in
theorem c_X_readInterrupt1M (l : Launch) (D : va_G) (x sw sr br bq bi ne li sp q : Nat) (lb : Int32) (e0 e1 pl rw : Nat) (fs sm ct ng : Nat) (qa : Nat) (cB : ClassId) (fi h : Nat) (g : Nat → Int32) (tw K z : Nat) (hf : fi < 1000) (hh : h ≤ 1000) (hc0 : ct ≤ 64) (hn0 : ng ≤ 64) (hs0 : sm < 2 ^ 29) (hKb : K ≤ 29) (hK1 : sm + ct / 2 ≤ ct * 2 ^ K) (hK2 : ∀ j, j < K → ct * 2 ^ j < sm + ct / 2) (hsp : sp ≤ 65536) (hq : q ≤ 29) (hli : q + 18 ≤ li) (hlb : li ≤ 200) (hrw : rw ≤ 15) (hz1 : z ≤ (li - 1 - rw - q - 1) + 1) (hz2 : z ≤ h) (hz3 : ∀ j, j < z → qb g fi h j = 0) (hz4 : z = (li - 1 - rw - q - 1) + 1 ∨ z = h ∨ qb g fi h z ≠ 0) (hzm : z ≤ (li - 1 - rw - q - 1)) (hw : z + 1 + tln q K (li - 1 - rw - q - 1) z ≤ h) (hzk : z * 2 ^ K < 2 ^ 31) (N : Nat) (hN : rnum (qb g fi h) q K (li - 1 - rw - q - 1) z = nI N) (hNb : N < 2 ^ 29) (hs2 : ¬ ((N + 1) % 2 = 1 ↔ (K = 0 ∧ 2 * ng < ct))) (hn : ((N + 1 + 1) / 2) ≤ sp / 2) (hn1 : 0 < ((N + 1 + 1) / 2)) : Met l y_X_readInterrupt (WSY y_X_readInterrupt b_X_readInterrupt 6 (some .int)) ({ frames := 5, cells := 0, slots := 0, locals := 117 }) (va_Pc [.ref x, .int 1] (fun U => va_P D CLS [(x, .inr (4, [.int (nI bi), .int (nI ne), .int (nI li), .int (nI sp), .int (nI q), .ref sw, .ref sr, .ref br, .ref bq, .int lb])), (sr, .inr (3, [.ref e0, .ref e1, .int (nI pl), .int (nI rw)])), (e1, .inr (2, [.int 1, .int (nI fs), .int (nI sm), .int (nI ct), .int (nI ng)])), (bq, .inr (0, [.ref qa, .int (nI fi), .int (nI h)])), (qa, .inl (cB, 1000, .inl g))] U.heap ∧ va_K D CLS [(cB, .byte)] U ∧ va_D (fun _ => True) [(x, .inr (4, [.int (nI bi), .int (nI ne), .int (nI li), .int (nI sp), .int (nI q), .ref sw, .ref sr, .ref br, .ref bq, .int lb])), (sr, .inr (3, [.ref e0, .ref e1, .int (nI pl), .int (nI rw)])), (e1, .inr (2, [.int 1, .int (nI fs), .int (nI sm), .int (nI ct), .int (nI ng)])), (bq, .inr (0, [.ref qa, .int (nI fi), .int (nI h)])), (qa, .inl (cB, 1000, .inl g))] ∧ EV (ad [(x, .inr (4, [.int (nI bi), .int (nI ne), .int (nI li), .int (nI sp), .int (nI q), .ref sw, .ref sr, .ref br, .ref bq, .int lb])), (sr, .inr (3, [.ref e0, .ref e1, .int (nI pl), .int (nI rw)])), (e1, .inr (2, [.int 1, .int (nI fs), .int (nI sm), .int (nI ct), .int (nI ng)])), (bq, .inr (0, [.ref qa, .int (nI fi), .int (nI h)])), (qa, .inl (cB, 1000, .inl g))]) tw U)) (QM (some (.int (-nI ((N + 1 + 1) / 2)))) [(x, .inr (4, [.int (nI bi), .int (nI ne), .int (nI li), .int (nI sp), .int (nI q), .ref sw, .ref sr, .ref br, .ref bq, .int lb])), (sr, .inr (3, [.ref e0, .ref e1, .int (nI pl), .int (nI rw)])), (e1, .inr (2, [.int 1, .int (nI fs), .int (nI sm), .int (nI ct), .int (nI ng)])), (bq, .inr (0, [.ref qa, .int (nI fi), .int (nI h)])), (qa, .inl (cB, 1000, .inl g))] [(x, .inr (4, [.int (nI bi), .int (nI ne), .int (nI li), .int (nI sp), .int (nI q), .ref sw, .ref sr, .ref br, .ref bq, .int lb])), (sr, .inr (3, [.ref e0, .ref e1, .int (nI pl), .int (nI rw)])), (e1, .inr (2, [.int 1, .int (nI fs), .int (nI (hvd ct (sm + (N + 1 - 1) / 2))), .int (nI (hvd ct ct + 1)), .int (nI (hvd ct (ng + 1)))])), (bq, .inr (0, [.ref qa, .int (nI (rpl fi (z + 1 + tln q K (li - 1 - rw - q - 1) z))), .int (nI (h - (z + 1 + tln q K (li - 1 - rw - q - 1) z)))])), (qa, .inl (cB, 1000, .inl g))] D) 0 0 (ad [(x, .inr (4, [.int (nI bi), .int (nI ne), .int (nI li), .int (nI sp), .int (nI q), .ref sw, .ref sr, .ref br, .ref bq, .int lb])), (sr, .inr (3, [.ref e0, .ref e1, .int (nI pl), .int (nI rw)])), (e1, .inr (2, [.int 1, .int (nI fs), .int (nI sm), .int (nI ct), .int (nI ng)])), (bq, .inr (0, [.ref qa, .int (nI fi), .int (nI h)])), (qa, .inl (cB, 1000, .inl g))]) := by
  refine Met.ofW (cc := b_X_readInterrupt) (maxL := 6) (ret := (some .int)) (by decide) rfl ?_
  intro p e s m args below meth c s₁ B hml hv
  obtain ⟨rfl, hP, hK, hD0, hE⟩ := hv
  have hx := B.exec
  have hb := B.bytes
  have hr := B.returns
  have hts := atoms_spec (ws := WSY y_X_readInterrupt b_X_readInterrupt 6 (some .int)) B.pre
  have hg : ∀ w ∈ GW, w.before _ s = true := fun w h => hts w (List.mem_cons_of_mem _ h)
  have hown : s.vm.findClass "LineGolomb" = some m.cls := findClass_of_methodNamed B.named
  have hlocks := B.notSynchronized
  obtain ⟨A, hAe⟩ : ∃ A, A = ad [(x, .inr (4, [.int (nI bi), .int (nI ne), .int (nI li), .int (nI sp), .int (nI q), .ref sw, .ref sr, .ref br, .ref bq, .int lb])), (sr, .inr (3, [.ref e0, .ref e1, .int (nI pl), .int (nI rw)])), (e1, .inr (2, [.int 1, .int (nI fs), .int (nI sm), .int (nI ct), .int (nI ng)])), (bq, .inr (0, [.ref qa, .int (nI fi), .int (nI h)])), (qa, .inl (cB, 1000, .inl g))] := ⟨_, rfl⟩
  have hD : va_D A [(x, .inr (4, [.int (nI bi), .int (nI ne), .int (nI li), .int (nI sp), .int (nI q), .ref sw, .ref sr, .ref br, .ref bq, .int lb])), (sr, .inr (3, [.ref e0, .ref e1, .int (nI pl), .int (nI rw)])), (e1, .inr (2, [.int 1, .int (nI fs), .int (nI sm), .int (nI ct), .int (nI ng)])), (bq, .inr (0, [.ref qa, .int (nI fi), .int (nI h)])), (qa, .inl (cB, 1000, .inl g))] := by rw [hAe]; exact va_D_ad hD0
  have hS : va_S A s.heap s.heap [] := va_S.rf
  rw [← hAe] at hE
  have hl := lv_entry ([.ref x, .int 1]) (n := 6) (Nat.le_of_ble_eq_true rfl)
  rw [lg_entry_eq]
  generalize (lg_sl ([.ref x, .int 1]) ++ List.replicate (6 - (lg_sl ([.ref x, .int 1])).length) Slot.unset).toArray = ls at hl ⊢
  have hl : lv_has ls 6 [(0, .ref x), (1, .int 1)] := hl
  refine lv_iload_n hx hb d_X_readInterrupt_0 rfl (lv_at hl 1 rfl) ?_
  have hPc := hP.sub (ws' := []) [] rfl
  have hKc := hK.sub (tys' := []) [] rfl
  refine pci (va_runS (As := [.int 1]) (rest := []) ⟨hx, hb, hml, hown, hg⟩ (c_X_isKind l D 1) (va_cwS 1 hg (gS gw_343 gw_344 gw_1 gw_345) rfl rfl rfl (by decide +kernel) ⟨Nat.le_of_ble_eq_true rfl, Nat.le_of_ble_eq_true rfl⟩) ⟨fun a U g mk q => by obtain ⟨q0, qP, qK⟩ := q; exact ⟨q0, qP, va_K.moved (u := U) (U := U.calling g mk a) (Vm.Alike.refl U.vm) qK⟩, fun U hU hW => ⟨rfl, by rw [hU]; exact hPc, va_K.moved hW.alike hKc⟩⟩ rfl rfl hl.1 rfl (lv_room (Nat.le_of_ble_eq_true rfl)) d_X_readInterrupt_1 (⟨Nat.le_of_ble_eq_true rfl, Nat.le_of_ble_eq_true rfl⟩)) ?_
  refine tpi (y := 1) (by decide) ?_
  refine lv_if_ne (tgt := 17) hx hb d_X_readInterrupt_4 (by decide) (fun c_1 => ?_) (fun c_1 => ?_)
  · skip
    refine lv_aload_n hx hb d_X_readInterrupt_17 rfl (lv_at hl 0 rfl) ?_
    refine va_get (D := D) (ci := 4) (v := .ref sr) (C := R_X) (T := T_X) (N := 10) hx hb hg in_X hown hK hP 0 rfl rfl 6 (by decide) (hg _ gw_122) (fun _ h9 => h9) rfl d_X_readInterrupt_18 ?_
    refine lv_iload_n hx hb d_X_readInterrupt_21 rfl (lv_at hl 1 rfl) ?_
    have hPc := hP.sub (ws' := [(sr, .inr (3, [.ref e0, .ref e1, .int (nI pl), .int (nI rw)]))]) [1] rfl
    have hKc := hK.sub (tys' := []) [] rfl
    refine pcr (va_runV (As := [.int 1]) (rest := []) ⟨hx, hb, hml, hown, hg⟩ (c_S_endsOf1 l D sr e0 e1 pl rw) (cwV 1 hg (gV gw_367 gw_368 gw_369 gw_5 gw_370) rfl rfl rfl (by decide +kernel) ⟨Nat.le_of_ble_eq_true rfl, Nat.le_of_ble_eq_true rfl⟩) ⟨fun a U g mk q => by obtain ⟨q0, qP, qK⟩ := q; exact ⟨q0, qP, va_K.moved (u := U) (U := U.calling g mk a) (Vm.Alike.refl U.vm) qK⟩, va_recv hKc hPc (ci := 3) (q0 := 0) rfl rfl, fun U hU hW => ⟨rfl, by rw [hU]; exact hPc, va_K.moved hW.alike hKc⟩⟩ rfl rfl hl.1 rfl (lv_room (Nat.le_of_ble_eq_true rfl)) d_X_readInterrupt_22 (⟨Nat.le_of_ble_eq_true rfl, Nat.le_of_ble_eq_true rfl⟩)) ?_
    refine lv_astore_n (lv' := [(2, .ref e1), (0, .ref x), (1, .int 1)]) hx hb d_X_readInterrupt_25 rfl hl (by decide) rfl (fun ls hl => ?_)
    refine lv_aload_n hx hb d_X_readInterrupt_26 rfl (lv_at hl 0 rfl) ?_
    have hPc := hP.sub (ws' := [(e1, .inr (2, [.int 1, .int (nI fs), .int (nI sm), .int (nI ct), .int (nI ng)]))]) [2] rfl
    have hKc := hK.sub (tys' := []) [] rfl
    refine pci (va_runV (As := []) (rest := []) ⟨hx, hb, hml, hown, hg⟩ (c_E_shift1 l D e1 fs sm ct ng K hc0 (by omega) hKb hK1 hK2) (cwV 0 hg (gV gw_371 gw_372 gw_373 gw_6 gw_374) rfl rfl rfl (by decide +kernel) ⟨Nat.le_of_ble_eq_true rfl, Nat.le_of_ble_eq_true rfl⟩) ⟨fun a U g mk q => by obtain ⟨q0, qP, qK⟩ := q; exact ⟨q0, qP, va_K.moved (u := U) (U := U.calling g mk a) (Vm.Alike.refl U.vm) qK⟩, va_recv hKc hPc (ci := 2) (q0 := 0) rfl rfl, fun U hU hW => ⟨rfl, by rw [hU]; exact hPc, va_K.moved hW.alike hKc⟩⟩ rfl rfl hl.1 rfl (lv_room (Nat.le_of_ble_eq_true rfl)) d_X_readInterrupt_27 (⟨Nat.le_of_ble_eq_true rfl, Nat.le_of_ble_eq_true rfl⟩)) ?_
    refine lv_istore_n (lv' := [(3, .int (nI K)), (2, .ref e1), (0, .ref x), (1, .int 1)]) hx hb d_X_readInterrupt_30 rfl hl (by decide) rfl (fun ls hl => ?_)
    refine lv_aload_n hx hb d_X_readInterrupt_31 rfl (lv_at hl 2 rfl) ?_
    refine lv_iload_n hx hb d_X_readInterrupt_32 rfl (lv_at hl 0 rfl) ?_
    refine lv_aload_n hx hb d_X_readInterrupt_33 rfl (lv_at hl 2 rfl) ?_
    refine lv_aload_n hx hb d_X_readInterrupt_34 rfl (lv_at hl 2 rfl) ?_
    refine lv_aload_n hx hb d_X_readInterrupt_35 rfl (lv_at hl 2 rfl) ?_
    refine va_get (D := D) (ci := 4) (v := .ref sr) (C := R_X) (T := T_X) (N := 10) hx hb hg in_X hown hK hP 0 rfl rfl 6 (by decide) (hg _ gw_122) (fun _ h9 => h9) rfl d_X_readInterrupt_36 ?_
    have hPc := hP.sub (ws' := [(x, .inr (4, [.int (nI bi), .int (nI ne), .int (nI li), .int (nI sp), .int (nI q), .ref sw, .ref sr, .ref br, .ref bq, .int lb])), (sr, .inr (3, [.ref e0, .ref e1, .int (nI pl), .int (nI rw)]))]) [0, 1] rfl
    have hKc := hK.sub (tys' := []) [] rfl
    refine pci (va_runV (As := [.ref sr]) (rest := [.ref x, .int (nI K), .ref x]) ⟨hx, hb, hml, hown, hg⟩ (c_X_endLimit l D x sw sr br bq bi ne li sp q lb sr e0 e1 pl rw tw (by omega)) (cwV 1 hg (gV gw_386 gw_388 gs_8 gw_1 gw_389) rfl rfl rfl (by decide +kernel) ⟨Nat.le_of_ble_eq_true rfl, Nat.le_of_ble_eq_true rfl⟩) ⟨fun a U g mk q => by obtain ⟨q0, qP, qK, qX⟩ := q; exact ⟨q0, qP, va_K.moved (u := U) (U := U.calling g mk a) (Vm.Alike.refl U.vm) qK, qX.blind⟩, va_recv hKc hPc (ci := 4) (q0 := 0) rfl rfl, fun U hU hW => ⟨rfl, by rw [hU]; exact hPc, va_K.moved hW.alike hKc, hE.call hS noF hU hW⟩⟩ rfl rfl hl.1 rfl (lv_room (Nat.le_of_ble_eq_true rfl)) d_X_readInterrupt_39 (⟨Nat.le_of_ble_eq_true rfl, Nat.le_of_ble_eq_true rfl⟩)) ?_
    have hPc := hP.sub (ws' := [(x, .inr (4, [.int (nI bi), .int (nI ne), .int (nI li), .int (nI sp), .int (nI q), .ref sw, .ref sr, .ref br, .ref bq, .int lb]))]) [0] rfl
    have hKc := hK.sub (tys' := []) [] rfl
    refine pci (va_runV (As := [.int (nI (li - 1 - rw))]) (rest := [.int (nI K), .ref x]) ⟨hx, hb, hml, hown, hg⟩ (c_X_mostZeros l D x sw sr br bq bi ne li sp q lb (li - 1 - rw) (by omega)) (cwV 1 hg (gV gw_269 gw_271 gs_3 gw_1 gw_272) rfl rfl rfl (by decide +kernel) ⟨Nat.le_of_ble_eq_true rfl, Nat.le_of_ble_eq_true rfl⟩) ⟨fun a U g mk q => by obtain ⟨q0, qP, qK⟩ := q; exact ⟨q0, qP, va_K.moved (u := U) (U := U.calling g mk a) (Vm.Alike.refl U.vm) qK⟩, va_recv hKc hPc (ci := 4) (q0 := 0) rfl rfl, fun U hU hW => ⟨rfl, by rw [hU]; exact hPc, va_K.moved hW.alike hKc⟩⟩ rfl rfl hl.1 rfl (lv_room (Nat.le_of_ble_eq_true rfl)) d_X_readInterrupt_42 (⟨Nat.le_of_ble_eq_true rfl, Nat.le_of_ble_eq_true rfl⟩)) ?_
    have hPc := hP.sub (ws' := [(x, .inr (4, [.int (nI bi), .int (nI ne), .int (nI li), .int (nI sp), .int (nI q), .ref sw, .ref sr, .ref br, .ref bq, .int lb])), (bq, .inr (0, [.ref qa, .int (nI fi), .int (nI h)])), (qa, .inl (cB, 1000, .inl g))]) [0, 3, 4] rfl
    have hDc := hD.sub (ws' := [(x, .inr (4, [.int (nI bi), .int (nI ne), .int (nI li), .int (nI sp), .int (nI q), .ref sw, .ref sr, .ref br, .ref bq, .int lb])), (bq, .inr (0, [.ref qa, .int (nI fi), .int (nI h)])), (qa, .inl (cB, 1000, .inl g))]) [0, 3, 4] (by decide) rfl
    have hKc := hK.sub (tys' := [(cB, .byte)]) [0] rfl
    refine mci (va_runV (As := [.int (nI K), .int (nI (li - 1 - rw - q - 1))]) (rest := []) ⟨hx, hb, hml, hown, hg⟩ (c_X_takeNumberG l D x sw sr br bq bi ne li sp q lb qa cB fi h g tw K (li - 1 - rw - q - 1) z hf hh (by omega) (by omega) (by omega) hz1 hz2 hz3 hz4 hzm hw hzk) (cwV 2 hg (gV gw_437 gw_439 gs_9 gw_1 gw_440) rfl rfl rfl (by decide +kernel) ⟨Nat.le_of_ble_eq_true rfl, Nat.le_of_ble_eq_true rfl⟩) ⟨fun a U g mk q => by obtain ⟨q0, qP, qK, qD, qX⟩ := q; exact ⟨q0, qP, va_K.moved (u := U) (U := U.calling g mk a) (Vm.Alike.refl U.vm) qK, qD, qX.blind⟩, va_recv hKc hPc (ci := 4) (q0 := 0) rfl rfl, fun U hU hW => ⟨rfl, by rw [hU]; exact hPc, va_K.moved hW.alike hKc, hDc.weaken (fun _ _ _ _ => trivial), hE.call hS (ad_sub hD [0, 3, 4] rfl) hU hW⟩⟩ rfl rfl hl.1 rfl (lv_room (Nat.le_of_ble_eq_true rfl)) d_X_readInterrupt_45 (⟨Nat.le_of_ble_eq_true rfl, Nat.le_of_ble_eq_true rfl⟩)) hS hP hD [0, 3, 4] rfl rfl rfl (fun H locs hP hD hS => ?_)
    have hP : va_P D CLS [(x, .inr (4, [.int (nI bi), .int (nI ne), .int (nI li), .int (nI sp), .int (nI q), .ref sw, .ref sr, .ref br, .ref bq, .int lb])), (sr, .inr (3, [.ref e0, .ref e1, .int (nI pl), .int (nI rw)])), (e1, .inr (2, [.int 1, .int (nI fs), .int (nI sm), .int (nI ct), .int (nI ng)])), (bq, .inr (0, [.ref qa, .int (nI (rpl fi (z + 1 + tln q K (li - 1 - rw - q - 1) z))), .int (nI (h - (z + 1 + tln q K (li - 1 - rw - q - 1) z)))])), (qa, .inl (cB, 1000, .inl g))] H := hP
    have hD : va_D A [(x, .inr (4, [.int (nI bi), .int (nI ne), .int (nI li), .int (nI sp), .int (nI q), .ref sw, .ref sr, .ref br, .ref bq, .int lb])), (sr, .inr (3, [.ref e0, .ref e1, .int (nI pl), .int (nI rw)])), (e1, .inr (2, [.int 1, .int (nI fs), .int (nI sm), .int (nI ct), .int (nI ng)])), (bq, .inr (0, [.ref qa, .int (nI (rpl fi (z + 1 + tln q K (li - 1 - rw - q - 1) z))), .int (nI (h - (z + 1 + tln q K (li - 1 - rw - q - 1) z)))])), (qa, .inl (cB, 1000, .inl g))] := hD
    refine tpi (y := nI N) (hN) ?_
    refine lv_istore (lv' := [(4, .int (nI N)), (3, .int (nI K)), (2, .ref e1), (0, .ref x), (1, .int 1)]) hx hb d_X_readInterrupt_48 hl (by decide) rfl (fun ls hl => ?_)
    refine lv_iload hx hb d_X_readInterrupt_50 (lv_at hl 0 rfl) ?_
    refine lv_if_ge (tgt := 58) hx hb d_X_readInterrupt_52 (by decide) (fun c_2 => ?_) (fun c_2 => ?_)
    · skip
      refine lv_aload_n hx hb d_X_readInterrupt_58 rfl (lv_at hl 2 rfl) ?_
      refine lv_iload hx hb d_X_readInterrupt_59 (lv_at hl 0 rfl) ?_
      refine lv_iload_n hx hb d_X_readInterrupt_61 rfl (lv_at hl 1 rfl) ?_
      have hPc := hP.sub (ws' := [(e1, .inr (2, [.int 1, .int (nI fs), .int (nI sm), .int (nI ct), .int (nI ng)]))]) [2] rfl
      have hKc := hK.sub (tys' := []) [] rfl
      refine pci (va_runV (As := [.int (nI N), .int (nI K)]) (rest := []) ⟨hx, hb, hml, hown, hg⟩ (c_E_errorOf1 l D e1 fs sm ct ng N K hc0 hn0 hKb (by omega)) (cwV 2 hg (gV gw_478 gw_479 gw_480 gw_6 gw_481) rfl rfl rfl (by decide +kernel) ⟨Nat.le_of_ble_eq_true rfl, Nat.le_of_ble_eq_true rfl⟩) ⟨fun a U g mk q => by obtain ⟨q0, qP, qK⟩ := q; exact ⟨q0, qP, va_K.moved (u := U) (U := U.calling g mk a) (Vm.Alike.refl U.vm) qK⟩, va_recv hKc hPc (ci := 2) (q0 := 0) rfl rfl, fun U hU hW => ⟨rfl, by rw [hU]; exact hPc, va_K.moved hW.alike hKc⟩⟩ rfl rfl hl.1 rfl (lv_room (Nat.le_of_ble_eq_true rfl)) d_X_readInterrupt_62 (⟨Nat.le_of_ble_eq_true rfl, Nat.le_of_ble_eq_true rfl⟩)) ?_
      refine tpi (y := -nI ((N + 1 + 1) / 2)) (if_neg hs2) ?_
      refine lv_istore (lv' := [(5, .int (-nI ((N + 1 + 1) / 2))), (4, .int (nI N)), (3, .int (nI K)), (2, .ref e1), (0, .ref x), (1, .int 1)]) hx hb d_X_readInterrupt_65 hl (by decide) rfl (fun ls hl => ?_)
      refine lv_aload_n hx hb d_X_readInterrupt_67 rfl (lv_at hl 4 rfl) ?_
      refine lv_iload_n hx hb d_X_readInterrupt_68 rfl (lv_at hl 5 rfl) ?_
      refine lv_iload hx hb d_X_readInterrupt_69 (lv_at hl 0 rfl) ?_
      have hPc := hP.sub (ws' := [(x, .inr (4, [.int (nI bi), .int (nI ne), .int (nI li), .int (nI sp), .int (nI q), .ref sw, .ref sr, .ref br, .ref bq, .int lb]))]) [0] rfl
      have hKc := hK.sub (tys' := []) [] rfl
      refine pci (va_runV (As := [.int 1, .int (-nI ((N + 1 + 1) / 2))]) (rest := []) ⟨hx, hb, hml, hown, hg⟩ (c_X_isError l D x sw sr br bq bi ne li sp q lb 1 (-nI ((N + 1 + 1) / 2)) (by omega)) (cwV 2 hg (gV gw_362 gw_364 gs_6 gw_1 gw_365) rfl rfl rfl (by decide +kernel) ⟨Nat.le_of_ble_eq_true rfl, Nat.le_of_ble_eq_true rfl⟩) ⟨fun a U g mk q => by obtain ⟨q0, qP, qK⟩ := q; exact ⟨q0, qP, va_K.moved (u := U) (U := U.calling g mk a) (Vm.Alike.refl U.vm) qK⟩, va_recv hKc hPc (ci := 4) (q0 := 0) rfl rfl, fun U hU hW => ⟨rfl, by rw [hU]; exact hPc, va_K.moved hW.alike hKc⟩⟩ rfl rfl hl.1 rfl (lv_room (Nat.le_of_ble_eq_true rfl)) d_X_readInterrupt_71 (⟨Nat.le_of_ble_eq_true rfl, Nat.le_of_ble_eq_true rfl⟩)) ?_
      refine tpi (y := 1) (if_pos ⟨by rw [ngT (by omega)]; omega, by rw [ngT (by omega)]; omega, Or.inl (by rw [eqT, ngT (by omega), zT]; omega)⟩) ?_
      refine lv_if_ne (tgt := 80) hx hb d_X_readInterrupt_74 (by decide) (fun c_3 => ?_) (fun c_3 => ?_)
      · skip
        refine lv_aload_n hx hb d_X_readInterrupt_80 rfl (lv_at hl 3 rfl) ?_
        refine lv_iload hx hb d_X_readInterrupt_81 (lv_at hl 0 rfl) ?_
        refine lv_iload hx hb d_X_readInterrupt_83 (lv_at hl 1 rfl) ?_
        have hPc := hP.sub (ws' := [(e1, .inr (2, [.int 1, .int (nI fs), .int (nI sm), .int (nI ct), .int (nI ng)]))]) [2] rfl
        have hDc := hD.sub (ws' := [(e1, .inr (2, [.int 1, .int (nI fs), .int (nI sm), .int (nI ct), .int (nI ng)]))]) [2] (by decide) rfl
        have hKc := hK.sub (tys' := []) [] rfl
        refine mcv (va_runV (As := [.int (-nI ((N + 1 + 1) / 2)), .int (nI N)]) (rest := []) ⟨hx, hb, hml, hown, hg⟩ (c_E_learn1N l D e1 fs sm ct ng ((N + 1 + 1) / 2) N hc0 hn0 hs0 (by omega) (by omega) hn1) (cwV 2 hg (gV gw_390 gw_391 gw_392 gw_6 gw_393) rfl rfl rfl (by decide +kernel) ⟨Nat.le_of_ble_eq_true rfl, Nat.le_of_ble_eq_true rfl⟩) ⟨fun a U g mk q => by obtain ⟨q0, qP, qK, qD⟩ := q; exact ⟨q0, qP, va_K.moved (u := U) (U := U.calling g mk a) (Vm.Alike.refl U.vm) qK, qD⟩, va_recv hKc hPc (ci := 2) (q0 := 0) rfl rfl, fun U hU hW => ⟨rfl, by rw [hU]; exact hPc, va_K.moved hW.alike hKc, hDc.weaken (fun _ _ _ _ => trivial)⟩⟩ rfl rfl hl.1 rfl (lv_room (Nat.le_of_ble_eq_true rfl)) d_X_readInterrupt_85 (⟨Nat.le_of_ble_eq_true rfl, Nat.le_of_ble_eq_true rfl⟩)) hS hP hD [2] rfl rfl rfl (fun H locs hP hD hS => ?_)
        have hP : va_P D CLS [(x, .inr (4, [.int (nI bi), .int (nI ne), .int (nI li), .int (nI sp), .int (nI q), .ref sw, .ref sr, .ref br, .ref bq, .int lb])), (sr, .inr (3, [.ref e0, .ref e1, .int (nI pl), .int (nI rw)])), (e1, .inr (2, [.int 1, .int (nI fs), .int (nI (hvd ct (sm + (N + 1 - 1) / 2))), .int (nI (hvd ct ct + 1)), .int (nI (hvd ct (ng + 1)))])), (bq, .inr (0, [.ref qa, .int (nI (rpl fi (z + 1 + tln q K (li - 1 - rw - q - 1) z))), .int (nI (h - (z + 1 + tln q K (li - 1 - rw - q - 1) z)))])), (qa, .inl (cB, 1000, .inl g))] H := hP
        have hD : va_D A [(x, .inr (4, [.int (nI bi), .int (nI ne), .int (nI li), .int (nI sp), .int (nI q), .ref sw, .ref sr, .ref br, .ref bq, .int lb])), (sr, .inr (3, [.ref e0, .ref e1, .int (nI pl), .int (nI rw)])), (e1, .inr (2, [.int 1, .int (nI fs), .int (nI (hvd ct (sm + (N + 1 - 1) / 2))), .int (nI (hvd ct ct + 1)), .int (nI (hvd ct (ng + 1)))])), (bq, .inr (0, [.ref qa, .int (nI (rpl fi (z + 1 + tln q K (li - 1 - rw - q - 1) z))), .int (nI (h - (z + 1 + tln q K (li - 1 - rw - q - 1) z)))])), (qa, .inl (cB, 1000, .inl g))] := hD
        refine lv_iload hx hb d_X_readInterrupt_88 (lv_at hl 0 rfl) ?_
        exact W.iret (v := -nI ((N + 1 + 1) / 2)) hx hb hr (fun t ht hW => ⟨rfl, by rw [ht]; exact hP, (hAe ▸ hS).F ht⟩) (hAe ▸ hS).2.2 d_X_readInterrupt_90
      · skip
        exact absurd c_3 (by decide)
    · skip
      exact absurd (nI_pos' (by omega)) c_2
  · skip
    exact absurd c_1 (by decide)
