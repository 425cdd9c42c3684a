/-! LineGolomb: run, interrupt, pass, state, unmap, where they return -/
/-- the step behind a whole one -/
def upp (p : Nat) : Nat := if p < 31 then p + 1 else p
theorem upp_lt {p : Nat} (h : p < 32) : upp p < 32 := by unfold upp; split <;> omega
/-- the step behind j whole ones -/
def rac (p : Nat) : Nat → Nat
  | 0 => p
  | j + 1 => upp (rac p j)
theorem rac_lt {p : Nat} (h : p < 32) : ∀ j, rac p j < 32
  | 0 => h
  | j + 1 => upp_lt (rac_lt h j)
/-- what is left behind j whole steps -/
def rrc (n p : Nat) : Nat → Nat
  | 0 => n
  | j + 1 => rrc n p j - 2 ^ wdt (rac p j)
theorem rrc_le (n p : Nat) : ∀ j, rrc n p j ≤ n
  | 0 => Nat.le_refl _
  | j + 1 => Nat.le_trans (Nat.sub_le _ _) (rrc_le n p j)
theorem pw15 {k : Nat} (h : k ≤ 15) : 2 ^ k ≤ 32768 := Nat.pow_le_pow_right (by decide) h
/-- k bits of f from i on, behind those that wait -/
def pqq (g : Nat → Int32) (fi h : Nat) (f : Nat → Int32) (i : Nat) : Nat → Nat → Int32
  | 0 => g
  | k + 1 => upd (pqq g fi h f i k) (rpl fi (h + k)) (f (i + k))
set_option maxHeartbeats 4000000 in
set_option maxRecDepth 100000 in
theorem c_X_run0 (l : Launch) (D : va_G) (x sw sr br bq bi ne li sp q : Nat) (lb : Int32) (e0 e1 pl rw ra : Nat) (cB : ClassId) (u : Nat) (f : Nat → Int32) (tw n0 m0 : Nat) (hpl : pl < 32) (hn : n0 ≤ 65535) (hm1 : ∀ j, j < m0 → 2 ^ wdt (rac pl j) ≤ rrc n0 pl j) (hm2 : rrc n0 pl m0 < 2 ^ wdt (rac pl m0)) (hm3 : m0 ≤ 40) (hu : u + (m0 + 1 + wdt (rac pl m0)) ≤ 6000) : Met l y_X_run (WSY y_X_run b_X_run 8 (some .int)) ({ frames := 4, cells := 0, slots := 0, locals := 92 }) (va_Pc [.ref x, .int (nI n0), .int 0] (fun U => va_P D CLS [(x, .inr (4, [.int (nI bi), .int (nI ne), .int (nI li), .int (nI sp), .int (nI q), .ref sw, .ref sr, .ref br, .ref bq, .int lb])), (sw, .inr (3, [.ref e0, .ref e1, .int (nI pl), .int (nI rw)])), (br, .inr (1, [.ref ra, .int (nI u)])), (ra, .inl (cB, 6000, .inl f))] U.heap ∧ va_K D CLS [(cB, .byte)] U ∧ va_D (fun _ => True) [(x, .inr (4, [.int (nI bi), .int (nI ne), .int (nI li), .int (nI sp), .int (nI q), .ref sw, .ref sr, .ref br, .ref bq, .int lb])), (sw, .inr (3, [.ref e0, .ref e1, .int (nI pl), .int (nI rw)])), (br, .inr (1, [.ref ra, .int (nI u)])), (ra, .inl (cB, 6000, .inl f))] ∧ EV (ad [(x, .inr (4, [.int (nI bi), .int (nI ne), .int (nI li), .int (nI sp), .int (nI q), .ref sw, .ref sr, .ref br, .ref bq, .int lb])), (sw, .inr (3, [.ref e0, .ref e1, .int (nI pl), .int (nI rw)])), (br, .inr (1, [.ref ra, .int (nI u)])), (ra, .inl (cB, 6000, .inl f))]) tw U)) (QM (some (.int (nI (m0 + 1 + wdt (rac pl m0))))) [(x, .inr (4, [.int (nI bi), .int (nI ne), .int (nI li), .int (nI sp), .int (nI q), .ref sw, .ref sr, .ref br, .ref bq, .int lb])), (sw, .inr (3, [.ref e0, .ref e1, .int (nI pl), .int (nI rw)])), (br, .inr (1, [.ref ra, .int (nI u)])), (ra, .inl (cB, 6000, .inl f))] [(x, .inr (4, [.int (nI bi), .int (nI ne), .int (nI li), .int (nI sp), .int (nI q), .ref sw, .ref sr, .ref br, .ref bq, .int lb])), (sw, .inr (3, [.ref e0, .ref e1, .int (nI (rac pl m0 - 1)), .int (nI (wdt (rac pl m0)))])), (br, .inr (1, [.ref ra, .int (nI (u + m0 + 1 + wdt (rac pl m0)))])), (ra, .inl (cB, 6000, .inl (flw (fil (fil f 1 u m0) 0 (u + m0) 1) (nI (rrc n0 pl m0)) (wdt (rac pl m0)) (u + m0 + 1) (wdt (rac pl m0)))))] D) 0 0 (ad [(x, .inr (4, [.int (nI bi), .int (nI ne), .int (nI li), .int (nI sp), .int (nI q), .ref sw, .ref sr, .ref br, .ref bq, .int lb])), (sw, .inr (3, [.ref e0, .ref e1, .int (nI pl), .int (nI rw)])), (br, .inr (1, [.ref ra, .int (nI u)])), (ra, .inl (cB, 6000, .inl f))]) := by
  refine Met.ofW (cc := b_X_run) (maxL := 8) (ret := (some .int)) (by decide) rfl ?_
  intro p e s m args below meth c s₁ B hml hv
  obtain ⟨rfl, hP, hK, hD0, hE⟩ := hv
  have hx := B.exec
  have hb := B.bytes
  have hr := B.returns
  have hts := atoms_spec (ws := WSY y_X_run b_X_run 8 (some .int)) B.pre
  have hg : ∀ w ∈ GW, w.before _ s = true := fun w h => hts w (List.mem_cons_of_mem _ h)
  have hown : s.vm.findClass "LineGolomb" = some m.cls := findClass_of_methodNamed B.named
  have hlocks := B.notSynchronized
  obtain ⟨A, hAe⟩ : ∃ A, A = ad [(x, .inr (4, [.int (nI bi), .int (nI ne), .int (nI li), .int (nI sp), .int (nI q), .ref sw, .ref sr, .ref br, .ref bq, .int lb])), (sw, .inr (3, [.ref e0, .ref e1, .int (nI pl), .int (nI rw)])), (br, .inr (1, [.ref ra, .int (nI u)])), (ra, .inl (cB, 6000, .inl f))] := ⟨_, rfl⟩
  have hD : va_D A [(x, .inr (4, [.int (nI bi), .int (nI ne), .int (nI li), .int (nI sp), .int (nI q), .ref sw, .ref sr, .ref br, .ref bq, .int lb])), (sw, .inr (3, [.ref e0, .ref e1, .int (nI pl), .int (nI rw)])), (br, .inr (1, [.ref ra, .int (nI u)])), (ra, .inl (cB, 6000, .inl f))] := by rw [hAe]; exact va_D_ad hD0
  have hS : va_S A s.heap s.heap [] := va_S.rf
  rw [← hAe] at hE
  have hl := lv_entry ([.ref x, .int (nI n0), .int 0]) (n := 8) (Nat.le_of_ble_eq_true rfl)
  rw [lg_entry_eq]
  generalize (lg_sl ([.ref x, .int (nI n0), .int 0]) ++ List.replicate (8 - (lg_sl ([.ref x, .int (nI n0), .int 0])).length) Slot.unset).toArray = ls at hl ⊢
  have hl : lv_has ls 8 [(0, .ref x), (1, .int (nI n0)), (2, .int 0)] := hl
  have hwd := wdt_le (rac pl m0) (rac_lt hpl m0)
  have hrl := rrc_le n0 pl m0
  refine lv_iload_n hx hb d_X_run_0 rfl (lv_at hl 1 rfl) ?_
  refine lv_if_lt (tgt := 10) hx hb d_X_run_1 (by decide) (fun c_1 => ?_) (fun c_1 => ?_)
  · skip
    exact absurd c_1 (nI_pos (by omega))
  · skip
    refine lv_iload_n hx hb d_X_run_4 rfl (lv_at hl 1 rfl) ?_
    refine lv_ldc (v := 65535) hx hb hown (hg _ gw_317) d_X_run_5 ?_
    refine lv_icmp_le (tgt := 20) hx hb d_X_run_7 (by decide) (fun c_2 => ?_) (fun c_2 => ?_)
    · skip
      refine lv_iload_n hx hb d_X_run_20 rfl (lv_at hl 1 rfl) ?_
      refine lv_istore_n (lv' := [(3, .int (nI n0)), (0, .ref x), (1, .int (nI n0)), (2, .int 0)]) hx hb d_X_run_21 rfl hl (by decide) rfl (fun ls hl => ?_)
      refine lv_aload_n hx hb d_X_run_22 rfl (lv_at hl 1 rfl) ?_
      refine va_get (D := D) (ci := 4) (v := .ref sw) (C := R_X) (T := T_X) (N := 10) hx hb hg in_X hown hK hP 0 rfl rfl 5 (by decide) (hg _ gw_121) (fun _ h9 => h9) rfl d_X_run_23 ?_
      refine va_getN (D := D) (ci := 3) (v := .int (nI pl)) (C := R_S) (T := T_S) (N := 4) hx hb hg in_S hown hK hP 1 rfl rfl 2 (by decide) (va_Nw.use rfl (hE.nw nw_104)) (fun _ h9 => h9) rfl d_X_run_26 ?_
      refine lv_istore (lv' := [(4, .int (nI pl)), (3, .int (nI n0)), (0, .ref x), (1, .int (nI n0)), (2, .int 0)]) hx hb d_X_run_29 hl (by decide) rfl (fun ls hl => ?_)
      refine lv_iconst (v := 0) hx hb d_X_run_31 (by decide) ?_
      refine lv_istore (lv' := [(5, .int 0), (4, .int (nI pl)), (3, .int (nI n0)), (0, .ref x), (1, .int (nI n0)), (2, .int 0)]) hx hb d_X_run_32 hl (by decide) rfl (fun ls hl => ?_)
      have tail : ∀ (ls : Array Slot), lv_has ls 8 [(5, .int (nI m0)), (4, .int (nI (rac pl m0))), (3, .int (nI (rrc n0 pl m0))), (0, .ref x), (1, .int (nI n0)), (2, .int 0)] → W p l e (headSpec (WSY y_X_run b_X_run 8 (some .int)) ({ frames := 4, cells := 0, slots := 0, locals := 92 })).room s m ([.ref x, .int (nI n0), .int 0] : List Value).toArray below meth c s.heap [] 0 0 (MQ below (QM (some (.int (nI (m0 + 1 + wdt (rac pl m0))))) [(x, .inr (4, [.int (nI bi), .int (nI ne), .int (nI li), .int (nI sp), .int (nI q), .ref sw, .ref sr, .ref br, .ref bq, .int lb])), (sw, .inr (3, [.ref e0, .ref e1, .int (nI pl), .int (nI rw)])), (br, .inr (1, [.ref ra, .int (nI u)])), (ra, .inl (cB, 6000, .inl f))] [(x, .inr (4, [.int (nI bi), .int (nI ne), .int (nI li), .int (nI sp), .int (nI q), .ref sw, .ref sr, .ref br, .ref bq, .int lb])), (sw, .inr (3, [.ref e0, .ref e1, .int (nI (rac pl m0 - 1)), .int (nI (wdt (rac pl m0)))])), (br, .inr (1, [.ref ra, .int (nI (u + m0 + 1 + wdt (rac pl m0)))])), (ra, .inl (cB, 6000, .inl (flw (fil (fil f 1 u m0) 0 (u + m0) 1) (nI (rrc n0 pl m0)) (wdt (rac pl m0)) (u + m0 + 1) (wdt (rac pl m0)))))] D) ([.ref x, .int (nI n0), .int 0] : List Value).toArray s 0 0 (ad [(x, .inr (4, [.int (nI bi), .int (nI ne), .int (nI li), .int (nI sp), .int (nI q), .ref sw, .ref sr, .ref br, .ref bq, .int lb])), (sw, .inr (3, [.ref e0, .ref e1, .int (nI pl), .int (nI rw)])), (br, .inr (1, [.ref ra, .int (nI u)])), (ra, .inl (cB, 6000, .inl f))])) (F0 m 75 ls []) := by
        intro ls hl
        refine lv_iload hx hb d_X_run_75 (lv_at hl 1 rfl) ?_
        have hPc := hP.sub (ws' := []) [] rfl
        have hKc := hK.sub (tys' := []) [] rfl
        refine pci (va_runS (As := [.int (nI (rac pl m0))]) (rest := []) ⟨hx, hb, hml, hown, hg⟩ (c_X_widthOf l D tw (rac pl m0) (rac_lt hpl m0)) (va_cwS 1 hg (gS gw_319 gw_320 gw_1 gw_321) rfl rfl rfl (by decide +kernel) ⟨Nat.le_of_ble_eq_true rfl, Nat.le_of_ble_eq_true rfl⟩) ⟨fun a U g mk q => by obtain ⟨q0, qP, qK, qX⟩ := q; exact ⟨q0, qP, va_K.moved (u := U) (U := U.calling g mk a) (Vm.Alike.refl U.vm) qK, qX.blind⟩, fun U hU hW => ⟨rfl, by rw [hU]; exact hPc, va_K.moved hW.alike hKc, hE.call hS noF hU hW⟩⟩ rfl rfl hl.1 rfl (lv_room (Nat.le_of_ble_eq_true rfl)) d_X_run_77 (⟨Nat.le_of_ble_eq_true rfl, Nat.le_of_ble_eq_true rfl⟩)) ?_
        refine lv_istore (lv' := [(6, .int (nI (wdt (rac pl m0)))), (5, .int (nI m0)), (4, .int (nI (rac pl m0))), (3, .int (nI (rrc n0 pl m0))), (0, .ref x), (1, .int (nI n0)), (2, .int 0)]) hx hb d_X_run_80 hl (by decide) rfl (fun ls hl => ?_)
        refine lv_iload_n hx hb d_X_run_82 rfl (lv_at hl 6 rfl) ?_
        refine lv_if_eq (tgt := 93) hx hb d_X_run_83 (by decide) (fun c_3 => ?_) (fun c_3 => ?_)
        · skip
          refine lv_iload_n hx hb d_X_run_93 rfl (lv_at hl 6 rfl) ?_
          refine lv_if_eq (tgt := 102) hx hb d_X_run_94 (by decide) (fun c_4 => ?_) (fun c_4 => ?_)
          · skip
            refine lv_iload hx hb d_X_run_102 (lv_at hl 1 rfl) ?_
            refine lv_iconst (v := 1) hx hb d_X_run_104 (by decide) ?_
            refine lv_iadd hx hb d_X_run_105 ?_
            refine tpi (y := nI (m0 + 1)) (nI_1 m0) ?_
            refine lv_iload hx hb d_X_run_106 (lv_at hl 0 rfl) ?_
            refine lv_iadd hx hb d_X_run_108 ?_
            refine tpi (y := nI (m0 + 1 + wdt (rac pl m0))) (nI_add _ _) ?_
            refine lv_istore (lv' := [(7, .int (nI (m0 + 1 + wdt (rac pl m0)))), (6, .int (nI (wdt (rac pl m0)))), (5, .int (nI m0)), (4, .int (nI (rac pl m0))), (3, .int (nI (rrc n0 pl m0))), (0, .ref x), (1, .int (nI n0)), (2, .int 0)]) hx hb d_X_run_109 hl (by decide) rfl (fun ls hl => ?_)
            refine lv_aload_n hx hb d_X_run_111 rfl (lv_at hl 5 rfl) ?_
            refine va_get (D := D) (ci := 4) (v := .ref br) (C := R_X) (T := T_X) (N := 10) hx hb hg in_X hown hK hP 0 rfl rfl 7 (by decide) (hg _ gw_123) (fun _ h9 => h9) rfl d_X_run_112 ?_
            refine lv_iload hx hb d_X_run_115 (lv_at hl 0 rfl) ?_
            have hPc := hP.sub (ws' := [(br, .inr (1, [.ref ra, .int (nI u)])), (ra, .inl (cB, 6000, .inl f))]) [2, 3] rfl
            have hKc := hK.sub (tys' := [(cB, .byte)]) [0] rfl
            refine pci (va_runV (As := [.int (nI (m0 + 1 + wdt (rac pl m0)))]) (rest := []) ⟨hx, hb, hml, hown, hg⟩ (c_B_hasRoom l D br ra cB u f (m0 + 1 + wdt (rac pl m0)) (by omega) (by omega)) (cwV 1 hg (gV gw_277 gw_278 gw_279 gw_2 gw_280) rfl rfl rfl (by decide +kernel) ⟨Nat.le_of_ble_eq_true rfl, Nat.le_of_ble_eq_true rfl⟩) ⟨fun a U g mk q => by obtain ⟨q0, qP, qK⟩ := q; exact ⟨q0, qP, va_K.moved (u := U) (U := U.calling g mk a) (Vm.Alike.refl U.vm) qK⟩, va_recv hKc hPc (ci := 1) (q0 := 0) rfl rfl, fun U hU hW => ⟨rfl, by rw [hU]; exact hPc, va_K.moved hW.alike hKc⟩⟩ rfl rfl hl.1 rfl (lv_room (Nat.le_of_ble_eq_true rfl)) d_X_run_117 (⟨Nat.le_of_ble_eq_true rfl, Nat.le_of_ble_eq_true rfl⟩)) ?_
            refine tpi (y := 1) (if_pos hu) ?_
            refine lv_if_ne (tgt := 133) hx hb d_X_run_120 (by decide) (fun c_5 => ?_) (fun c_5 => ?_)
            · skip
              refine lv_aload_n hx hb d_X_run_133 rfl (lv_at hl 5 rfl) ?_
              refine va_get (D := D) (ci := 4) (v := .ref br) (C := R_X) (T := T_X) (N := 10) hx hb hg in_X hown hK hP 0 rfl rfl 7 (by decide) (hg _ gw_123) (fun _ h9 => h9) rfl d_X_run_134 ?_
              refine lv_iconst (v := 1) hx hb d_X_run_137 (by decide) ?_
              refine lv_iload hx hb d_X_run_138 (lv_at hl 2 rfl) ?_
              have hPc := hP.sub (ws' := [(br, .inr (1, [.ref ra, .int (nI u)])), (ra, .inl (cB, 6000, .inl f))]) [2, 3] rfl
              have hDc := hD.sub (ws' := [(br, .inr (1, [.ref ra, .int (nI u)])), (ra, .inl (cB, 6000, .inl f))]) [2, 3] (by decide) rfl
              have hKc := hK.sub (tys' := [(cB, .byte)]) [0] rfl
              refine mcv (va_runV (As := [.int 1, .int (nI m0)]) (rest := []) ⟨hx, hb, hml, hown, hg⟩ (c_B_putSame l D br ra cB u f 1 m0 (Or.inr rfl) (by omega)) (cwV 2 hg (gV gw_301 gw_302 gw_303 gw_2 gw_304) rfl rfl rfl (by decide +kernel) ⟨Nat.le_of_ble_eq_true rfl, Nat.le_of_ble_eq_true rfl⟩) ⟨fun a U g mk q => by obtain ⟨q0, qP, qK, qD⟩ := q; exact ⟨q0, qP, va_K.moved (u := U) (U := U.calling g mk a) (Vm.Alike.refl U.vm) qK, qD⟩, va_recv hKc hPc (ci := 1) (q0 := 0) rfl rfl, fun U hU hW => ⟨rfl, by rw [hU]; exact hPc, va_K.moved hW.alike hKc, hDc.weaken (fun _ _ _ _ => trivial)⟩⟩ rfl rfl hl.1 rfl (lv_room (Nat.le_of_ble_eq_true rfl)) d_X_run_140 (⟨Nat.le_of_ble_eq_true rfl, Nat.le_of_ble_eq_true rfl⟩)) hS hP hD [2, 3] rfl rfl rfl (fun H locs hP hD hS => ?_)
              have hP : va_P D CLS [(x, .inr (4, [.int (nI bi), .int (nI ne), .int (nI li), .int (nI sp), .int (nI q), .ref sw, .ref sr, .ref br, .ref bq, .int lb])), (sw, .inr (3, [.ref e0, .ref e1, .int (nI pl), .int (nI rw)])), (br, .inr (1, [.ref ra, .int (nI (u + m0))])), (ra, .inl (cB, 6000, .inl (fil f 1 u m0)))] H := hP
              have hD : va_D A [(x, .inr (4, [.int (nI bi), .int (nI ne), .int (nI li), .int (nI sp), .int (nI q), .ref sw, .ref sr, .ref br, .ref bq, .int lb])), (sw, .inr (3, [.ref e0, .ref e1, .int (nI pl), .int (nI rw)])), (br, .inr (1, [.ref ra, .int (nI (u + m0))])), (ra, .inl (cB, 6000, .inl (fil f 1 u m0)))] := hD
              refine lv_iload_n hx hb d_X_run_143 rfl (lv_at hl 7 rfl) ?_
              refine lv_if_ne (tgt := 166) hx hb d_X_run_144 (by decide) (fun c_6 => ?_) (fun c_6 => ?_)
              · skip
                exact absurd rfl c_6
              · skip
                refine lv_aload_n hx hb d_X_run_147 rfl (lv_at hl 5 rfl) ?_
                refine va_get (D := D) (ci := 4) (v := .ref br) (C := R_X) (T := T_X) (N := 10) hx hb hg in_X hown hK hP 0 rfl rfl 7 (by decide) (hg _ gw_123) (fun _ h9 => h9) rfl d_X_run_148 ?_
                refine lv_iconst (v := 0) hx hb d_X_run_151 (by decide) ?_
                refine lv_iconst (v := 1) hx hb d_X_run_152 (by decide) ?_
                refine tpi (y := nI 1) (rfl) ?_
                have hPc := hP.sub (ws' := [(br, .inr (1, [.ref ra, .int (nI (u + m0))])), (ra, .inl (cB, 6000, .inl (fil f 1 u m0)))]) [2, 3] rfl
                have hDc := hD.sub (ws' := [(br, .inr (1, [.ref ra, .int (nI (u + m0))])), (ra, .inl (cB, 6000, .inl (fil f 1 u m0)))]) [2, 3] (by decide) rfl
                have hKc := hK.sub (tys' := [(cB, .byte)]) [0] rfl
                refine mcv (va_runV (As := [.int 0, .int (nI 1)]) (rest := []) ⟨hx, hb, hml, hown, hg⟩ (c_B_putSame l D br ra cB (u + m0) (fil f 1 u m0) 0 1 (Or.inl rfl) (by omega)) (cwV 2 hg (gV gw_301 gw_302 gw_303 gw_2 gw_304) rfl rfl rfl (by decide +kernel) ⟨Nat.le_of_ble_eq_true rfl, Nat.le_of_ble_eq_true rfl⟩) ⟨fun a U g mk q => by obtain ⟨q0, qP, qK, qD⟩ := q; exact ⟨q0, qP, va_K.moved (u := U) (U := U.calling g mk a) (Vm.Alike.refl U.vm) qK, qD⟩, va_recv hKc hPc (ci := 1) (q0 := 0) rfl rfl, fun U hU hW => ⟨rfl, by rw [hU]; exact hPc, va_K.moved hW.alike hKc, hDc.weaken (fun _ _ _ _ => trivial)⟩⟩ rfl rfl hl.1 rfl (lv_room (Nat.le_of_ble_eq_true rfl)) d_X_run_153 (⟨Nat.le_of_ble_eq_true rfl, Nat.le_of_ble_eq_true rfl⟩)) hS hP hD [2, 3] rfl rfl rfl (fun H locs hP hD hS => ?_)
                have hP : va_P D CLS [(x, .inr (4, [.int (nI bi), .int (nI ne), .int (nI li), .int (nI sp), .int (nI q), .ref sw, .ref sr, .ref br, .ref bq, .int lb])), (sw, .inr (3, [.ref e0, .ref e1, .int (nI pl), .int (nI rw)])), (br, .inr (1, [.ref ra, .int (nI (u + m0 + 1))])), (ra, .inl (cB, 6000, .inl (fil (fil f 1 u m0) 0 (u + m0) 1)))] H := hP
                have hD : va_D A [(x, .inr (4, [.int (nI bi), .int (nI ne), .int (nI li), .int (nI sp), .int (nI q), .ref sw, .ref sr, .ref br, .ref bq, .int lb])), (sw, .inr (3, [.ref e0, .ref e1, .int (nI pl), .int (nI rw)])), (br, .inr (1, [.ref ra, .int (nI (u + m0 + 1))])), (ra, .inl (cB, 6000, .inl (fil (fil f 1 u m0) 0 (u + m0) 1)))] := hD
                refine lv_aload_n hx hb d_X_run_156 rfl (lv_at hl 5 rfl) ?_
                refine va_get (D := D) (ci := 4) (v := .ref br) (C := R_X) (T := T_X) (N := 10) hx hb hg in_X hown hK hP 0 rfl rfl 7 (by decide) (hg _ gw_123) (fun _ h9 => h9) rfl d_X_run_157 ?_
                refine lv_iload_n hx hb d_X_run_160 rfl (lv_at hl 4 rfl) ?_
                refine lv_iload hx hb d_X_run_161 (lv_at hl 1 rfl) ?_
                have hPc := hP.sub (ws' := [(br, .inr (1, [.ref ra, .int (nI (u + m0 + 1))])), (ra, .inl (cB, 6000, .inl (fil (fil f 1 u m0) 0 (u + m0) 1)))]) [2, 3] rfl
                have hDc := hD.sub (ws' := [(br, .inr (1, [.ref ra, .int (nI (u + m0 + 1))])), (ra, .inl (cB, 6000, .inl (fil (fil f 1 u m0) 0 (u + m0) 1)))]) [2, 3] (by decide) rfl
                have hKc := hK.sub (tys' := [(cB, .byte)]) [0] rfl
                refine mcv (va_runV (As := [.int (nI (rrc n0 pl m0)), .int (nI (wdt (rac pl m0)))]) (rest := []) ⟨hx, hb, hml, hown, hg⟩ (c_B_putLow l D br ra cB (u + m0 + 1) (fil (fil f 1 u m0) 0 (u + m0) 1) (nI (rrc n0 pl m0)) (wdt (rac pl m0)) (by omega) (by omega)) (cwV 2 hg (gV gw_305 gw_306 gw_307 gw_2 gw_308) rfl rfl rfl (by decide +kernel) ⟨Nat.le_of_ble_eq_true rfl, Nat.le_of_ble_eq_true rfl⟩) ⟨fun a U g mk q => by obtain ⟨q0, qP, qK, qD⟩ := q; exact ⟨q0, qP, va_K.moved (u := U) (U := U.calling g mk a) (Vm.Alike.refl U.vm) qK, qD⟩, va_recv hKc hPc (ci := 1) (q0 := 0) rfl rfl, fun U hU hW => ⟨rfl, by rw [hU]; exact hPc, va_K.moved hW.alike hKc, hDc.weaken (fun _ _ _ _ => trivial)⟩⟩ rfl rfl hl.1 rfl (lv_room (Nat.le_of_ble_eq_true rfl)) d_X_run_163 (⟨Nat.le_of_ble_eq_true rfl, Nat.le_of_ble_eq_true rfl⟩)) hS hP hD [2, 3] rfl rfl rfl (fun H locs hP hD hS => ?_)
                have hP : va_P D CLS [(x, .inr (4, [.int (nI bi), .int (nI ne), .int (nI li), .int (nI sp), .int (nI q), .ref sw, .ref sr, .ref br, .ref bq, .int lb])), (sw, .inr (3, [.ref e0, .ref e1, .int (nI pl), .int (nI rw)])), (br, .inr (1, [.ref ra, .int (nI (u + m0 + 1 + wdt (rac pl m0)))])), (ra, .inl (cB, 6000, .inl (flw (fil (fil f 1 u m0) 0 (u + m0) 1) (nI (rrc n0 pl m0)) (wdt (rac pl m0)) (u + m0 + 1) (wdt (rac pl m0)))))] H := hP
                have hD : va_D A [(x, .inr (4, [.int (nI bi), .int (nI ne), .int (nI li), .int (nI sp), .int (nI q), .ref sw, .ref sr, .ref br, .ref bq, .int lb])), (sw, .inr (3, [.ref e0, .ref e1, .int (nI pl), .int (nI rw)])), (br, .inr (1, [.ref ra, .int (nI (u + m0 + 1 + wdt (rac pl m0)))])), (ra, .inl (cB, 6000, .inl (flw (fil (fil f 1 u m0) 0 (u + m0) 1) (nI (rrc n0 pl m0)) (wdt (rac pl m0)) (u + m0 + 1) (wdt (rac pl m0)))))] := hD
                refine lv_aload_n hx hb d_X_run_166 rfl (lv_at hl 5 rfl) ?_
                refine va_get (D := D) (ci := 4) (v := .ref sw) (C := R_X) (T := T_X) (N := 10) hx hb hg in_X hown hK hP 0 rfl rfl 5 (by decide) (hg _ gw_121) (fun _ h9 => h9) rfl d_X_run_167 ?_
                refine lv_iload hx hb d_X_run_170 (lv_at hl 3 rfl) ?_
                refine lv_iload_n hx hb d_X_run_172 rfl (lv_at hl 7 rfl) ?_
                refine lv_if_ne (tgt := 180) hx hb d_X_run_173 (by decide) (fun c_7 => ?_) (fun c_7 => ?_)
                · skip
                  exact absurd rfl c_7
                · skip
                  refine lv_iconst (v := 1) hx hb d_X_run_176 (by decide) ?_
                  refine lv_goto (tgt := 181) hx hb d_X_run_177 (by decide) ?_
                  have hPc := hP.sub (ws' := [(sw, .inr (3, [.ref e0, .ref e1, .int (nI pl), .int (nI rw)]))]) [1] rfl
                  have hDc := hD.sub (ws' := [(sw, .inr (3, [.ref e0, .ref e1, .int (nI pl), .int (nI rw)]))]) [1] (by decide) rfl
                  have hKc := hK.sub (tys' := []) [] rfl
                  refine mcv (va_runV (As := [.int (nI (rac pl m0)), .int 1]) (rest := []) ⟨hx, hb, hml, hown, hg⟩ (c_S_endRun1 l D sw e0 e1 pl rw tw (rac pl m0) (rac_lt hpl m0)) (cwV 2 hg (gV gw_327 gw_328 gw_329 gw_5 gw_330) rfl rfl rfl (by decide +kernel) ⟨Nat.le_of_ble_eq_true rfl, Nat.le_of_ble_eq_true rfl⟩) ⟨fun a U g mk q => by obtain ⟨q0, qP, qK, qD, qX⟩ := q; exact ⟨q0, qP, va_K.moved (u := U) (U := U.calling g mk a) (Vm.Alike.refl U.vm) qK, qD, qX.blind⟩, va_recv hKc hPc (ci := 3) (q0 := 0) rfl rfl, fun U hU hW => ⟨rfl, by rw [hU]; exact hPc, va_K.moved hW.alike hKc, hDc.weaken (fun _ _ _ _ => trivial), hE.call hS (ad_sub hD [1] rfl) hU hW⟩⟩ rfl rfl hl.1 rfl (lv_room (Nat.le_of_ble_eq_true rfl)) d_X_run_181 (⟨Nat.le_of_ble_eq_true rfl, Nat.le_of_ble_eq_true rfl⟩)) hS hP hD [1] rfl rfl rfl (fun H locs hP hD hS => ?_)
                  have hP : va_P D CLS [(x, .inr (4, [.int (nI bi), .int (nI ne), .int (nI li), .int (nI sp), .int (nI q), .ref sw, .ref sr, .ref br, .ref bq, .int lb])), (sw, .inr (3, [.ref e0, .ref e1, .int (nI (rac pl m0 - 1)), .int (nI (wdt (rac pl m0)))])), (br, .inr (1, [.ref ra, .int (nI (u + m0 + 1 + wdt (rac pl m0)))])), (ra, .inl (cB, 6000, .inl (flw (fil (fil f 1 u m0) 0 (u + m0) 1) (nI (rrc n0 pl m0)) (wdt (rac pl m0)) (u + m0 + 1) (wdt (rac pl m0)))))] H := hP
                  have hD : va_D A [(x, .inr (4, [.int (nI bi), .int (nI ne), .int (nI li), .int (nI sp), .int (nI q), .ref sw, .ref sr, .ref br, .ref bq, .int lb])), (sw, .inr (3, [.ref e0, .ref e1, .int (nI (rac pl m0 - 1)), .int (nI (wdt (rac pl m0)))])), (br, .inr (1, [.ref ra, .int (nI (u + m0 + 1 + wdt (rac pl m0)))])), (ra, .inl (cB, 6000, .inl (flw (fil (fil f 1 u m0) 0 (u + m0) 1) (nI (rrc n0 pl m0)) (wdt (rac pl m0)) (u + m0 + 1) (wdt (rac pl m0)))))] := hD
                  refine lv_iload hx hb d_X_run_184 (lv_at hl 0 rfl) ?_
                  exact W.iret (v := nI (m0 + 1 + wdt (rac pl m0))) hx hb hr (fun t ht hW => ⟨rfl, by rw [ht]; exact hP, (hAe ▸ hS).F ht⟩) (hAe ▸ hS).2.2 d_X_run_186
            · skip
              exact absurd c_5 (by decide)
          · skip
            exact absurd rfl c_4
        · skip
          exact absurd rfl c_3
      have loop : ∀ (d j : Nat), j + d = m0 → ∀ (ls : Array Slot), lv_has ls 8 [(5, .int (nI j)), (4, .int (nI (rac pl j))), (3, .int (nI (rrc n0 pl j))), (0, .ref x), (1, .int (nI n0)), (2, .int 0)] → W p l e (headSpec (WSY y_X_run b_X_run 8 (some .int)) ({ frames := 4, cells := 0, slots := 0, locals := 92 })).room s m ([.ref x, .int (nI n0), .int 0] : List Value).toArray below meth c s.heap [] 0 0 (MQ below (QM (some (.int (nI (m0 + 1 + wdt (rac pl m0))))) [(x, .inr (4, [.int (nI bi), .int (nI ne), .int (nI li), .int (nI sp), .int (nI q), .ref sw, .ref sr, .ref br, .ref bq, .int lb])), (sw, .inr (3, [.ref e0, .ref e1, .int (nI pl), .int (nI rw)])), (br, .inr (1, [.ref ra, .int (nI u)])), (ra, .inl (cB, 6000, .inl f))] [(x, .inr (4, [.int (nI bi), .int (nI ne), .int (nI li), .int (nI sp), .int (nI q), .ref sw, .ref sr, .ref br, .ref bq, .int lb])), (sw, .inr (3, [.ref e0, .ref e1, .int (nI (rac pl m0 - 1)), .int (nI (wdt (rac pl m0)))])), (br, .inr (1, [.ref ra, .int (nI (u + m0 + 1 + wdt (rac pl m0)))])), (ra, .inl (cB, 6000, .inl (flw (fil (fil f 1 u m0) 0 (u + m0) 1) (nI (rrc n0 pl m0)) (wdt (rac pl m0)) (u + m0 + 1) (wdt (rac pl m0)))))] D) ([.ref x, .int (nI n0), .int 0] : List Value).toArray s 0 0 (ad [(x, .inr (4, [.int (nI bi), .int (nI ne), .int (nI li), .int (nI sp), .int (nI q), .ref sw, .ref sr, .ref br, .ref bq, .int lb])), (sw, .inr (3, [.ref e0, .ref e1, .int (nI pl), .int (nI rw)])), (br, .inr (1, [.ref ra, .int (nI u)])), (ra, .inl (cB, 6000, .inl f))])) (F0 m 34 ls []) := by
        intro d
        induction d with
        | zero =>
          intro j hj ls hl
          obtain rfl : j = m0 := by omega
          have hwj := wdt_le (rac pl j) (rac_lt hpl j)
          have hpj := pw15 hwj
          have hrj := rrc_le n0 pl j
          refine lv_iload hx hb d_X_run_34 (lv_at hl 0 rfl) ?_
          refine lv_ldc (v := 65535) hx hb hown (hg _ gw_317) d_X_run_36 ?_
          refine lv_icmp_ge (tgt := 75) hx hb d_X_run_38 (by decide) (fun c_8 => ?_) (fun c_8 => ?_)
          · skip
            exact absurd ((nI_leI (a := 65535) (by omega) (by omega)).mp c_8) (by omega)
          · skip
            refine lv_iload_n hx hb d_X_run_41 rfl (lv_at hl 2 rfl) ?_
            refine lv_iconst (v := 1) hx hb d_X_run_42 (by decide) ?_
            refine lv_iload hx hb d_X_run_43 (lv_at hl 1 rfl) ?_
            have hPc := hP.sub (ws' := []) [] rfl
            have hKc := hK.sub (tys' := []) [] rfl
            refine pci (va_runS (As := [.int (nI (rac pl j))]) (rest := [.int 1, .int (nI (rrc n0 pl j))]) ⟨hx, hb, hml, hown, hg⟩ (c_X_widthOf l D tw (rac pl j) (rac_lt hpl j)) (va_cwS 1 hg (gS gw_319 gw_320 gw_1 gw_321) rfl rfl rfl (by decide +kernel) ⟨Nat.le_of_ble_eq_true rfl, Nat.le_of_ble_eq_true rfl⟩) ⟨fun a U g mk q => by obtain ⟨q0, qP, qK, qX⟩ := q; exact ⟨q0, qP, va_K.moved (u := U) (U := U.calling g mk a) (Vm.Alike.refl U.vm) qK, qX.blind⟩, fun U hU hW => ⟨rfl, by rw [hU]; exact hPc, va_K.moved hW.alike hKc, hE.call hS noF hU hW⟩⟩ rfl rfl hl.1 rfl (lv_room (Nat.le_of_ble_eq_true rfl)) d_X_run_45 (⟨Nat.le_of_ble_eq_true rfl, Nat.le_of_ble_eq_true rfl⟩)) ?_
            refine lv_ishl hx hb d_X_run_48 ?_
            refine tpi (y := nI (2 ^ wdt (rac pl j))) (sh1 (by omega)) ?_
            refine lv_icmp_lt (tgt := 75) hx hb d_X_run_49 (by decide) (fun c_9 => ?_) (fun c_9 => ?_)
            · skip
              exact tail ls (lv_sub hl [0, 1, 2, 3, 4, 5] rfl)
            · skip
              exact absurd ((nI_ltI (by omega) (by omega)).mpr hm2) c_9
        | succ d ih =>
          intro j hj ls hl
          have hwj := wdt_le (rac pl j) (rac_lt hpl j)
          have hpj := pw15 hwj
          have hrj := rrc_le n0 pl j
          refine lv_iload hx hb d_X_run_34 (lv_at hl 0 rfl) ?_
          refine lv_ldc (v := 65535) hx hb hown (hg _ gw_317) d_X_run_36 ?_
          refine lv_icmp_ge (tgt := 75) hx hb d_X_run_38 (by decide) (fun c_10 => ?_) (fun c_10 => ?_)
          · skip
            exact absurd ((nI_leI (a := 65535) (by omega) (by omega)).mp c_10) (by omega)
          · skip
            refine lv_iload_n hx hb d_X_run_41 rfl (lv_at hl 2 rfl) ?_
            refine lv_iconst (v := 1) hx hb d_X_run_42 (by decide) ?_
            refine lv_iload hx hb d_X_run_43 (lv_at hl 1 rfl) ?_
            have hPc := hP.sub (ws' := []) [] rfl
            have hKc := hK.sub (tys' := []) [] rfl
            refine pci (va_runS (As := [.int (nI (rac pl j))]) (rest := [.int 1, .int (nI (rrc n0 pl j))]) ⟨hx, hb, hml, hown, hg⟩ (c_X_widthOf l D tw (rac pl j) (rac_lt hpl j)) (va_cwS 1 hg (gS gw_319 gw_320 gw_1 gw_321) rfl rfl rfl (by decide +kernel) ⟨Nat.le_of_ble_eq_true rfl, Nat.le_of_ble_eq_true rfl⟩) ⟨fun a U g mk q => by obtain ⟨q0, qP, qK, qX⟩ := q; exact ⟨q0, qP, va_K.moved (u := U) (U := U.calling g mk a) (Vm.Alike.refl U.vm) qK, qX.blind⟩, fun U hU hW => ⟨rfl, by rw [hU]; exact hPc, va_K.moved hW.alike hKc, hE.call hS noF hU hW⟩⟩ rfl rfl hl.1 rfl (lv_room (Nat.le_of_ble_eq_true rfl)) d_X_run_45 (⟨Nat.le_of_ble_eq_true rfl, Nat.le_of_ble_eq_true rfl⟩)) ?_
            refine lv_ishl hx hb d_X_run_48 ?_
            refine tpi (y := nI (2 ^ wdt (rac pl j))) (sh1 (by omega)) ?_
            refine lv_icmp_lt (tgt := 75) hx hb d_X_run_49 (by decide) (fun c_11 => ?_) (fun c_11 => ?_)
            · skip
              exact absurd ((nI_ltI (by omega) (by omega)).mp c_11) (by have := hm1 j (by omega); omega)
            · skip
              refine lv_iload_n hx hb d_X_run_52 rfl (lv_at hl 2 rfl) ?_
              refine lv_iconst (v := 1) hx hb d_X_run_53 (by decide) ?_
              refine lv_iload hx hb d_X_run_54 (lv_at hl 1 rfl) ?_
              have hPc := hP.sub (ws' := []) [] rfl
              have hKc := hK.sub (tys' := []) [] rfl
              refine pci (va_runS (As := [.int (nI (rac pl j))]) (rest := [.int 1, .int (nI (rrc n0 pl j))]) ⟨hx, hb, hml, hown, hg⟩ (c_X_widthOf l D tw (rac pl j) (rac_lt hpl j)) (va_cwS 1 hg (gS gw_319 gw_320 gw_1 gw_321) rfl rfl rfl (by decide +kernel) ⟨Nat.le_of_ble_eq_true rfl, Nat.le_of_ble_eq_true rfl⟩) ⟨fun a U g mk q => by obtain ⟨q0, qP, qK, qX⟩ := q; exact ⟨q0, qP, va_K.moved (u := U) (U := U.calling g mk a) (Vm.Alike.refl U.vm) qK, qX.blind⟩, fun U hU hW => ⟨rfl, by rw [hU]; exact hPc, va_K.moved hW.alike hKc, hE.call hS noF hU hW⟩⟩ rfl rfl hl.1 rfl (lv_room (Nat.le_of_ble_eq_true rfl)) d_X_run_56 (⟨Nat.le_of_ble_eq_true rfl, Nat.le_of_ble_eq_true rfl⟩)) ?_
              refine lv_ishl hx hb d_X_run_59 ?_
              refine tpi (y := nI (2 ^ wdt (rac pl j))) (sh1 (by omega)) ?_
              refine lv_isub hx hb d_X_run_60 ?_
              refine tpi (y := nI (rrc n0 pl (j + 1))) (pk_sub (hm1 j (by omega))) ?_
              refine lv_istore_n (lv' := [(3, .int (nI (rrc n0 pl (j + 1)))), (5, .int (nI j)), (4, .int (nI (rac pl j))), (0, .ref x), (1, .int (nI n0)), (2, .int 0)]) hx hb d_X_run_61 rfl hl (by decide) rfl (fun ls hl => ?_)
              refine lv_iload hx hb d_X_run_62 (lv_at hl 2 rfl) ?_
              have hPc := hP.sub (ws' := []) [] rfl
              have hKc := hK.sub (tys' := []) [] rfl
              refine pci (va_runS (As := [.int (nI (rac pl j))]) (rest := []) ⟨hx, hb, hml, hown, hg⟩ (c_X_stepAbove l D tw (rac pl j) (rac_lt hpl j)) (va_cwS 1 hg (gS gw_324 gw_325 gw_1 gw_326) rfl rfl rfl (by decide +kernel) ⟨Nat.le_of_ble_eq_true rfl, Nat.le_of_ble_eq_true rfl⟩) ⟨fun a U g mk q => by obtain ⟨q0, qP, qK, qX⟩ := q; exact ⟨q0, qP, va_K.moved (u := U) (U := U.calling g mk a) (Vm.Alike.refl U.vm) qK, qX.blind⟩, fun U hU hW => ⟨rfl, by rw [hU]; exact hPc, va_K.moved hW.alike hKc, hE.call hS noF hU hW⟩⟩ rfl rfl hl.1 rfl (lv_room (Nat.le_of_ble_eq_true rfl)) d_X_run_64 (⟨Nat.le_of_ble_eq_true rfl, Nat.le_of_ble_eq_true rfl⟩)) ?_
              refine lv_istore (lv' := [(4, .int (nI (rac pl (j + 1)))), (3, .int (nI (rrc n0 pl (j + 1)))), (5, .int (nI j)), (0, .ref x), (1, .int (nI n0)), (2, .int 0)]) hx hb d_X_run_67 hl (by decide) rfl (fun ls hl => ?_)
              refine lv_iinc (v := nI (j + 1)) (lv' := [(5, .int (nI (j + 1))), (4, .int (nI (rac pl (j + 1)))), (3, .int (nI (rrc n0 pl (j + 1)))), (0, .ref x), (1, .int (nI n0)), (2, .int 0)]) hx hb d_X_run_69 hl (k := 2) rfl (nI_1 j) (by decide) rfl (fun ls hl => ?_)
              refine lv_goto (tgt := 34) hx hb d_X_run_72 (by decide) ?_
              exact ih (j + 1) (by omega) ls (lv_sub hl [0, 1, 2, 3, 4, 5] rfl)
      exact loop m0 0 (by omega) ls hl
    · skip
      exact absurd (nI_le hn (by omega)) c_2
set_option maxHeartbeats 4000000 in
set_option maxRecDepth 100000 in
theorem c_X_run1 (l : Launch) (D : va_G) (x sw sr br bq bi ne li sp q : Nat) (lb : Int32) (e0 e1 pl rw ra : Nat) (cB : ClassId) (u : Nat) (f : Nat → Int32) (tw n0 m0 : Nat) (hpl : pl < 32) (hn : n0 ≤ 65535) (hm1 : ∀ j, j < m0 → 2 ^ wdt (rac pl j) ≤ rrc n0 pl j) (hm2 : rrc n0 pl m0 < 2 ^ wdt (rac pl m0)) (hm3 : m0 ≤ 40) (hu : u + ((if 0 < rrc n0 pl m0 then m0 + 1 else m0)) ≤ 6000) : Met l y_X_run (WSY y_X_run b_X_run 8 (some .int)) ({ frames := 4, cells := 0, slots := 0, locals := 92 }) (va_Pc [.ref x, .int (nI n0), .int 1] (fun U => va_P D CLS [(x, .inr (4, [.int (nI bi), .int (nI ne), .int (nI li), .int (nI sp), .int (nI q), .ref sw, .ref sr, .ref br, .ref bq, .int lb])), (sw, .inr (3, [.ref e0, .ref e1, .int (nI pl), .int (nI rw)])), (br, .inr (1, [.ref ra, .int (nI u)])), (ra, .inl (cB, 6000, .inl f))] U.heap ∧ va_K D CLS [(cB, .byte)] U ∧ va_D (fun _ => True) [(x, .inr (4, [.int (nI bi), .int (nI ne), .int (nI li), .int (nI sp), .int (nI q), .ref sw, .ref sr, .ref br, .ref bq, .int lb])), (sw, .inr (3, [.ref e0, .ref e1, .int (nI pl), .int (nI rw)])), (br, .inr (1, [.ref ra, .int (nI u)])), (ra, .inl (cB, 6000, .inl f))] ∧ EV (ad [(x, .inr (4, [.int (nI bi), .int (nI ne), .int (nI li), .int (nI sp), .int (nI q), .ref sw, .ref sr, .ref br, .ref bq, .int lb])), (sw, .inr (3, [.ref e0, .ref e1, .int (nI pl), .int (nI rw)])), (br, .inr (1, [.ref ra, .int (nI u)])), (ra, .inl (cB, 6000, .inl f))]) tw U)) (QM (some (.int (nI ((if 0 < rrc n0 pl m0 then m0 + 1 else m0))))) [(x, .inr (4, [.int (nI bi), .int (nI ne), .int (nI li), .int (nI sp), .int (nI q), .ref sw, .ref sr, .ref br, .ref bq, .int lb])), (sw, .inr (3, [.ref e0, .ref e1, .int (nI pl), .int (nI rw)])), (br, .inr (1, [.ref ra, .int (nI u)])), (ra, .inl (cB, 6000, .inl f))] [(x, .inr (4, [.int (nI bi), .int (nI ne), .int (nI li), .int (nI sp), .int (nI q), .ref sw, .ref sr, .ref br, .ref bq, .int lb])), (sw, .inr (3, [.ref e0, .ref e1, .int (nI (rac pl m0)), .int (nI (wdt (rac pl m0)))])), (br, .inr (1, [.ref ra, .int (nI (u + (if 0 < rrc n0 pl m0 then m0 + 1 else m0)))])), (ra, .inl (cB, 6000, .inl (fil f 1 u (if 0 < rrc n0 pl m0 then m0 + 1 else m0))))] D) 0 0 (ad [(x, .inr (4, [.int (nI bi), .int (nI ne), .int (nI li), .int (nI sp), .int (nI q), .ref sw, .ref sr, .ref br, .ref bq, .int lb])), (sw, .inr (3, [.ref e0, .ref e1, .int (nI pl), .int (nI rw)])), (br, .inr (1, [.ref ra, .int (nI u)])), (ra, .inl (cB, 6000, .inl f))]) := by
  refine Met.ofW (cc := b_X_run) (maxL := 8) (ret := (some .int)) (by decide) rfl ?_
  intro p e s m args below meth c s₁ B hml hv
  obtain ⟨rfl, hP, hK, hD0, hE⟩ := hv
  have hx := B.exec
  have hb := B.bytes
  have hr := B.returns
  have hts := atoms_spec (ws := WSY y_X_run b_X_run 8 (some .int)) B.pre
  have hg : ∀ w ∈ GW, w.before _ s = true := fun w h => hts w (List.mem_cons_of_mem _ h)
  have hown : s.vm.findClass "LineGolomb" = some m.cls := findClass_of_methodNamed B.named
  have hlocks := B.notSynchronized
  obtain ⟨A, hAe⟩ : ∃ A, A = ad [(x, .inr (4, [.int (nI bi), .int (nI ne), .int (nI li), .int (nI sp), .int (nI q), .ref sw, .ref sr, .ref br, .ref bq, .int lb])), (sw, .inr (3, [.ref e0, .ref e1, .int (nI pl), .int (nI rw)])), (br, .inr (1, [.ref ra, .int (nI u)])), (ra, .inl (cB, 6000, .inl f))] := ⟨_, rfl⟩
  have hD : va_D A [(x, .inr (4, [.int (nI bi), .int (nI ne), .int (nI li), .int (nI sp), .int (nI q), .ref sw, .ref sr, .ref br, .ref bq, .int lb])), (sw, .inr (3, [.ref e0, .ref e1, .int (nI pl), .int (nI rw)])), (br, .inr (1, [.ref ra, .int (nI u)])), (ra, .inl (cB, 6000, .inl f))] := by rw [hAe]; exact va_D_ad hD0
  have hS : va_S A s.heap s.heap [] := va_S.rf
  rw [← hAe] at hE
  have hl := lv_entry ([.ref x, .int (nI n0), .int 1]) (n := 8) (Nat.le_of_ble_eq_true rfl)
  rw [lg_entry_eq]
  generalize (lg_sl ([.ref x, .int (nI n0), .int 1]) ++ List.replicate (8 - (lg_sl ([.ref x, .int (nI n0), .int 1])).length) Slot.unset).toArray = ls at hl ⊢
  have hl : lv_has ls 8 [(0, .ref x), (1, .int (nI n0)), (2, .int 1)] := hl
  have hwd := wdt_le (rac pl m0) (rac_lt hpl m0)
  have hrl := rrc_le n0 pl m0
  refine lv_iload_n hx hb d_X_run_0 rfl (lv_at hl 1 rfl) ?_
  refine lv_if_lt (tgt := 10) hx hb d_X_run_1 (by decide) (fun c_1 => ?_) (fun c_1 => ?_)
  · skip
    exact absurd c_1 (nI_pos (by omega))
  · skip
    refine lv_iload_n hx hb d_X_run_4 rfl (lv_at hl 1 rfl) ?_
    refine lv_ldc (v := 65535) hx hb hown (hg _ gw_317) d_X_run_5 ?_
    refine lv_icmp_le (tgt := 20) hx hb d_X_run_7 (by decide) (fun c_2 => ?_) (fun c_2 => ?_)
    · skip
      refine lv_iload_n hx hb d_X_run_20 rfl (lv_at hl 1 rfl) ?_
      refine lv_istore_n (lv' := [(3, .int (nI n0)), (0, .ref x), (1, .int (nI n0)), (2, .int 1)]) hx hb d_X_run_21 rfl hl (by decide) rfl (fun ls hl => ?_)
      refine lv_aload_n hx hb d_X_run_22 rfl (lv_at hl 1 rfl) ?_
      refine va_get (D := D) (ci := 4) (v := .ref sw) (C := R_X) (T := T_X) (N := 10) hx hb hg in_X hown hK hP 0 rfl rfl 5 (by decide) (hg _ gw_121) (fun _ h9 => h9) rfl d_X_run_23 ?_
      refine va_getN (D := D) (ci := 3) (v := .int (nI pl)) (C := R_S) (T := T_S) (N := 4) hx hb hg in_S hown hK hP 1 rfl rfl 2 (by decide) (va_Nw.use rfl (hE.nw nw_104)) (fun _ h9 => h9) rfl d_X_run_26 ?_
      refine lv_istore (lv' := [(4, .int (nI pl)), (3, .int (nI n0)), (0, .ref x), (1, .int (nI n0)), (2, .int 1)]) hx hb d_X_run_29 hl (by decide) rfl (fun ls hl => ?_)
      refine lv_iconst (v := 0) hx hb d_X_run_31 (by decide) ?_
      refine lv_istore (lv' := [(5, .int 0), (4, .int (nI pl)), (3, .int (nI n0)), (0, .ref x), (1, .int (nI n0)), (2, .int 1)]) hx hb d_X_run_32 hl (by decide) rfl (fun ls hl => ?_)
      have tail : ∀ (ls : Array Slot), lv_has ls 8 [(5, .int (nI m0)), (4, .int (nI (rac pl m0))), (3, .int (nI (rrc n0 pl m0))), (0, .ref x), (1, .int (nI n0)), (2, .int 1)] → W p l e (headSpec (WSY y_X_run b_X_run 8 (some .int)) ({ frames := 4, cells := 0, slots := 0, locals := 92 })).room s m ([.ref x, .int (nI n0), .int 1] : List Value).toArray below meth c s.heap [] 0 0 (MQ below (QM (some (.int (nI ((if 0 < rrc n0 pl m0 then m0 + 1 else m0))))) [(x, .inr (4, [.int (nI bi), .int (nI ne), .int (nI li), .int (nI sp), .int (nI q), .ref sw, .ref sr, .ref br, .ref bq, .int lb])), (sw, .inr (3, [.ref e0, .ref e1, .int (nI pl), .int (nI rw)])), (br, .inr (1, [.ref ra, .int (nI u)])), (ra, .inl (cB, 6000, .inl f))] [(x, .inr (4, [.int (nI bi), .int (nI ne), .int (nI li), .int (nI sp), .int (nI q), .ref sw, .ref sr, .ref br, .ref bq, .int lb])), (sw, .inr (3, [.ref e0, .ref e1, .int (nI (rac pl m0)), .int (nI (wdt (rac pl m0)))])), (br, .inr (1, [.ref ra, .int (nI (u + (if 0 < rrc n0 pl m0 then m0 + 1 else m0)))])), (ra, .inl (cB, 6000, .inl (fil f 1 u (if 0 < rrc n0 pl m0 then m0 + 1 else m0))))] D) ([.ref x, .int (nI n0), .int 1] : List Value).toArray s 0 0 (ad [(x, .inr (4, [.int (nI bi), .int (nI ne), .int (nI li), .int (nI sp), .int (nI q), .ref sw, .ref sr, .ref br, .ref bq, .int lb])), (sw, .inr (3, [.ref e0, .ref e1, .int (nI pl), .int (nI rw)])), (br, .inr (1, [.ref ra, .int (nI u)])), (ra, .inl (cB, 6000, .inl f))])) (F0 m 75 ls []) := by
        intro ls hl
        refine lv_iload hx hb d_X_run_75 (lv_at hl 1 rfl) ?_
        have hPc := hP.sub (ws' := []) [] rfl
        have hKc := hK.sub (tys' := []) [] rfl
        refine pci (va_runS (As := [.int (nI (rac pl m0))]) (rest := []) ⟨hx, hb, hml, hown, hg⟩ (c_X_widthOf l D tw (rac pl m0) (rac_lt hpl m0)) (va_cwS 1 hg (gS gw_319 gw_320 gw_1 gw_321) rfl rfl rfl (by decide +kernel) ⟨Nat.le_of_ble_eq_true rfl, Nat.le_of_ble_eq_true rfl⟩) ⟨fun a U g mk q => by obtain ⟨q0, qP, qK, qX⟩ := q; exact ⟨q0, qP, va_K.moved (u := U) (U := U.calling g mk a) (Vm.Alike.refl U.vm) qK, qX.blind⟩, fun U hU hW => ⟨rfl, by rw [hU]; exact hPc, va_K.moved hW.alike hKc, hE.call hS noF hU hW⟩⟩ rfl rfl hl.1 rfl (lv_room (Nat.le_of_ble_eq_true rfl)) d_X_run_77 (⟨Nat.le_of_ble_eq_true rfl, Nat.le_of_ble_eq_true rfl⟩)) ?_
        refine lv_istore (lv' := [(6, .int (nI (wdt (rac pl m0)))), (5, .int (nI m0)), (4, .int (nI (rac pl m0))), (3, .int (nI (rrc n0 pl m0))), (0, .ref x), (1, .int (nI n0)), (2, .int 1)]) hx hb d_X_run_80 hl (by decide) rfl (fun ls hl => ?_)
        refine lv_iload_n hx hb d_X_run_82 rfl (lv_at hl 6 rfl) ?_
        refine lv_if_eq (tgt := 93) hx hb d_X_run_83 (by decide) (fun c_3 => ?_) (fun c_3 => ?_)
        · skip
          exact absurd c_3 (by decide)
        · skip
          refine lv_iload_n hx hb d_X_run_86 rfl (lv_at hl 3 rfl) ?_
          refine lv_if_le (tgt := 93) hx hb d_X_run_87 (by decide) (fun c_4 => ?_) (fun c_4 => ?_)
          · skip
            have hr0 : ¬ 0 < rrc n0 pl m0 := fun q9 => nI_nle q9 (by omega) c_4
            have hln : (if 0 < rrc n0 pl m0 then m0 + 1 else m0) = m0 := if_neg hr0
            refine lv_iload_n hx hb d_X_run_93 rfl (lv_at hl 6 rfl) ?_
            refine lv_if_eq (tgt := 102) hx hb d_X_run_94 (by decide) (fun c_5 => ?_) (fun c_5 => ?_)
            · skip
              exact absurd c_5 (by decide)
            · skip
              refine lv_iload hx hb d_X_run_97 (lv_at hl 1 rfl) ?_
              refine lv_goto (tgt := 109) hx hb d_X_run_99 (by decide) ?_
              refine tpi (y := nI ((if 0 < rrc n0 pl m0 then m0 + 1 else m0))) (by rw [hln]) ?_
              refine lv_istore (lv' := [(7, .int (nI ((if 0 < rrc n0 pl m0 then m0 + 1 else m0)))), (6, .int (nI (wdt (rac pl m0)))), (5, .int (nI m0)), (4, .int (nI (rac pl m0))), (3, .int (nI (rrc n0 pl m0))), (0, .ref x), (1, .int (nI n0)), (2, .int 1)]) hx hb d_X_run_109 hl (by decide) rfl (fun ls hl => ?_)
              refine lv_aload_n hx hb d_X_run_111 rfl (lv_at hl 5 rfl) ?_
              refine va_get (D := D) (ci := 4) (v := .ref br) (C := R_X) (T := T_X) (N := 10) hx hb hg in_X hown hK hP 0 rfl rfl 7 (by decide) (hg _ gw_123) (fun _ h9 => h9) rfl d_X_run_112 ?_
              refine lv_iload hx hb d_X_run_115 (lv_at hl 0 rfl) ?_
              have hPc := hP.sub (ws' := [(br, .inr (1, [.ref ra, .int (nI u)])), (ra, .inl (cB, 6000, .inl f))]) [2, 3] rfl
              have hKc := hK.sub (tys' := [(cB, .byte)]) [0] rfl
              refine pci (va_runV (As := [.int (nI ((if 0 < rrc n0 pl m0 then m0 + 1 else m0)))]) (rest := []) ⟨hx, hb, hml, hown, hg⟩ (c_B_hasRoom l D br ra cB u f ((if 0 < rrc n0 pl m0 then m0 + 1 else m0)) (by omega) (by omega)) (cwV 1 hg (gV gw_277 gw_278 gw_279 gw_2 gw_280) rfl rfl rfl (by decide +kernel) ⟨Nat.le_of_ble_eq_true rfl, Nat.le_of_ble_eq_true rfl⟩) ⟨fun a U g mk q => by obtain ⟨q0, qP, qK⟩ := q; exact ⟨q0, qP, va_K.moved (u := U) (U := U.calling g mk a) (Vm.Alike.refl U.vm) qK⟩, va_recv hKc hPc (ci := 1) (q0 := 0) rfl rfl, fun U hU hW => ⟨rfl, by rw [hU]; exact hPc, va_K.moved hW.alike hKc⟩⟩ rfl rfl hl.1 rfl (lv_room (Nat.le_of_ble_eq_true rfl)) d_X_run_117 (⟨Nat.le_of_ble_eq_true rfl, Nat.le_of_ble_eq_true rfl⟩)) ?_
              refine tpi (y := 1) (if_pos hu) ?_
              refine lv_if_ne (tgt := 133) hx hb d_X_run_120 (by decide) (fun c_6 => ?_) (fun c_6 => ?_)
              · skip
                refine lv_aload_n hx hb d_X_run_133 rfl (lv_at hl 5 rfl) ?_
                refine va_get (D := D) (ci := 4) (v := .ref br) (C := R_X) (T := T_X) (N := 10) hx hb hg in_X hown hK hP 0 rfl rfl 7 (by decide) (hg _ gw_123) (fun _ h9 => h9) rfl d_X_run_134 ?_
                refine lv_iconst (v := 1) hx hb d_X_run_137 (by decide) ?_
                refine lv_iload hx hb d_X_run_138 (lv_at hl 2 rfl) ?_
                have hPc := hP.sub (ws' := [(br, .inr (1, [.ref ra, .int (nI u)])), (ra, .inl (cB, 6000, .inl f))]) [2, 3] rfl
                have hDc := hD.sub (ws' := [(br, .inr (1, [.ref ra, .int (nI u)])), (ra, .inl (cB, 6000, .inl f))]) [2, 3] (by decide) rfl
                have hKc := hK.sub (tys' := [(cB, .byte)]) [0] rfl
                refine mcv (va_runV (As := [.int 1, .int (nI m0)]) (rest := []) ⟨hx, hb, hml, hown, hg⟩ (c_B_putSame l D br ra cB u f 1 m0 (Or.inr rfl) (by omega)) (cwV 2 hg (gV gw_301 gw_302 gw_303 gw_2 gw_304) rfl rfl rfl (by decide +kernel) ⟨Nat.le_of_ble_eq_true rfl, Nat.le_of_ble_eq_true rfl⟩) ⟨fun a U g mk q => by obtain ⟨q0, qP, qK, qD⟩ := q; exact ⟨q0, qP, va_K.moved (u := U) (U := U.calling g mk a) (Vm.Alike.refl U.vm) qK, qD⟩, va_recv hKc hPc (ci := 1) (q0 := 0) rfl rfl, fun U hU hW => ⟨rfl, by rw [hU]; exact hPc, va_K.moved hW.alike hKc, hDc.weaken (fun _ _ _ _ => trivial)⟩⟩ rfl rfl hl.1 rfl (lv_room (Nat.le_of_ble_eq_true rfl)) d_X_run_140 (⟨Nat.le_of_ble_eq_true rfl, Nat.le_of_ble_eq_true rfl⟩)) hS hP hD [2, 3] rfl rfl rfl (fun H locs hP hD hS => ?_)
                have hP : va_P D CLS [(x, .inr (4, [.int (nI bi), .int (nI ne), .int (nI li), .int (nI sp), .int (nI q), .ref sw, .ref sr, .ref br, .ref bq, .int lb])), (sw, .inr (3, [.ref e0, .ref e1, .int (nI pl), .int (nI rw)])), (br, .inr (1, [.ref ra, .int (nI (u + m0))])), (ra, .inl (cB, 6000, .inl (fil f 1 u m0)))] H := hP
                have hD : va_D A [(x, .inr (4, [.int (nI bi), .int (nI ne), .int (nI li), .int (nI sp), .int (nI q), .ref sw, .ref sr, .ref br, .ref bq, .int lb])), (sw, .inr (3, [.ref e0, .ref e1, .int (nI pl), .int (nI rw)])), (br, .inr (1, [.ref ra, .int (nI (u + m0))])), (ra, .inl (cB, 6000, .inl (fil f 1 u m0)))] := hD
                refine lv_iload_n hx hb d_X_run_143 rfl (lv_at hl 7 rfl) ?_
                refine lv_if_ne (tgt := 166) hx hb d_X_run_144 (by decide) (fun c_7 => ?_) (fun c_7 => ?_)
                · skip
                  refine lv_aload_n hx hb d_X_run_166 rfl (lv_at hl 5 rfl) ?_
                  refine va_get (D := D) (ci := 4) (v := .ref sw) (C := R_X) (T := T_X) (N := 10) hx hb hg in_X hown hK hP 0 rfl rfl 5 (by decide) (hg _ gw_121) (fun _ h9 => h9) rfl d_X_run_167 ?_
                  refine lv_iload hx hb d_X_run_170 (lv_at hl 3 rfl) ?_
                  refine lv_iload_n hx hb d_X_run_172 rfl (lv_at hl 7 rfl) ?_
                  refine lv_if_ne (tgt := 180) hx hb d_X_run_173 (by decide) (fun c_8 => ?_) (fun c_8 => ?_)
                  · skip
                    refine lv_iconst (v := 0) hx hb d_X_run_180 (by decide) ?_
                    have hPc := hP.sub (ws' := [(sw, .inr (3, [.ref e0, .ref e1, .int (nI pl), .int (nI rw)]))]) [1] rfl
                    have hDc := hD.sub (ws' := [(sw, .inr (3, [.ref e0, .ref e1, .int (nI pl), .int (nI rw)]))]) [1] (by decide) rfl
                    have hKc := hK.sub (tys' := []) [] rfl
                    refine mcv (va_runV (As := [.int (nI (rac pl m0)), .int 0]) (rest := []) ⟨hx, hb, hml, hown, hg⟩ (c_S_endRun0 l D sw e0 e1 pl rw tw (rac pl m0) (rac_lt hpl m0)) (cwV 2 hg (gV gw_327 gw_328 gw_329 gw_5 gw_330) rfl rfl rfl (by decide +kernel) ⟨Nat.le_of_ble_eq_true rfl, Nat.le_of_ble_eq_true rfl⟩) ⟨fun a U g mk q => by obtain ⟨q0, qP, qK, qD, qX⟩ := q; exact ⟨q0, qP, va_K.moved (u := U) (U := U.calling g mk a) (Vm.Alike.refl U.vm) qK, qD, qX.blind⟩, va_recv hKc hPc (ci := 3) (q0 := 0) rfl rfl, fun U hU hW => ⟨rfl, by rw [hU]; exact hPc, va_K.moved hW.alike hKc, hDc.weaken (fun _ _ _ _ => trivial), hE.call hS (ad_sub hD [1] rfl) hU hW⟩⟩ rfl rfl hl.1 rfl (lv_room (Nat.le_of_ble_eq_true rfl)) d_X_run_181 (⟨Nat.le_of_ble_eq_true rfl, Nat.le_of_ble_eq_true rfl⟩)) hS hP hD [1] rfl rfl rfl (fun H locs hP hD hS => ?_)
                    have hP : va_P D CLS [(x, .inr (4, [.int (nI bi), .int (nI ne), .int (nI li), .int (nI sp), .int (nI q), .ref sw, .ref sr, .ref br, .ref bq, .int lb])), (sw, .inr (3, [.ref e0, .ref e1, .int (nI (rac pl m0)), .int (nI (wdt (rac pl m0)))])), (br, .inr (1, [.ref ra, .int (nI (u + m0))])), (ra, .inl (cB, 6000, .inl (fil f 1 u m0)))] H := hP
                    have hD : va_D A [(x, .inr (4, [.int (nI bi), .int (nI ne), .int (nI li), .int (nI sp), .int (nI q), .ref sw, .ref sr, .ref br, .ref bq, .int lb])), (sw, .inr (3, [.ref e0, .ref e1, .int (nI (rac pl m0)), .int (nI (wdt (rac pl m0)))])), (br, .inr (1, [.ref ra, .int (nI (u + m0))])), (ra, .inl (cB, 6000, .inl (fil f 1 u m0)))] := hD
                    refine lv_iload hx hb d_X_run_184 (lv_at hl 0 rfl) ?_
                    exact W.iret (v := nI ((if 0 < rrc n0 pl m0 then m0 + 1 else m0))) hx hb hr (fun t ht hW => ⟨rfl, by rw [ht]; exact (by rw [hln]; exact hP), (hAe ▸ hS).F ht⟩) (hAe ▸ hS).2.2 d_X_run_186
                  · skip
                    exact absurd c_8 (by decide)
                · skip
                  exact absurd c_7 (by decide)
              · skip
                exact absurd c_6 (by decide)
          · skip
            have hr0 : 0 < rrc n0 pl m0 := Nat.pos_of_ne_zero (fun q9 => c_4 (by rw [q9]; decide))
            have hln : (if 0 < rrc n0 pl m0 then m0 + 1 else m0) = m0 + 1 := if_pos hr0
            refine lv_iinc (v := nI (m0 + 1)) (lv' := [(5, .int (nI (m0 + 1))), (6, .int (nI (wdt (rac pl m0)))), (4, .int (nI (rac pl m0))), (3, .int (nI (rrc n0 pl m0))), (0, .ref x), (1, .int (nI n0)), (2, .int 1)]) hx hb d_X_run_90 hl (k := 1) rfl (nI_1 m0) (by decide) rfl (fun ls hl => ?_)
            refine lv_iload_n hx hb d_X_run_93 rfl (lv_at hl 6 rfl) ?_
            refine lv_if_eq (tgt := 102) hx hb d_X_run_94 (by decide) (fun c_9 => ?_) (fun c_9 => ?_)
            · skip
              exact absurd c_9 (by decide)
            · skip
              refine lv_iload hx hb d_X_run_97 (lv_at hl 0 rfl) ?_
              refine lv_goto (tgt := 109) hx hb d_X_run_99 (by decide) ?_
              refine tpi (y := nI ((if 0 < rrc n0 pl m0 then m0 + 1 else m0))) (by rw [hln]) ?_
              refine lv_istore (lv' := [(7, .int (nI ((if 0 < rrc n0 pl m0 then m0 + 1 else m0)))), (5, .int (nI (m0 + 1))), (6, .int (nI (wdt (rac pl m0)))), (4, .int (nI (rac pl m0))), (3, .int (nI (rrc n0 pl m0))), (0, .ref x), (1, .int (nI n0)), (2, .int 1)]) hx hb d_X_run_109 hl (by decide) rfl (fun ls hl => ?_)
              refine lv_aload_n hx hb d_X_run_111 rfl (lv_at hl 5 rfl) ?_
              refine va_get (D := D) (ci := 4) (v := .ref br) (C := R_X) (T := T_X) (N := 10) hx hb hg in_X hown hK hP 0 rfl rfl 7 (by decide) (hg _ gw_123) (fun _ h9 => h9) rfl d_X_run_112 ?_
              refine lv_iload hx hb d_X_run_115 (lv_at hl 0 rfl) ?_
              have hPc := hP.sub (ws' := [(br, .inr (1, [.ref ra, .int (nI u)])), (ra, .inl (cB, 6000, .inl f))]) [2, 3] rfl
              have hKc := hK.sub (tys' := [(cB, .byte)]) [0] rfl
              refine pci (va_runV (As := [.int (nI ((if 0 < rrc n0 pl m0 then m0 + 1 else m0)))]) (rest := []) ⟨hx, hb, hml, hown, hg⟩ (c_B_hasRoom l D br ra cB u f ((if 0 < rrc n0 pl m0 then m0 + 1 else m0)) (by omega) (by omega)) (cwV 1 hg (gV gw_277 gw_278 gw_279 gw_2 gw_280) rfl rfl rfl (by decide +kernel) ⟨Nat.le_of_ble_eq_true rfl, Nat.le_of_ble_eq_true rfl⟩) ⟨fun a U g mk q => by obtain ⟨q0, qP, qK⟩ := q; exact ⟨q0, qP, va_K.moved (u := U) (U := U.calling g mk a) (Vm.Alike.refl U.vm) qK⟩, va_recv hKc hPc (ci := 1) (q0 := 0) rfl rfl, fun U hU hW => ⟨rfl, by rw [hU]; exact hPc, va_K.moved hW.alike hKc⟩⟩ rfl rfl hl.1 rfl (lv_room (Nat.le_of_ble_eq_true rfl)) d_X_run_117 (⟨Nat.le_of_ble_eq_true rfl, Nat.le_of_ble_eq_true rfl⟩)) ?_
              refine tpi (y := 1) (if_pos hu) ?_
              refine lv_if_ne (tgt := 133) hx hb d_X_run_120 (by decide) (fun c_10 => ?_) (fun c_10 => ?_)
              · skip
                refine lv_aload_n hx hb d_X_run_133 rfl (lv_at hl 5 rfl) ?_
                refine va_get (D := D) (ci := 4) (v := .ref br) (C := R_X) (T := T_X) (N := 10) hx hb hg in_X hown hK hP 0 rfl rfl 7 (by decide) (hg _ gw_123) (fun _ h9 => h9) rfl d_X_run_134 ?_
                refine lv_iconst (v := 1) hx hb d_X_run_137 (by decide) ?_
                refine lv_iload hx hb d_X_run_138 (lv_at hl 1 rfl) ?_
                have hPc := hP.sub (ws' := [(br, .inr (1, [.ref ra, .int (nI u)])), (ra, .inl (cB, 6000, .inl f))]) [2, 3] rfl
                have hDc := hD.sub (ws' := [(br, .inr (1, [.ref ra, .int (nI u)])), (ra, .inl (cB, 6000, .inl f))]) [2, 3] (by decide) rfl
                have hKc := hK.sub (tys' := [(cB, .byte)]) [0] rfl
                refine mcv (va_runV (As := [.int 1, .int (nI (m0 + 1))]) (rest := []) ⟨hx, hb, hml, hown, hg⟩ (c_B_putSame l D br ra cB u f 1 (m0 + 1) (Or.inr rfl) (by omega)) (cwV 2 hg (gV gw_301 gw_302 gw_303 gw_2 gw_304) rfl rfl rfl (by decide +kernel) ⟨Nat.le_of_ble_eq_true rfl, Nat.le_of_ble_eq_true rfl⟩) ⟨fun a U g mk q => by obtain ⟨q0, qP, qK, qD⟩ := q; exact ⟨q0, qP, va_K.moved (u := U) (U := U.calling g mk a) (Vm.Alike.refl U.vm) qK, qD⟩, va_recv hKc hPc (ci := 1) (q0 := 0) rfl rfl, fun U hU hW => ⟨rfl, by rw [hU]; exact hPc, va_K.moved hW.alike hKc, hDc.weaken (fun _ _ _ _ => trivial)⟩⟩ rfl rfl hl.1 rfl (lv_room (Nat.le_of_ble_eq_true rfl)) d_X_run_140 (⟨Nat.le_of_ble_eq_true rfl, Nat.le_of_ble_eq_true rfl⟩)) hS hP hD [2, 3] rfl rfl rfl (fun H locs hP hD hS => ?_)
                have hP : va_P D CLS [(x, .inr (4, [.int (nI bi), .int (nI ne), .int (nI li), .int (nI sp), .int (nI q), .ref sw, .ref sr, .ref br, .ref bq, .int lb])), (sw, .inr (3, [.ref e0, .ref e1, .int (nI pl), .int (nI rw)])), (br, .inr (1, [.ref ra, .int (nI (u + (m0 + 1)))])), (ra, .inl (cB, 6000, .inl (fil f 1 u (m0 + 1))))] H := hP
                have hD : va_D A [(x, .inr (4, [.int (nI bi), .int (nI ne), .int (nI li), .int (nI sp), .int (nI q), .ref sw, .ref sr, .ref br, .ref bq, .int lb])), (sw, .inr (3, [.ref e0, .ref e1, .int (nI pl), .int (nI rw)])), (br, .inr (1, [.ref ra, .int (nI (u + (m0 + 1)))])), (ra, .inl (cB, 6000, .inl (fil f 1 u (m0 + 1))))] := hD
                refine lv_iload_n hx hb d_X_run_143 rfl (lv_at hl 7 rfl) ?_
                refine lv_if_ne (tgt := 166) hx hb d_X_run_144 (by decide) (fun c_11 => ?_) (fun c_11 => ?_)
                · skip
                  refine lv_aload_n hx hb d_X_run_166 rfl (lv_at hl 5 rfl) ?_
                  refine va_get (D := D) (ci := 4) (v := .ref sw) (C := R_X) (T := T_X) (N := 10) hx hb hg in_X hown hK hP 0 rfl rfl 5 (by decide) (hg _ gw_121) (fun _ h9 => h9) rfl d_X_run_167 ?_
                  refine lv_iload hx hb d_X_run_170 (lv_at hl 3 rfl) ?_
                  refine lv_iload_n hx hb d_X_run_172 rfl (lv_at hl 7 rfl) ?_
                  refine lv_if_ne (tgt := 180) hx hb d_X_run_173 (by decide) (fun c_12 => ?_) (fun c_12 => ?_)
                  · skip
                    refine lv_iconst (v := 0) hx hb d_X_run_180 (by decide) ?_
                    have hPc := hP.sub (ws' := [(sw, .inr (3, [.ref e0, .ref e1, .int (nI pl), .int (nI rw)]))]) [1] rfl
                    have hDc := hD.sub (ws' := [(sw, .inr (3, [.ref e0, .ref e1, .int (nI pl), .int (nI rw)]))]) [1] (by decide) rfl
                    have hKc := hK.sub (tys' := []) [] rfl
                    refine mcv (va_runV (As := [.int (nI (rac pl m0)), .int 0]) (rest := []) ⟨hx, hb, hml, hown, hg⟩ (c_S_endRun0 l D sw e0 e1 pl rw tw (rac pl m0) (rac_lt hpl m0)) (cwV 2 hg (gV gw_327 gw_328 gw_329 gw_5 gw_330) rfl rfl rfl (by decide +kernel) ⟨Nat.le_of_ble_eq_true rfl, Nat.le_of_ble_eq_true rfl⟩) ⟨fun a U g mk q => by obtain ⟨q0, qP, qK, qD, qX⟩ := q; exact ⟨q0, qP, va_K.moved (u := U) (U := U.calling g mk a) (Vm.Alike.refl U.vm) qK, qD, qX.blind⟩, va_recv hKc hPc (ci := 3) (q0 := 0) rfl rfl, fun U hU hW => ⟨rfl, by rw [hU]; exact hPc, va_K.moved hW.alike hKc, hDc.weaken (fun _ _ _ _ => trivial), hE.call hS (ad_sub hD [1] rfl) hU hW⟩⟩ rfl rfl hl.1 rfl (lv_room (Nat.le_of_ble_eq_true rfl)) d_X_run_181 (⟨Nat.le_of_ble_eq_true rfl, Nat.le_of_ble_eq_true rfl⟩)) hS hP hD [1] rfl rfl rfl (fun H locs hP hD hS => ?_)
                    have hP : va_P D CLS [(x, .inr (4, [.int (nI bi), .int (nI ne), .int (nI li), .int (nI sp), .int (nI q), .ref sw, .ref sr, .ref br, .ref bq, .int lb])), (sw, .inr (3, [.ref e0, .ref e1, .int (nI (rac pl m0)), .int (nI (wdt (rac pl m0)))])), (br, .inr (1, [.ref ra, .int (nI (u + (m0 + 1)))])), (ra, .inl (cB, 6000, .inl (fil f 1 u (m0 + 1))))] H := hP
                    have hD : va_D A [(x, .inr (4, [.int (nI bi), .int (nI ne), .int (nI li), .int (nI sp), .int (nI q), .ref sw, .ref sr, .ref br, .ref bq, .int lb])), (sw, .inr (3, [.ref e0, .ref e1, .int (nI (rac pl m0)), .int (nI (wdt (rac pl m0)))])), (br, .inr (1, [.ref ra, .int (nI (u + (m0 + 1)))])), (ra, .inl (cB, 6000, .inl (fil f 1 u (m0 + 1))))] := hD
                    refine lv_iload hx hb d_X_run_184 (lv_at hl 0 rfl) ?_
                    exact W.iret (v := nI ((if 0 < rrc n0 pl m0 then m0 + 1 else m0))) hx hb hr (fun t ht hW => ⟨rfl, by rw [ht]; exact (by rw [hln]; exact hP), (hAe ▸ hS).F ht⟩) (hAe ▸ hS).2.2 d_X_run_186
                  · skip
                    exact absurd c_12 (by decide)
                · skip
                  exact absurd c_11 (by decide)
              · skip
                exact absurd c_10 (by decide)
      have loop : ∀ (d j : Nat), j + d = m0 → ∀ (ls : Array Slot), lv_has ls 8 [(5, .int (nI j)), (4, .int (nI (rac pl j))), (3, .int (nI (rrc n0 pl j))), (0, .ref x), (1, .int (nI n0)), (2, .int 1)] → W p l e (headSpec (WSY y_X_run b_X_run 8 (some .int)) ({ frames := 4, cells := 0, slots := 0, locals := 92 })).room s m ([.ref x, .int (nI n0), .int 1] : List Value).toArray below meth c s.heap [] 0 0 (MQ below (QM (some (.int (nI ((if 0 < rrc n0 pl m0 then m0 + 1 else m0))))) [(x, .inr (4, [.int (nI bi), .int (nI ne), .int (nI li), .int (nI sp), .int (nI q), .ref sw, .ref sr, .ref br, .ref bq, .int lb])), (sw, .inr (3, [.ref e0, .ref e1, .int (nI pl), .int (nI rw)])), (br, .inr (1, [.ref ra, .int (nI u)])), (ra, .inl (cB, 6000, .inl f))] [(x, .inr (4, [.int (nI bi), .int (nI ne), .int (nI li), .int (nI sp), .int (nI q), .ref sw, .ref sr, .ref br, .ref bq, .int lb])), (sw, .inr (3, [.ref e0, .ref e1, .int (nI (rac pl m0)), .int (nI (wdt (rac pl m0)))])), (br, .inr (1, [.ref ra, .int (nI (u + (if 0 < rrc n0 pl m0 then m0 + 1 else m0)))])), (ra, .inl (cB, 6000, .inl (fil f 1 u (if 0 < rrc n0 pl m0 then m0 + 1 else m0))))] D) ([.ref x, .int (nI n0), .int 1] : List Value).toArray s 0 0 (ad [(x, .inr (4, [.int (nI bi), .int (nI ne), .int (nI li), .int (nI sp), .int (nI q), .ref sw, .ref sr, .ref br, .ref bq, .int lb])), (sw, .inr (3, [.ref e0, .ref e1, .int (nI pl), .int (nI rw)])), (br, .inr (1, [.ref ra, .int (nI u)])), (ra, .inl (cB, 6000, .inl f))])) (F0 m 34 ls []) := by
        intro d
        induction d with
        | zero =>
          intro j hj ls hl
          obtain rfl : j = m0 := by omega
          have hwj := wdt_le (rac pl j) (rac_lt hpl j)
          have hpj := pw15 hwj
          have hrj := rrc_le n0 pl j
          refine lv_iload hx hb d_X_run_34 (lv_at hl 0 rfl) ?_
          refine lv_ldc (v := 65535) hx hb hown (hg _ gw_317) d_X_run_36 ?_
          refine lv_icmp_ge (tgt := 75) hx hb d_X_run_38 (by decide) (fun c_13 => ?_) (fun c_13 => ?_)
          · skip
            exact absurd ((nI_leI (a := 65535) (by omega) (by omega)).mp c_13) (by omega)
          · skip
            refine lv_iload_n hx hb d_X_run_41 rfl (lv_at hl 2 rfl) ?_
            refine lv_iconst (v := 1) hx hb d_X_run_42 (by decide) ?_
            refine lv_iload hx hb d_X_run_43 (lv_at hl 1 rfl) ?_
            have hPc := hP.sub (ws' := []) [] rfl
            have hKc := hK.sub (tys' := []) [] rfl
            refine pci (va_runS (As := [.int (nI (rac pl j))]) (rest := [.int 1, .int (nI (rrc n0 pl j))]) ⟨hx, hb, hml, hown, hg⟩ (c_X_widthOf l D tw (rac pl j) (rac_lt hpl j)) (va_cwS 1 hg (gS gw_319 gw_320 gw_1 gw_321) rfl rfl rfl (by decide +kernel) ⟨Nat.le_of_ble_eq_true rfl, Nat.le_of_ble_eq_true rfl⟩) ⟨fun a U g mk q => by obtain ⟨q0, qP, qK, qX⟩ := q; exact ⟨q0, qP, va_K.moved (u := U) (U := U.calling g mk a) (Vm.Alike.refl U.vm) qK, qX.blind⟩, fun U hU hW => ⟨rfl, by rw [hU]; exact hPc, va_K.moved hW.alike hKc, hE.call hS noF hU hW⟩⟩ rfl rfl hl.1 rfl (lv_room (Nat.le_of_ble_eq_true rfl)) d_X_run_45 (⟨Nat.le_of_ble_eq_true rfl, Nat.le_of_ble_eq_true rfl⟩)) ?_
            refine lv_ishl hx hb d_X_run_48 ?_
            refine tpi (y := nI (2 ^ wdt (rac pl j))) (sh1 (by omega)) ?_
            refine lv_icmp_lt (tgt := 75) hx hb d_X_run_49 (by decide) (fun c_14 => ?_) (fun c_14 => ?_)
            · skip
              exact tail ls (lv_sub hl [0, 1, 2, 3, 4, 5] rfl)
            · skip
              exact absurd ((nI_ltI (by omega) (by omega)).mpr hm2) c_14
        | succ d ih =>
          intro j hj ls hl
          have hwj := wdt_le (rac pl j) (rac_lt hpl j)
          have hpj := pw15 hwj
          have hrj := rrc_le n0 pl j
          refine lv_iload hx hb d_X_run_34 (lv_at hl 0 rfl) ?_
          refine lv_ldc (v := 65535) hx hb hown (hg _ gw_317) d_X_run_36 ?_
          refine lv_icmp_ge (tgt := 75) hx hb d_X_run_38 (by decide) (fun c_15 => ?_) (fun c_15 => ?_)
          · skip
            exact absurd ((nI_leI (a := 65535) (by omega) (by omega)).mp c_15) (by omega)
          · skip
            refine lv_iload_n hx hb d_X_run_41 rfl (lv_at hl 2 rfl) ?_
            refine lv_iconst (v := 1) hx hb d_X_run_42 (by decide) ?_
            refine lv_iload hx hb d_X_run_43 (lv_at hl 1 rfl) ?_
            have hPc := hP.sub (ws' := []) [] rfl
            have hKc := hK.sub (tys' := []) [] rfl
            refine pci (va_runS (As := [.int (nI (rac pl j))]) (rest := [.int 1, .int (nI (rrc n0 pl j))]) ⟨hx, hb, hml, hown, hg⟩ (c_X_widthOf l D tw (rac pl j) (rac_lt hpl j)) (va_cwS 1 hg (gS gw_319 gw_320 gw_1 gw_321) rfl rfl rfl (by decide +kernel) ⟨Nat.le_of_ble_eq_true rfl, Nat.le_of_ble_eq_true rfl⟩) ⟨fun a U g mk q => by obtain ⟨q0, qP, qK, qX⟩ := q; exact ⟨q0, qP, va_K.moved (u := U) (U := U.calling g mk a) (Vm.Alike.refl U.vm) qK, qX.blind⟩, fun U hU hW => ⟨rfl, by rw [hU]; exact hPc, va_K.moved hW.alike hKc, hE.call hS noF hU hW⟩⟩ rfl rfl hl.1 rfl (lv_room (Nat.le_of_ble_eq_true rfl)) d_X_run_45 (⟨Nat.le_of_ble_eq_true rfl, Nat.le_of_ble_eq_true rfl⟩)) ?_
            refine lv_ishl hx hb d_X_run_48 ?_
            refine tpi (y := nI (2 ^ wdt (rac pl j))) (sh1 (by omega)) ?_
            refine lv_icmp_lt (tgt := 75) hx hb d_X_run_49 (by decide) (fun c_16 => ?_) (fun c_16 => ?_)
            · skip
              exact absurd ((nI_ltI (by omega) (by omega)).mp c_16) (by have := hm1 j (by omega); omega)
            · skip
              refine lv_iload_n hx hb d_X_run_52 rfl (lv_at hl 2 rfl) ?_
              refine lv_iconst (v := 1) hx hb d_X_run_53 (by decide) ?_
              refine lv_iload hx hb d_X_run_54 (lv_at hl 1 rfl) ?_
              have hPc := hP.sub (ws' := []) [] rfl
              have hKc := hK.sub (tys' := []) [] rfl
              refine pci (va_runS (As := [.int (nI (rac pl j))]) (rest := [.int 1, .int (nI (rrc n0 pl j))]) ⟨hx, hb, hml, hown, hg⟩ (c_X_widthOf l D tw (rac pl j) (rac_lt hpl j)) (va_cwS 1 hg (gS gw_319 gw_320 gw_1 gw_321) rfl rfl rfl (by decide +kernel) ⟨Nat.le_of_ble_eq_true rfl, Nat.le_of_ble_eq_true rfl⟩) ⟨fun a U g mk q => by obtain ⟨q0, qP, qK, qX⟩ := q; exact ⟨q0, qP, va_K.moved (u := U) (U := U.calling g mk a) (Vm.Alike.refl U.vm) qK, qX.blind⟩, fun U hU hW => ⟨rfl, by rw [hU]; exact hPc, va_K.moved hW.alike hKc, hE.call hS noF hU hW⟩⟩ rfl rfl hl.1 rfl (lv_room (Nat.le_of_ble_eq_true rfl)) d_X_run_56 (⟨Nat.le_of_ble_eq_true rfl, Nat.le_of_ble_eq_true rfl⟩)) ?_
              refine lv_ishl hx hb d_X_run_59 ?_
              refine tpi (y := nI (2 ^ wdt (rac pl j))) (sh1 (by omega)) ?_
              refine lv_isub hx hb d_X_run_60 ?_
              refine tpi (y := nI (rrc n0 pl (j + 1))) (pk_sub (hm1 j (by omega))) ?_
              refine lv_istore_n (lv' := [(3, .int (nI (rrc n0 pl (j + 1)))), (5, .int (nI j)), (4, .int (nI (rac pl j))), (0, .ref x), (1, .int (nI n0)), (2, .int 1)]) hx hb d_X_run_61 rfl hl (by decide) rfl (fun ls hl => ?_)
              refine lv_iload hx hb d_X_run_62 (lv_at hl 2 rfl) ?_
              have hPc := hP.sub (ws' := []) [] rfl
              have hKc := hK.sub (tys' := []) [] rfl
              refine pci (va_runS (As := [.int (nI (rac pl j))]) (rest := []) ⟨hx, hb, hml, hown, hg⟩ (c_X_stepAbove l D tw (rac pl j) (rac_lt hpl j)) (va_cwS 1 hg (gS gw_324 gw_325 gw_1 gw_326) rfl rfl rfl (by decide +kernel) ⟨Nat.le_of_ble_eq_true rfl, Nat.le_of_ble_eq_true rfl⟩) ⟨fun a U g mk q => by obtain ⟨q0, qP, qK, qX⟩ := q; exact ⟨q0, qP, va_K.moved (u := U) (U := U.calling g mk a) (Vm.Alike.refl U.vm) qK, qX.blind⟩, fun U hU hW => ⟨rfl, by rw [hU]; exact hPc, va_K.moved hW.alike hKc, hE.call hS noF hU hW⟩⟩ rfl rfl hl.1 rfl (lv_room (Nat.le_of_ble_eq_true rfl)) d_X_run_64 (⟨Nat.le_of_ble_eq_true rfl, Nat.le_of_ble_eq_true rfl⟩)) ?_
              refine lv_istore (lv' := [(4, .int (nI (rac pl (j + 1)))), (3, .int (nI (rrc n0 pl (j + 1)))), (5, .int (nI j)), (0, .ref x), (1, .int (nI n0)), (2, .int 1)]) hx hb d_X_run_67 hl (by decide) rfl (fun ls hl => ?_)
              refine lv_iinc (v := nI (j + 1)) (lv' := [(5, .int (nI (j + 1))), (4, .int (nI (rac pl (j + 1)))), (3, .int (nI (rrc n0 pl (j + 1)))), (0, .ref x), (1, .int (nI n0)), (2, .int 1)]) hx hb d_X_run_69 hl (k := 2) rfl (nI_1 j) (by decide) rfl (fun ls hl => ?_)
              refine lv_goto (tgt := 34) hx hb d_X_run_72 (by decide) ?_
              exact ih (j + 1) (by omega) ls (lv_sub hl [0, 1, 2, 3, 4, 5] rfl)
      exact loop m0 0 (by omega) ls hl
    · skip
      exact absurd (nI_le hn (by omega)) c_2
set_option maxHeartbeats 4000000 in
set_option maxRecDepth 100000 in
theorem c_X_interrupt0P (l : Launch) (D : va_G) (x sw sr br bq bi ne li sp q : Nat) (lb : Int32) (e0 e1 pl rw : Nat) (fs sm ct ng : Nat) (ra : Nat) (cB : ClassId) (u : Nat) (f : Nat → Int32) (tw n K M : Nat) (hc0 : ct ≤ 64) (hn0 : ng ≤ 64) (hs0 : sm < 2 ^ 29) (hKb : K ≤ 29) (hK1 : sm ≤ ct * 2 ^ K) (hK2 : ∀ j, j < K → ct * 2 ^ j < sm) (hsp : sp ≤ 65536) (hn : n ≤ sp / 2) (hM : M = 2 * n - 0 - (if ¬ n = 0 ∧ (K = 0 ∧ 2 * ng < ct) then 1 else 0)) (hq : q ≤ 29) (hli : q + 18 ≤ li) (hlb : li ≤ 200) (hrw : rw ≤ 15) (hu : u + nlen q K M (li - 1 - rw - q - 1) ≤ 6000) : Met l y_X_interrupt (WSY y_X_interrupt b_X_interrupt 8 (some .int)) ({ frames := 4, cells := 0, slots := 0, locals := 95 }) (va_Pc [.ref x, .int 0, .int (nI n)] (fun U => va_P D CLS [(x, .inr (4, [.int (nI bi), .int (nI ne), .int (nI li), .int (nI sp), .int (nI q), .ref sw, .ref sr, .ref br, .ref bq, .int lb])), (sw, .inr (3, [.ref e0, .ref e1, .int (nI pl), .int (nI rw)])), (e0, .inr (2, [.int 0, .int (nI fs), .int (nI sm), .int (nI ct), .int (nI ng)])), (br, .inr (1, [.ref ra, .int (nI u)])), (ra, .inl (cB, 6000, .inl f))] U.heap ∧ va_K D CLS [(cB, .byte)] U ∧ va_D (fun _ => True) [(x, .inr (4, [.int (nI bi), .int (nI ne), .int (nI li), .int (nI sp), .int (nI q), .ref sw, .ref sr, .ref br, .ref bq, .int lb])), (sw, .inr (3, [.ref e0, .ref e1, .int (nI pl), .int (nI rw)])), (e0, .inr (2, [.int 0, .int (nI fs), .int (nI sm), .int (nI ct), .int (nI ng)])), (br, .inr (1, [.ref ra, .int (nI u)])), (ra, .inl (cB, 6000, .inl f))] ∧ EV (ad [(x, .inr (4, [.int (nI bi), .int (nI ne), .int (nI li), .int (nI sp), .int (nI q), .ref sw, .ref sr, .ref br, .ref bq, .int lb])), (sw, .inr (3, [.ref e0, .ref e1, .int (nI pl), .int (nI rw)])), (e0, .inr (2, [.int 0, .int (nI fs), .int (nI sm), .int (nI ct), .int (nI ng)])), (br, .inr (1, [.ref ra, .int (nI u)])), (ra, .inl (cB, 6000, .inl f))]) tw U)) (QM (some (.int (nI (nlen q K M (li - 1 - rw - q - 1))))) [(x, .inr (4, [.int (nI bi), .int (nI ne), .int (nI li), .int (nI sp), .int (nI q), .ref sw, .ref sr, .ref br, .ref bq, .int lb])), (sw, .inr (3, [.ref e0, .ref e1, .int (nI pl), .int (nI rw)])), (e0, .inr (2, [.int 0, .int (nI fs), .int (nI sm), .int (nI ct), .int (nI ng)])), (br, .inr (1, [.ref ra, .int (nI u)])), (ra, .inl (cB, 6000, .inl f))] [(x, .inr (4, [.int (nI bi), .int (nI ne), .int (nI li), .int (nI sp), .int (nI q), .ref sw, .ref sr, .ref br, .ref bq, .int lb])), (sw, .inr (3, [.ref e0, .ref e1, .int (nI pl), .int (nI rw)])), (e0, .inr (2, [.int 0, .int (nI fs), .int (nI (hvd ct (sm + (M + 1 - 0) / 2))), .int (nI (hvd ct ct + 1)), .int (nI (hvd ct ng))])), (br, .inr (1, [.ref ra, .int (nI (u + nlen q K M (li - 1 - rw - q - 1)))])), (ra, .inl (cB, 6000, .inl (wnum f q K M (li - 1 - rw - q - 1) u)))] D) 0 0 (ad [(x, .inr (4, [.int (nI bi), .int (nI ne), .int (nI li), .int (nI sp), .int (nI q), .ref sw, .ref sr, .ref br, .ref bq, .int lb])), (sw, .inr (3, [.ref e0, .ref e1, .int (nI pl), .int (nI rw)])), (e0, .inr (2, [.int 0, .int (nI fs), .int (nI sm), .int (nI ct), .int (nI ng)])), (br, .inr (1, [.ref ra, .int (nI u)])), (ra, .inl (cB, 6000, .inl f))]) := by
  refine Met.ofW (cc := b_X_interrupt) (maxL := 8) (ret := (some .int)) (by decide) rfl ?_
  intro p e s m args below meth c s₁ B hml hv
  obtain ⟨rfl, hP, hK, hD0, hE⟩ := hv
  have hx := B.exec
  have hb := B.bytes
  have hr := B.returns
  have hts := atoms_spec (ws := WSY y_X_interrupt b_X_interrupt 8 (some .int)) B.pre
  have hg : ∀ w ∈ GW, w.before _ s = true := fun w h => hts w (List.mem_cons_of_mem _ h)
  have hown : s.vm.findClass "LineGolomb" = some m.cls := findClass_of_methodNamed B.named
  have hlocks := B.notSynchronized
  obtain ⟨A, hAe⟩ : ∃ A, A = ad [(x, .inr (4, [.int (nI bi), .int (nI ne), .int (nI li), .int (nI sp), .int (nI q), .ref sw, .ref sr, .ref br, .ref bq, .int lb])), (sw, .inr (3, [.ref e0, .ref e1, .int (nI pl), .int (nI rw)])), (e0, .inr (2, [.int 0, .int (nI fs), .int (nI sm), .int (nI ct), .int (nI ng)])), (br, .inr (1, [.ref ra, .int (nI u)])), (ra, .inl (cB, 6000, .inl f))] := ⟨_, rfl⟩
  have hD : va_D A [(x, .inr (4, [.int (nI bi), .int (nI ne), .int (nI li), .int (nI sp), .int (nI q), .ref sw, .ref sr, .ref br, .ref bq, .int lb])), (sw, .inr (3, [.ref e0, .ref e1, .int (nI pl), .int (nI rw)])), (e0, .inr (2, [.int 0, .int (nI fs), .int (nI sm), .int (nI ct), .int (nI ng)])), (br, .inr (1, [.ref ra, .int (nI u)])), (ra, .inl (cB, 6000, .inl f))] := by rw [hAe]; exact va_D_ad hD0
  have hS : va_S A s.heap s.heap [] := va_S.rf
  rw [← hAe] at hE
  have hl := lv_entry ([.ref x, .int 0, .int (nI n)]) (n := 8) (Nat.le_of_ble_eq_true rfl)
  rw [lg_entry_eq]
  generalize (lg_sl ([.ref x, .int 0, .int (nI n)]) ++ List.replicate (8 - (lg_sl ([.ref x, .int 0, .int (nI n)])).length) Slot.unset).toArray = ls at hl ⊢
  have hl : lv_has ls 8 [(0, .ref x), (1, .int 0), (2, .int (nI n))] := hl
  have hMb : M ≤ 2 * n := by rw [hM]; omega
  refine lv_iload_n hx hb d_X_interrupt_0 rfl (lv_at hl 1 rfl) ?_
  have hPc := hP.sub (ws' := []) [] rfl
  have hKc := hK.sub (tys' := []) [] rfl
  refine pci (va_runS (As := [.int 0]) (rest := []) ⟨hx, hb, hml, hown, hg⟩ (c_X_isKind l D 0) (va_cwS 1 hg (gS gw_343 gw_344 gw_1 gw_345) rfl rfl rfl (by decide +kernel) ⟨Nat.le_of_ble_eq_true rfl, Nat.le_of_ble_eq_true rfl⟩) ⟨fun a U g mk q => by obtain ⟨q0, qP, qK⟩ := q; exact ⟨q0, qP, va_K.moved (u := U) (U := U.calling g mk a) (Vm.Alike.refl U.vm) qK⟩, fun U hU hW => ⟨rfl, by rw [hU]; exact hPc, va_K.moved hW.alike hKc⟩⟩ rfl rfl hl.1 rfl (lv_room (Nat.le_of_ble_eq_true rfl)) d_X_interrupt_1 (⟨Nat.le_of_ble_eq_true rfl, Nat.le_of_ble_eq_true rfl⟩)) ?_
  refine tpi (y := 1) (by decide) ?_
  refine lv_if_ne (tgt := 17) hx hb d_X_interrupt_4 (by decide) (fun c_1 => ?_) (fun c_1 => ?_)
  · skip
    refine lv_aload_n hx hb d_X_interrupt_17 rfl (lv_at hl 0 rfl) ?_
    refine lv_iload_n hx hb d_X_interrupt_18 rfl (lv_at hl 1 rfl) ?_
    refine lv_iload_n hx hb d_X_interrupt_19 rfl (lv_at hl 2 rfl) ?_
    have hPc := hP.sub (ws' := [(x, .inr (4, [.int (nI bi), .int (nI ne), .int (nI li), .int (nI sp), .int (nI q), .ref sw, .ref sr, .ref br, .ref bq, .int lb]))]) [0] rfl
    have hKc := hK.sub (tys' := []) [] rfl
    refine pci (va_runV (As := [.int 0, .int (nI n)]) (rest := []) ⟨hx, hb, hml, hown, hg⟩ (c_X_isError l D x sw sr br bq bi ne li sp q lb 0 (nI n) (by omega)) (cwV 2 hg (gV gw_362 gw_364 gs_6 gw_1 gw_365) rfl rfl rfl (by decide +kernel) ⟨Nat.le_of_ble_eq_true rfl, Nat.le_of_ble_eq_true rfl⟩) ⟨fun a U g mk q => by obtain ⟨q0, qP, qK⟩ := q; exact ⟨q0, qP, va_K.moved (u := U) (U := U.calling g mk a) (Vm.Alike.refl U.vm) qK⟩, va_recv hKc hPc (ci := 4) (q0 := 0) rfl rfl, fun U hU hW => ⟨rfl, by rw [hU]; exact hPc, va_K.moved hW.alike hKc⟩⟩ rfl rfl hl.1 rfl (lv_room (Nat.le_of_ble_eq_true rfl)) d_X_interrupt_20 (⟨Nat.le_of_ble_eq_true rfl, Nat.le_of_ble_eq_true rfl⟩)) ?_
    refine tpi (y := 1) (if_pos ⟨by rw [nI_toInt (by omega)]; omega, by rw [nI_toInt (by omega)]; omega, Or.inr rfl⟩) ?_
    refine lv_if_ne (tgt := 36) hx hb d_X_interrupt_23 (by decide) (fun c_2 => ?_) (fun c_2 => ?_)
    · skip
      refine lv_aload_n hx hb d_X_interrupt_36 rfl (lv_at hl 0 rfl) ?_
      refine va_get (D := D) (ci := 4) (v := .ref sw) (C := R_X) (T := T_X) (N := 10) hx hb hg in_X hown hK hP 0 rfl rfl 5 (by decide) (hg _ gw_121) (fun _ h9 => h9) rfl d_X_interrupt_37 ?_
      refine lv_iload_n hx hb d_X_interrupt_40 rfl (lv_at hl 1 rfl) ?_
      have hPc := hP.sub (ws' := [(sw, .inr (3, [.ref e0, .ref e1, .int (nI pl), .int (nI rw)]))]) [1] rfl
      have hKc := hK.sub (tys' := []) [] rfl
      refine pcr (va_runV (As := [.int 0]) (rest := []) ⟨hx, hb, hml, hown, hg⟩ (c_S_endsOf0 l D sw e0 e1 pl rw) (cwV 1 hg (gV gw_367 gw_368 gw_369 gw_5 gw_370) rfl rfl rfl (by decide +kernel) ⟨Nat.le_of_ble_eq_true rfl, Nat.le_of_ble_eq_true rfl⟩) ⟨fun a U g mk q => by obtain ⟨q0, qP, qK⟩ := q; exact ⟨q0, qP, va_K.moved (u := U) (U := U.calling g mk a) (Vm.Alike.refl U.vm) qK⟩, va_recv hKc hPc (ci := 3) (q0 := 0) rfl rfl, fun U hU hW => ⟨rfl, by rw [hU]; exact hPc, va_K.moved hW.alike hKc⟩⟩ rfl rfl hl.1 rfl (lv_room (Nat.le_of_ble_eq_true rfl)) d_X_interrupt_41 (⟨Nat.le_of_ble_eq_true rfl, Nat.le_of_ble_eq_true rfl⟩)) ?_
      refine lv_astore_n (lv' := [(3, .ref e0), (0, .ref x), (1, .int 0), (2, .int (nI n))]) hx hb d_X_interrupt_44 rfl hl (by decide) rfl (fun ls hl => ?_)
      refine lv_aload_n hx hb d_X_interrupt_45 rfl (lv_at hl 0 rfl) ?_
      have hPc := hP.sub (ws' := [(e0, .inr (2, [.int 0, .int (nI fs), .int (nI sm), .int (nI ct), .int (nI ng)]))]) [2] rfl
      have hKc := hK.sub (tys' := []) [] rfl
      refine pci (va_runV (As := []) (rest := []) ⟨hx, hb, hml, hown, hg⟩ (c_E_shift0 l D e0 fs sm ct ng K hc0 (by omega) hKb hK1 hK2) (cwV 0 hg (gV gw_371 gw_372 gw_373 gw_6 gw_374) rfl rfl rfl (by decide +kernel) ⟨Nat.le_of_ble_eq_true rfl, Nat.le_of_ble_eq_true rfl⟩) ⟨fun a U g mk q => by obtain ⟨q0, qP, qK⟩ := q; exact ⟨q0, qP, va_K.moved (u := U) (U := U.calling g mk a) (Vm.Alike.refl U.vm) qK⟩, va_recv hKc hPc (ci := 2) (q0 := 0) rfl rfl, fun U hU hW => ⟨rfl, by rw [hU]; exact hPc, va_K.moved hW.alike hKc⟩⟩ rfl rfl hl.1 rfl (lv_room (Nat.le_of_ble_eq_true rfl)) d_X_interrupt_46 (⟨Nat.le_of_ble_eq_true rfl, Nat.le_of_ble_eq_true rfl⟩)) ?_
      refine lv_istore (lv' := [(4, .int (nI K)), (3, .ref e0), (0, .ref x), (1, .int 0), (2, .int (nI n))]) hx hb d_X_interrupt_49 hl (by decide) rfl (fun ls hl => ?_)
      refine lv_aload_n hx hb d_X_interrupt_51 rfl (lv_at hl 1 rfl) ?_
      refine lv_iload_n hx hb d_X_interrupt_52 rfl (lv_at hl 4 rfl) ?_
      refine lv_iload hx hb d_X_interrupt_53 (lv_at hl 0 rfl) ?_
      have hPc := hP.sub (ws' := [(e0, .inr (2, [.int 0, .int (nI fs), .int (nI sm), .int (nI ct), .int (nI ng)]))]) [2] rfl
      have hKc := hK.sub (tys' := []) [] rfl
      refine pci (va_runV (As := [.int (nI n), .int (nI K)]) (rest := []) ⟨hx, hb, hml, hown, hg⟩ (c_E_numberOf0P l D e0 fs sm ct ng n K hc0 hn0 hKb (by omega)) (cwV 2 hg (gV gw_375 gw_376 gw_377 gw_6 gw_378) rfl rfl rfl (by decide +kernel) ⟨Nat.le_of_ble_eq_true rfl, Nat.le_of_ble_eq_true rfl⟩) ⟨fun a U g mk q => by obtain ⟨q0, qP, qK⟩ := q; exact ⟨q0, qP, va_K.moved (u := U) (U := U.calling g mk a) (Vm.Alike.refl U.vm) qK⟩, va_recv hKc hPc (ci := 2) (q0 := 0) rfl rfl, fun U hU hW => ⟨rfl, by rw [hU]; exact hPc, va_K.moved hW.alike hKc⟩⟩ rfl rfl hl.1 rfl (lv_room (Nat.le_of_ble_eq_true rfl)) d_X_interrupt_55 (⟨Nat.le_of_ble_eq_true rfl, Nat.le_of_ble_eq_true rfl⟩)) ?_
      refine tpi (y := nI M) (by rw [hM]) ?_
      refine lv_istore (lv' := [(5, .int (nI M)), (4, .int (nI K)), (3, .ref e0), (0, .ref x), (1, .int 0), (2, .int (nI n))]) hx hb d_X_interrupt_58 hl (by decide) rfl (fun ls hl => ?_)
      refine lv_aload_n hx hb d_X_interrupt_60 rfl (lv_at hl 3 rfl) ?_
      refine lv_aload_n hx hb d_X_interrupt_61 rfl (lv_at hl 3 rfl) ?_
      refine lv_aload_n hx hb d_X_interrupt_62 rfl (lv_at hl 3 rfl) ?_
      refine va_get (D := D) (ci := 4) (v := .ref sw) (C := R_X) (T := T_X) (N := 10) hx hb hg in_X hown hK hP 0 rfl rfl 5 (by decide) (hg _ gw_121) (fun _ h9 => h9) rfl d_X_interrupt_63 ?_
      have hPc := hP.sub (ws' := [(x, .inr (4, [.int (nI bi), .int (nI ne), .int (nI li), .int (nI sp), .int (nI q), .ref sw, .ref sr, .ref br, .ref bq, .int lb])), (sw, .inr (3, [.ref e0, .ref e1, .int (nI pl), .int (nI rw)]))]) [0, 1] rfl
      have hKc := hK.sub (tys' := []) [] rfl
      refine pci (va_runV (As := [.ref sw]) (rest := [.ref x]) ⟨hx, hb, hml, hown, hg⟩ (c_X_endLimit l D x sw sr br bq bi ne li sp q lb sw e0 e1 pl rw tw (by omega)) (cwV 1 hg (gV gw_386 gw_388 gs_8 gw_1 gw_389) rfl rfl rfl (by decide +kernel) ⟨Nat.le_of_ble_eq_true rfl, Nat.le_of_ble_eq_true rfl⟩) ⟨fun a U g mk q => by obtain ⟨q0, qP, qK, qX⟩ := q; exact ⟨q0, qP, va_K.moved (u := U) (U := U.calling g mk a) (Vm.Alike.refl U.vm) qK, qX.blind⟩, va_recv hKc hPc (ci := 4) (q0 := 0) rfl rfl, fun U hU hW => ⟨rfl, by rw [hU]; exact hPc, va_K.moved hW.alike hKc, hE.call hS noF hU hW⟩⟩ rfl rfl hl.1 rfl (lv_room (Nat.le_of_ble_eq_true rfl)) d_X_interrupt_66 (⟨Nat.le_of_ble_eq_true rfl, Nat.le_of_ble_eq_true rfl⟩)) ?_
      have hPc := hP.sub (ws' := [(x, .inr (4, [.int (nI bi), .int (nI ne), .int (nI li), .int (nI sp), .int (nI q), .ref sw, .ref sr, .ref br, .ref bq, .int lb]))]) [0] rfl
      have hKc := hK.sub (tys' := []) [] rfl
      refine pci (va_runV (As := [.int (nI (li - 1 - rw))]) (rest := []) ⟨hx, hb, hml, hown, hg⟩ (c_X_mostZeros l D x sw sr br bq bi ne li sp q lb (li - 1 - rw) (by omega)) (cwV 1 hg (gV gw_269 gw_271 gs_3 gw_1 gw_272) rfl rfl rfl (by decide +kernel) ⟨Nat.le_of_ble_eq_true rfl, Nat.le_of_ble_eq_true rfl⟩) ⟨fun a U g mk q => by obtain ⟨q0, qP, qK⟩ := q; exact ⟨q0, qP, va_K.moved (u := U) (U := U.calling g mk a) (Vm.Alike.refl U.vm) qK⟩, va_recv hKc hPc (ci := 4) (q0 := 0) rfl rfl, fun U hU hW => ⟨rfl, by rw [hU]; exact hPc, va_K.moved hW.alike hKc⟩⟩ rfl rfl hl.1 rfl (lv_room (Nat.le_of_ble_eq_true rfl)) d_X_interrupt_69 (⟨Nat.le_of_ble_eq_true rfl, Nat.le_of_ble_eq_true rfl⟩)) ?_
      refine lv_istore (lv' := [(6, .int (nI (li - 1 - rw - q - 1))), (5, .int (nI M)), (4, .int (nI K)), (3, .ref e0), (0, .ref x), (1, .int 0), (2, .int (nI n))]) hx hb d_X_interrupt_72 hl (by decide) rfl (fun ls hl => ?_)
      refine lv_aload_n hx hb d_X_interrupt_74 rfl (lv_at hl 4 rfl) ?_
      refine lv_iload hx hb d_X_interrupt_75 (lv_at hl 2 rfl) ?_
      refine lv_iload hx hb d_X_interrupt_77 (lv_at hl 1 rfl) ?_
      refine lv_iload hx hb d_X_interrupt_79 (lv_at hl 0 rfl) ?_
      have hPc := hP.sub (ws' := [(x, .inr (4, [.int (nI bi), .int (nI ne), .int (nI li), .int (nI sp), .int (nI q), .ref sw, .ref sr, .ref br, .ref bq, .int lb]))]) [0] rfl
      have hKc := hK.sub (tys' := []) [] rfl
      refine pci (va_runV (As := [.int (nI K), .int (nI M), .int (nI (li - 1 - rw - q - 1))]) (rest := []) ⟨hx, hb, hml, hown, hg⟩ (c_X_numberLength l D x sw sr br bq bi ne li sp q lb K M (li - 1 - rw - q - 1) (by omega) (by omega) (by omega)) (cwV 3 hg (gV gw_273 gw_275 gs_4 gw_1 gw_276) rfl rfl rfl (by decide +kernel) ⟨Nat.le_of_ble_eq_true rfl, Nat.le_of_ble_eq_true rfl⟩) ⟨fun a U g mk q => by obtain ⟨q0, qP, qK⟩ := q; exact ⟨q0, qP, va_K.moved (u := U) (U := U.calling g mk a) (Vm.Alike.refl U.vm) qK⟩, va_recv hKc hPc (ci := 4) (q0 := 0) rfl rfl, fun U hU hW => ⟨rfl, by rw [hU]; exact hPc, va_K.moved hW.alike hKc⟩⟩ rfl rfl hl.1 rfl (lv_room (Nat.le_of_ble_eq_true rfl)) d_X_interrupt_81 (⟨Nat.le_of_ble_eq_true rfl, Nat.le_of_ble_eq_true rfl⟩)) ?_
      refine lv_istore (lv' := [(7, .int (nI (nlen q K M (li - 1 - rw - q - 1)))), (6, .int (nI (li - 1 - rw - q - 1))), (5, .int (nI M)), (4, .int (nI K)), (3, .ref e0), (0, .ref x), (1, .int 0), (2, .int (nI n))]) hx hb d_X_interrupt_84 hl (by decide) rfl (fun ls hl => ?_)
      refine lv_aload_n hx hb d_X_interrupt_86 rfl (lv_at hl 5 rfl) ?_
      refine va_get (D := D) (ci := 4) (v := .ref br) (C := R_X) (T := T_X) (N := 10) hx hb hg in_X hown hK hP 0 rfl rfl 7 (by decide) (hg _ gw_123) (fun _ h9 => h9) rfl d_X_interrupt_87 ?_
      refine lv_iload hx hb d_X_interrupt_90 (lv_at hl 0 rfl) ?_
      have hPc := hP.sub (ws' := [(br, .inr (1, [.ref ra, .int (nI u)])), (ra, .inl (cB, 6000, .inl f))]) [3, 4] rfl
      have hKc := hK.sub (tys' := [(cB, .byte)]) [0] rfl
      refine pci (va_runV (As := [.int (nI (nlen q K M (li - 1 - rw - q - 1)))]) (rest := []) ⟨hx, hb, hml, hown, hg⟩ (c_B_hasRoom l D br ra cB u f (nlen q K M (li - 1 - rw - q - 1)) (by omega) (by omega)) (cwV 1 hg (gV gw_277 gw_278 gw_279 gw_2 gw_280) rfl rfl rfl (by decide +kernel) ⟨Nat.le_of_ble_eq_true rfl, Nat.le_of_ble_eq_true rfl⟩) ⟨fun a U g mk q => by obtain ⟨q0, qP, qK⟩ := q; exact ⟨q0, qP, va_K.moved (u := U) (U := U.calling g mk a) (Vm.Alike.refl U.vm) qK⟩, va_recv hKc hPc (ci := 1) (q0 := 0) rfl rfl, fun U hU hW => ⟨rfl, by rw [hU]; exact hPc, va_K.moved hW.alike hKc⟩⟩ rfl rfl hl.1 rfl (lv_room (Nat.le_of_ble_eq_true rfl)) d_X_interrupt_92 (⟨Nat.le_of_ble_eq_true rfl, Nat.le_of_ble_eq_true rfl⟩)) ?_
      refine tpi (y := 1) (if_pos hu) ?_
      refine lv_if_ne (tgt := 108) hx hb d_X_interrupt_95 (by decide) (fun c_3 => ?_) (fun c_3 => ?_)
      · skip
        refine lv_aload_n hx hb d_X_interrupt_108 rfl (lv_at hl 5 rfl) ?_
        refine lv_iload hx hb d_X_interrupt_109 (lv_at hl 3 rfl) ?_
        refine lv_iload hx hb d_X_interrupt_111 (lv_at hl 2 rfl) ?_
        refine lv_iload hx hb d_X_interrupt_113 (lv_at hl 1 rfl) ?_
        have hPc := hP.sub (ws' := [(x, .inr (4, [.int (nI bi), .int (nI ne), .int (nI li), .int (nI sp), .int (nI q), .ref sw, .ref sr, .ref br, .ref bq, .int lb])), (br, .inr (1, [.ref ra, .int (nI u)])), (ra, .inl (cB, 6000, .inl f))]) [0, 3, 4] rfl
        have hDc := hD.sub (ws' := [(x, .inr (4, [.int (nI bi), .int (nI ne), .int (nI li), .int (nI sp), .int (nI q), .ref sw, .ref sr, .ref br, .ref bq, .int lb])), (br, .inr (1, [.ref ra, .int (nI u)])), (ra, .inl (cB, 6000, .inl f))]) [0, 3, 4] (by decide) rfl
        have hKc := hK.sub (tys' := [(cB, .byte)]) [0] rfl
        refine mcv (va_runV (As := [.int (nI K), .int (nI M), .int (nI (li - 1 - rw - q - 1))]) (rest := []) ⟨hx, hb, hml, hown, hg⟩ (c_X_writeNumber l D x sw sr br bq bi ne li sp q lb ra cB u f K M (li - 1 - rw - q - 1) (by omega) (by omega) (by omega) (by omega) hu) (cwV 3 hg (gV gw_297 gw_299 gs_5 gw_1 gw_300) rfl rfl rfl (by decide +kernel) ⟨Nat.le_of_ble_eq_true rfl, Nat.le_of_ble_eq_true rfl⟩) ⟨fun a U g mk q => by obtain ⟨q0, qP, qK, qD⟩ := q; exact ⟨q0, qP, va_K.moved (u := U) (U := U.calling g mk a) (Vm.Alike.refl U.vm) qK, qD⟩, va_recv hKc hPc (ci := 4) (q0 := 0) rfl rfl, fun U hU hW => ⟨rfl, by rw [hU]; exact hPc, va_K.moved hW.alike hKc, hDc.weaken (fun _ _ _ _ => trivial)⟩⟩ rfl rfl hl.1 rfl (lv_room (Nat.le_of_ble_eq_true rfl)) d_X_interrupt_115 (⟨Nat.le_of_ble_eq_true rfl, Nat.le_of_ble_eq_true rfl⟩)) hS hP hD [0, 3, 4] rfl rfl rfl (fun H locs hP hD hS => ?_)
        have hP : va_P D CLS [(x, .inr (4, [.int (nI bi), .int (nI ne), .int (nI li), .int (nI sp), .int (nI q), .ref sw, .ref sr, .ref br, .ref bq, .int lb])), (sw, .inr (3, [.ref e0, .ref e1, .int (nI pl), .int (nI rw)])), (e0, .inr (2, [.int 0, .int (nI fs), .int (nI sm), .int (nI ct), .int (nI ng)])), (br, .inr (1, [.ref ra, .int (nI (u + nlen q K M (li - 1 - rw - q - 1)))])), (ra, .inl (cB, 6000, .inl (wnum f q K M (li - 1 - rw - q - 1) u)))] H := hP
        have hD : va_D A [(x, .inr (4, [.int (nI bi), .int (nI ne), .int (nI li), .int (nI sp), .int (nI q), .ref sw, .ref sr, .ref br, .ref bq, .int lb])), (sw, .inr (3, [.ref e0, .ref e1, .int (nI pl), .int (nI rw)])), (e0, .inr (2, [.int 0, .int (nI fs), .int (nI sm), .int (nI ct), .int (nI ng)])), (br, .inr (1, [.ref ra, .int (nI (u + nlen q K M (li - 1 - rw - q - 1)))])), (ra, .inl (cB, 6000, .inl (wnum f q K M (li - 1 - rw - q - 1) u)))] := hD
        refine lv_aload_n hx hb d_X_interrupt_118 rfl (lv_at hl 4 rfl) ?_
        refine lv_iload_n hx hb d_X_interrupt_119 rfl (lv_at hl 7 rfl) ?_
        refine lv_iload hx hb d_X_interrupt_120 (lv_at hl 2 rfl) ?_
        have hPc := hP.sub (ws' := [(e0, .inr (2, [.int 0, .int (nI fs), .int (nI sm), .int (nI ct), .int (nI ng)]))]) [2] rfl
        have hDc := hD.sub (ws' := [(e0, .inr (2, [.int 0, .int (nI fs), .int (nI sm), .int (nI ct), .int (nI ng)]))]) [2] (by decide) rfl
        have hKc := hK.sub (tys' := []) [] rfl
        refine mcv (va_runV (As := [.int (nI n), .int (nI M)]) (rest := []) ⟨hx, hb, hml, hown, hg⟩ (c_E_learn0P l D e0 fs sm ct ng n M hc0 hn0 hs0 (by omega) (by omega)) (cwV 2 hg (gV gw_390 gw_391 gw_392 gw_6 gw_393) rfl rfl rfl (by decide +kernel) ⟨Nat.le_of_ble_eq_true rfl, Nat.le_of_ble_eq_true rfl⟩) ⟨fun a U g mk q => by obtain ⟨q0, qP, qK, qD⟩ := q; exact ⟨q0, qP, va_K.moved (u := U) (U := U.calling g mk a) (Vm.Alike.refl U.vm) qK, qD⟩, va_recv hKc hPc (ci := 2) (q0 := 0) rfl rfl, fun U hU hW => ⟨rfl, by rw [hU]; exact hPc, va_K.moved hW.alike hKc, hDc.weaken (fun _ _ _ _ => trivial)⟩⟩ rfl rfl hl.1 rfl (lv_room (Nat.le_of_ble_eq_true rfl)) d_X_interrupt_122 (⟨Nat.le_of_ble_eq_true rfl, Nat.le_of_ble_eq_true rfl⟩)) hS hP hD [2] rfl rfl rfl (fun H locs hP hD hS => ?_)
        have hP : va_P D CLS [(x, .inr (4, [.int (nI bi), .int (nI ne), .int (nI li), .int (nI sp), .int (nI q), .ref sw, .ref sr, .ref br, .ref bq, .int lb])), (sw, .inr (3, [.ref e0, .ref e1, .int (nI pl), .int (nI rw)])), (e0, .inr (2, [.int 0, .int (nI fs), .int (nI (hvd ct (sm + (M + 1 - 0) / 2))), .int (nI (hvd ct ct + 1)), .int (nI (hvd ct ng))])), (br, .inr (1, [.ref ra, .int (nI (u + nlen q K M (li - 1 - rw - q - 1)))])), (ra, .inl (cB, 6000, .inl (wnum f q K M (li - 1 - rw - q - 1) u)))] H := hP
        have hD : va_D A [(x, .inr (4, [.int (nI bi), .int (nI ne), .int (nI li), .int (nI sp), .int (nI q), .ref sw, .ref sr, .ref br, .ref bq, .int lb])), (sw, .inr (3, [.ref e0, .ref e1, .int (nI pl), .int (nI rw)])), (e0, .inr (2, [.int 0, .int (nI fs), .int (nI (hvd ct (sm + (M + 1 - 0) / 2))), .int (nI (hvd ct ct + 1)), .int (nI (hvd ct ng))])), (br, .inr (1, [.ref ra, .int (nI (u + nlen q K M (li - 1 - rw - q - 1)))])), (ra, .inl (cB, 6000, .inl (wnum f q K M (li - 1 - rw - q - 1) u)))] := hD
        refine lv_iload hx hb d_X_interrupt_125 (lv_at hl 0 rfl) ?_
        exact W.iret (v := nI (nlen q K M (li - 1 - rw - q - 1))) hx hb hr (fun t ht hW => ⟨rfl, by rw [ht]; exact hP, (hAe ▸ hS).F ht⟩) (hAe ▸ hS).2.2 d_X_interrupt_127
      · skip
        exact absurd c_3 (by decide)
    · skip
      exact absurd c_2 (by decide)
  · skip
    exact absurd c_1 (by decide)
set_option maxHeartbeats 4000000 in
set_option maxRecDepth 100000 in
theorem c_X_interrupt0N (l : Launch) (D : va_G) (x sw sr br bq bi ne li sp q : Nat) (lb : Int32) (e0 e1 pl rw : Nat) (fs sm ct ng : Nat) (ra : Nat) (cB : ClassId) (u : Nat) (f : Nat → Int32) (tw n K M : Nat) (hc0 : ct ≤ 64) (hn0 : ng ≤ 64) (hs0 : sm < 2 ^ 29) (hKb : K ≤ 29) (hK1 : sm ≤ ct * 2 ^ K) (hK2 : ∀ j, j < K → ct * 2 ^ j < sm) (hsp : sp ≤ 65536) (hn : n ≤ sp / 2) (hn1 : 0 < n) (hM : M = 2 * n - 0 - (if (K = 0 ∧ 2 * ng < ct) then 0 else 1)) (hq : q ≤ 29) (hli : q + 18 ≤ li) (hlb : li ≤ 200) (hrw : rw ≤ 15) (hu : u + nlen q K M (li - 1 - rw - q - 1) ≤ 6000) : Met l y_X_interrupt (WSY y_X_interrupt b_X_interrupt 8 (some .int)) ({ frames := 4, cells := 0, slots := 0, locals := 95 }) (va_Pc [.ref x, .int 0, .int (-nI n)] (fun U => va_P D CLS [(x, .inr (4, [.int (nI bi), .int (nI ne), .int (nI li), .int (nI sp), .int (nI q), .ref sw, .ref sr, .ref br, .ref bq, .int lb])), (sw, .inr (3, [.ref e0, .ref e1, .int (nI pl), .int (nI rw)])), (e0, .inr (2, [.int 0, .int (nI fs), .int (nI sm), .int (nI ct), .int (nI ng)])), (br, .inr (1, [.ref ra, .int (nI u)])), (ra, .inl (cB, 6000, .inl f))] U.heap ∧ va_K D CLS [(cB, .byte)] U ∧ va_D (fun _ => True) [(x, .inr (4, [.int (nI bi), .int (nI ne), .int (nI li), .int (nI sp), .int (nI q), .ref sw, .ref sr, .ref br, .ref bq, .int lb])), (sw, .inr (3, [.ref e0, .ref e1, .int (nI pl), .int (nI rw)])), (e0, .inr (2, [.int 0, .int (nI fs), .int (nI sm), .int (nI ct), .int (nI ng)])), (br, .inr (1, [.ref ra, .int (nI u)])), (ra, .inl (cB, 6000, .inl f))] ∧ EV (ad [(x, .inr (4, [.int (nI bi), .int (nI ne), .int (nI li), .int (nI sp), .int (nI q), .ref sw, .ref sr, .ref br, .ref bq, .int lb])), (sw, .inr (3, [.ref e0, .ref e1, .int (nI pl), .int (nI rw)])), (e0, .inr (2, [.int 0, .int (nI fs), .int (nI sm), .int (nI ct), .int (nI ng)])), (br, .inr (1, [.ref ra, .int (nI u)])), (ra, .inl (cB, 6000, .inl f))]) tw U)) (QM (some (.int (nI (nlen q K M (li - 1 - rw - q - 1))))) [(x, .inr (4, [.int (nI bi), .int (nI ne), .int (nI li), .int (nI sp), .int (nI q), .ref sw, .ref sr, .ref br, .ref bq, .int lb])), (sw, .inr (3, [.ref e0, .ref e1, .int (nI pl), .int (nI rw)])), (e0, .inr (2, [.int 0, .int (nI fs), .int (nI sm), .int (nI ct), .int (nI ng)])), (br, .inr (1, [.ref ra, .int (nI u)])), (ra, .inl (cB, 6000, .inl f))] [(x, .inr (4, [.int (nI bi), .int (nI ne), .int (nI li), .int (nI sp), .int (nI q), .ref sw, .ref sr, .ref br, .ref bq, .int lb])), (sw, .inr (3, [.ref e0, .ref e1, .int (nI pl), .int (nI rw)])), (e0, .inr (2, [.int 0, .int (nI fs), .int (nI (hvd ct (sm + (M + 1 - 0) / 2))), .int (nI (hvd ct ct + 1)), .int (nI (hvd ct (ng + 1)))])), (br, .inr (1, [.ref ra, .int (nI (u + nlen q K M (li - 1 - rw - q - 1)))])), (ra, .inl (cB, 6000, .inl (wnum f q K M (li - 1 - rw - q - 1) u)))] D) 0 0 (ad [(x, .inr (4, [.int (nI bi), .int (nI ne), .int (nI li), .int (nI sp), .int (nI q), .ref sw, .ref sr, .ref br, .ref bq, .int lb])), (sw, .inr (3, [.ref e0, .ref e1, .int (nI pl), .int (nI rw)])), (e0, .inr (2, [.int 0, .int (nI fs), .int (nI sm), .int (nI ct), .int (nI ng)])), (br, .inr (1, [.ref ra, .int (nI u)])), (ra, .inl (cB, 6000, .inl f))]) := by
  refine Met.ofW (cc := b_X_interrupt) (maxL := 8) (ret := (some .int)) (by decide) rfl ?_
  intro p e s m args below meth c s₁ B hml hv
  obtain ⟨rfl, hP, hK, hD0, hE⟩ := hv
  have hx := B.exec
  have hb := B.bytes
  have hr := B.returns
  have hts := atoms_spec (ws := WSY y_X_interrupt b_X_interrupt 8 (some .int)) B.pre
  have hg : ∀ w ∈ GW, w.before _ s = true := fun w h => hts w (List.mem_cons_of_mem _ h)
  have hown : s.vm.findClass "LineGolomb" = some m.cls := findClass_of_methodNamed B.named
  have hlocks := B.notSynchronized
  obtain ⟨A, hAe⟩ : ∃ A, A = ad [(x, .inr (4, [.int (nI bi), .int (nI ne), .int (nI li), .int (nI sp), .int (nI q), .ref sw, .ref sr, .ref br, .ref bq, .int lb])), (sw, .inr (3, [.ref e0, .ref e1, .int (nI pl), .int (nI rw)])), (e0, .inr (2, [.int 0, .int (nI fs), .int (nI sm), .int (nI ct), .int (nI ng)])), (br, .inr (1, [.ref ra, .int (nI u)])), (ra, .inl (cB, 6000, .inl f))] := ⟨_, rfl⟩
  have hD : va_D A [(x, .inr (4, [.int (nI bi), .int (nI ne), .int (nI li), .int (nI sp), .int (nI q), .ref sw, .ref sr, .ref br, .ref bq, .int lb])), (sw, .inr (3, [.ref e0, .ref e1, .int (nI pl), .int (nI rw)])), (e0, .inr (2, [.int 0, .int (nI fs), .int (nI sm), .int (nI ct), .int (nI ng)])), (br, .inr (1, [.ref ra, .int (nI u)])), (ra, .inl (cB, 6000, .inl f))] := by rw [hAe]; exact va_D_ad hD0
  have hS : va_S A s.heap s.heap [] := va_S.rf
  rw [← hAe] at hE
  have hl := lv_entry ([.ref x, .int 0, .int (-nI n)]) (n := 8) (Nat.le_of_ble_eq_true rfl)
  rw [lg_entry_eq]
  generalize (lg_sl ([.ref x, .int 0, .int (-nI n)]) ++ List.replicate (8 - (lg_sl ([.ref x, .int 0, .int (-nI n)])).length) Slot.unset).toArray = ls at hl ⊢
  have hl : lv_has ls 8 [(0, .ref x), (1, .int 0), (2, .int (-nI n))] := hl
  have hMb : M ≤ 2 * n := by rw [hM]; omega
  refine lv_iload_n hx hb d_X_interrupt_0 rfl (lv_at hl 1 rfl) ?_
  have hPc := hP.sub (ws' := []) [] rfl
  have hKc := hK.sub (tys' := []) [] rfl
  refine pci (va_runS (As := [.int 0]) (rest := []) ⟨hx, hb, hml, hown, hg⟩ (c_X_isKind l D 0) (va_cwS 1 hg (gS gw_343 gw_344 gw_1 gw_345) rfl rfl rfl (by decide +kernel) ⟨Nat.le_of_ble_eq_true rfl, Nat.le_of_ble_eq_true rfl⟩) ⟨fun a U g mk q => by obtain ⟨q0, qP, qK⟩ := q; exact ⟨q0, qP, va_K.moved (u := U) (U := U.calling g mk a) (Vm.Alike.refl U.vm) qK⟩, fun U hU hW => ⟨rfl, by rw [hU]; exact hPc, va_K.moved hW.alike hKc⟩⟩ rfl rfl hl.1 rfl (lv_room (Nat.le_of_ble_eq_true rfl)) d_X_interrupt_1 (⟨Nat.le_of_ble_eq_true rfl, Nat.le_of_ble_eq_true rfl⟩)) ?_
  refine tpi (y := 1) (by decide) ?_
  refine lv_if_ne (tgt := 17) hx hb d_X_interrupt_4 (by decide) (fun c_1 => ?_) (fun c_1 => ?_)
  · skip
    refine lv_aload_n hx hb d_X_interrupt_17 rfl (lv_at hl 0 rfl) ?_
    refine lv_iload_n hx hb d_X_interrupt_18 rfl (lv_at hl 1 rfl) ?_
    refine lv_iload_n hx hb d_X_interrupt_19 rfl (lv_at hl 2 rfl) ?_
    have hPc := hP.sub (ws' := [(x, .inr (4, [.int (nI bi), .int (nI ne), .int (nI li), .int (nI sp), .int (nI q), .ref sw, .ref sr, .ref br, .ref bq, .int lb]))]) [0] rfl
    have hKc := hK.sub (tys' := []) [] rfl
    refine pci (va_runV (As := [.int 0, .int (-nI n)]) (rest := []) ⟨hx, hb, hml, hown, hg⟩ (c_X_isError l D x sw sr br bq bi ne li sp q lb 0 (-nI n) (by omega)) (cwV 2 hg (gV gw_362 gw_364 gs_6 gw_1 gw_365) rfl rfl rfl (by decide +kernel) ⟨Nat.le_of_ble_eq_true rfl, Nat.le_of_ble_eq_true rfl⟩) ⟨fun a U g mk q => by obtain ⟨q0, qP, qK⟩ := q; exact ⟨q0, qP, va_K.moved (u := U) (U := U.calling g mk a) (Vm.Alike.refl U.vm) qK⟩, va_recv hKc hPc (ci := 4) (q0 := 0) rfl rfl, fun U hU hW => ⟨rfl, by rw [hU]; exact hPc, va_K.moved hW.alike hKc⟩⟩ rfl rfl hl.1 rfl (lv_room (Nat.le_of_ble_eq_true rfl)) d_X_interrupt_20 (⟨Nat.le_of_ble_eq_true rfl, Nat.le_of_ble_eq_true rfl⟩)) ?_
    refine tpi (y := 1) (if_pos ⟨by rw [ngT (by omega)]; omega, by rw [ngT (by omega)]; omega, Or.inr rfl⟩) ?_
    refine lv_if_ne (tgt := 36) hx hb d_X_interrupt_23 (by decide) (fun c_2 => ?_) (fun c_2 => ?_)
    · skip
      refine lv_aload_n hx hb d_X_interrupt_36 rfl (lv_at hl 0 rfl) ?_
      refine va_get (D := D) (ci := 4) (v := .ref sw) (C := R_X) (T := T_X) (N := 10) hx hb hg in_X hown hK hP 0 rfl rfl 5 (by decide) (hg _ gw_121) (fun _ h9 => h9) rfl d_X_interrupt_37 ?_
      refine lv_iload_n hx hb d_X_interrupt_40 rfl (lv_at hl 1 rfl) ?_
      have hPc := hP.sub (ws' := [(sw, .inr (3, [.ref e0, .ref e1, .int (nI pl), .int (nI rw)]))]) [1] rfl
      have hKc := hK.sub (tys' := []) [] rfl
      refine pcr (va_runV (As := [.int 0]) (rest := []) ⟨hx, hb, hml, hown, hg⟩ (c_S_endsOf0 l D sw e0 e1 pl rw) (cwV 1 hg (gV gw_367 gw_368 gw_369 gw_5 gw_370) rfl rfl rfl (by decide +kernel) ⟨Nat.le_of_ble_eq_true rfl, Nat.le_of_ble_eq_true rfl⟩) ⟨fun a U g mk q => by obtain ⟨q0, qP, qK⟩ := q; exact ⟨q0, qP, va_K.moved (u := U) (U := U.calling g mk a) (Vm.Alike.refl U.vm) qK⟩, va_recv hKc hPc (ci := 3) (q0 := 0) rfl rfl, fun U hU hW => ⟨rfl, by rw [hU]; exact hPc, va_K.moved hW.alike hKc⟩⟩ rfl rfl hl.1 rfl (lv_room (Nat.le_of_ble_eq_true rfl)) d_X_interrupt_41 (⟨Nat.le_of_ble_eq_true rfl, Nat.le_of_ble_eq_true rfl⟩)) ?_
      refine lv_astore_n (lv' := [(3, .ref e0), (0, .ref x), (1, .int 0), (2, .int (-nI n))]) hx hb d_X_interrupt_44 rfl hl (by decide) rfl (fun ls hl => ?_)
      refine lv_aload_n hx hb d_X_interrupt_45 rfl (lv_at hl 0 rfl) ?_
      have hPc := hP.sub (ws' := [(e0, .inr (2, [.int 0, .int (nI fs), .int (nI sm), .int (nI ct), .int (nI ng)]))]) [2] rfl
      have hKc := hK.sub (tys' := []) [] rfl
      refine pci (va_runV (As := []) (rest := []) ⟨hx, hb, hml, hown, hg⟩ (c_E_shift0 l D e0 fs sm ct ng K hc0 (by omega) hKb hK1 hK2) (cwV 0 hg (gV gw_371 gw_372 gw_373 gw_6 gw_374) rfl rfl rfl (by decide +kernel) ⟨Nat.le_of_ble_eq_true rfl, Nat.le_of_ble_eq_true rfl⟩) ⟨fun a U g mk q => by obtain ⟨q0, qP, qK⟩ := q; exact ⟨q0, qP, va_K.moved (u := U) (U := U.calling g mk a) (Vm.Alike.refl U.vm) qK⟩, va_recv hKc hPc (ci := 2) (q0 := 0) rfl rfl, fun U hU hW => ⟨rfl, by rw [hU]; exact hPc, va_K.moved hW.alike hKc⟩⟩ rfl rfl hl.1 rfl (lv_room (Nat.le_of_ble_eq_true rfl)) d_X_interrupt_46 (⟨Nat.le_of_ble_eq_true rfl, Nat.le_of_ble_eq_true rfl⟩)) ?_
      refine lv_istore (lv' := [(4, .int (nI K)), (3, .ref e0), (0, .ref x), (1, .int 0), (2, .int (-nI n))]) hx hb d_X_interrupt_49 hl (by decide) rfl (fun ls hl => ?_)
      refine lv_aload_n hx hb d_X_interrupt_51 rfl (lv_at hl 1 rfl) ?_
      refine lv_iload_n hx hb d_X_interrupt_52 rfl (lv_at hl 4 rfl) ?_
      refine lv_iload hx hb d_X_interrupt_53 (lv_at hl 0 rfl) ?_
      have hPc := hP.sub (ws' := [(e0, .inr (2, [.int 0, .int (nI fs), .int (nI sm), .int (nI ct), .int (nI ng)]))]) [2] rfl
      have hKc := hK.sub (tys' := []) [] rfl
      refine pci (va_runV (As := [.int (-nI n), .int (nI K)]) (rest := []) ⟨hx, hb, hml, hown, hg⟩ (c_E_numberOf0N l D e0 fs sm ct ng n K hc0 hn0 hKb (by omega) hn1) (cwV 2 hg (gV gw_375 gw_376 gw_377 gw_6 gw_378) rfl rfl rfl (by decide +kernel) ⟨Nat.le_of_ble_eq_true rfl, Nat.le_of_ble_eq_true rfl⟩) ⟨fun a U g mk q => by obtain ⟨q0, qP, qK⟩ := q; exact ⟨q0, qP, va_K.moved (u := U) (U := U.calling g mk a) (Vm.Alike.refl U.vm) qK⟩, va_recv hKc hPc (ci := 2) (q0 := 0) rfl rfl, fun U hU hW => ⟨rfl, by rw [hU]; exact hPc, va_K.moved hW.alike hKc⟩⟩ rfl rfl hl.1 rfl (lv_room (Nat.le_of_ble_eq_true rfl)) d_X_interrupt_55 (⟨Nat.le_of_ble_eq_true rfl, Nat.le_of_ble_eq_true rfl⟩)) ?_
      refine tpi (y := nI M) (by rw [hM]) ?_
      refine lv_istore (lv' := [(5, .int (nI M)), (4, .int (nI K)), (3, .ref e0), (0, .ref x), (1, .int 0), (2, .int (-nI n))]) hx hb d_X_interrupt_58 hl (by decide) rfl (fun ls hl => ?_)
      refine lv_aload_n hx hb d_X_interrupt_60 rfl (lv_at hl 3 rfl) ?_
      refine lv_aload_n hx hb d_X_interrupt_61 rfl (lv_at hl 3 rfl) ?_
      refine lv_aload_n hx hb d_X_interrupt_62 rfl (lv_at hl 3 rfl) ?_
      refine va_get (D := D) (ci := 4) (v := .ref sw) (C := R_X) (T := T_X) (N := 10) hx hb hg in_X hown hK hP 0 rfl rfl 5 (by decide) (hg _ gw_121) (fun _ h9 => h9) rfl d_X_interrupt_63 ?_
      have hPc := hP.sub (ws' := [(x, .inr (4, [.int (nI bi), .int (nI ne), .int (nI li), .int (nI sp), .int (nI q), .ref sw, .ref sr, .ref br, .ref bq, .int lb])), (sw, .inr (3, [.ref e0, .ref e1, .int (nI pl), .int (nI rw)]))]) [0, 1] rfl
      have hKc := hK.sub (tys' := []) [] rfl
      refine pci (va_runV (As := [.ref sw]) (rest := [.ref x]) ⟨hx, hb, hml, hown, hg⟩ (c_X_endLimit l D x sw sr br bq bi ne li sp q lb sw e0 e1 pl rw tw (by omega)) (cwV 1 hg (gV gw_386 gw_388 gs_8 gw_1 gw_389) rfl rfl rfl (by decide +kernel) ⟨Nat.le_of_ble_eq_true rfl, Nat.le_of_ble_eq_true rfl⟩) ⟨fun a U g mk q => by obtain ⟨q0, qP, qK, qX⟩ := q; exact ⟨q0, qP, va_K.moved (u := U) (U := U.calling g mk a) (Vm.Alike.refl U.vm) qK, qX.blind⟩, va_recv hKc hPc (ci := 4) (q0 := 0) rfl rfl, fun U hU hW => ⟨rfl, by rw [hU]; exact hPc, va_K.moved hW.alike hKc, hE.call hS noF hU hW⟩⟩ rfl rfl hl.1 rfl (lv_room (Nat.le_of_ble_eq_true rfl)) d_X_interrupt_66 (⟨Nat.le_of_ble_eq_true rfl, Nat.le_of_ble_eq_true rfl⟩)) ?_
      have hPc := hP.sub (ws' := [(x, .inr (4, [.int (nI bi), .int (nI ne), .int (nI li), .int (nI sp), .int (nI q), .ref sw, .ref sr, .ref br, .ref bq, .int lb]))]) [0] rfl
      have hKc := hK.sub (tys' := []) [] rfl
      refine pci (va_runV (As := [.int (nI (li - 1 - rw))]) (rest := []) ⟨hx, hb, hml, hown, hg⟩ (c_X_mostZeros l D x sw sr br bq bi ne li sp q lb (li - 1 - rw) (by omega)) (cwV 1 hg (gV gw_269 gw_271 gs_3 gw_1 gw_272) rfl rfl rfl (by decide +kernel) ⟨Nat.le_of_ble_eq_true rfl, Nat.le_of_ble_eq_true rfl⟩) ⟨fun a U g mk q => by obtain ⟨q0, qP, qK⟩ := q; exact ⟨q0, qP, va_K.moved (u := U) (U := U.calling g mk a) (Vm.Alike.refl U.vm) qK⟩, va_recv hKc hPc (ci := 4) (q0 := 0) rfl rfl, fun U hU hW => ⟨rfl, by rw [hU]; exact hPc, va_K.moved hW.alike hKc⟩⟩ rfl rfl hl.1 rfl (lv_room (Nat.le_of_ble_eq_true rfl)) d_X_interrupt_69 (⟨Nat.le_of_ble_eq_true rfl, Nat.le_of_ble_eq_true rfl⟩)) ?_
      refine lv_istore (lv' := [(6, .int (nI (li - 1 - rw - q - 1))), (5, .int (nI M)), (4, .int (nI K)), (3, .ref e0), (0, .ref x), (1, .int 0), (2, .int (-nI n))]) hx hb d_X_interrupt_72 hl (by decide) rfl (fun ls hl => ?_)
      refine lv_aload_n hx hb d_X_interrupt_74 rfl (lv_at hl 4 rfl) ?_
      refine lv_iload hx hb d_X_interrupt_75 (lv_at hl 2 rfl) ?_
      refine lv_iload hx hb d_X_interrupt_77 (lv_at hl 1 rfl) ?_
      refine lv_iload hx hb d_X_interrupt_79 (lv_at hl 0 rfl) ?_
      have hPc := hP.sub (ws' := [(x, .inr (4, [.int (nI bi), .int (nI ne), .int (nI li), .int (nI sp), .int (nI q), .ref sw, .ref sr, .ref br, .ref bq, .int lb]))]) [0] rfl
      have hKc := hK.sub (tys' := []) [] rfl
      refine pci (va_runV (As := [.int (nI K), .int (nI M), .int (nI (li - 1 - rw - q - 1))]) (rest := []) ⟨hx, hb, hml, hown, hg⟩ (c_X_numberLength l D x sw sr br bq bi ne li sp q lb K M (li - 1 - rw - q - 1) (by omega) (by omega) (by omega)) (cwV 3 hg (gV gw_273 gw_275 gs_4 gw_1 gw_276) rfl rfl rfl (by decide +kernel) ⟨Nat.le_of_ble_eq_true rfl, Nat.le_of_ble_eq_true rfl⟩) ⟨fun a U g mk q => by obtain ⟨q0, qP, qK⟩ := q; exact ⟨q0, qP, va_K.moved (u := U) (U := U.calling g mk a) (Vm.Alike.refl U.vm) qK⟩, va_recv hKc hPc (ci := 4) (q0 := 0) rfl rfl, fun U hU hW => ⟨rfl, by rw [hU]; exact hPc, va_K.moved hW.alike hKc⟩⟩ rfl rfl hl.1 rfl (lv_room (Nat.le_of_ble_eq_true rfl)) d_X_interrupt_81 (⟨Nat.le_of_ble_eq_true rfl, Nat.le_of_ble_eq_true rfl⟩)) ?_
      refine lv_istore (lv' := [(7, .int (nI (nlen q K M (li - 1 - rw - q - 1)))), (6, .int (nI (li - 1 - rw - q - 1))), (5, .int (nI M)), (4, .int (nI K)), (3, .ref e0), (0, .ref x), (1, .int 0), (2, .int (-nI n))]) hx hb d_X_interrupt_84 hl (by decide) rfl (fun ls hl => ?_)
      refine lv_aload_n hx hb d_X_interrupt_86 rfl (lv_at hl 5 rfl) ?_
      refine va_get (D := D) (ci := 4) (v := .ref br) (C := R_X) (T := T_X) (N := 10) hx hb hg in_X hown hK hP 0 rfl rfl 7 (by decide) (hg _ gw_123) (fun _ h9 => h9) rfl d_X_interrupt_87 ?_
      refine lv_iload hx hb d_X_interrupt_90 (lv_at hl 0 rfl) ?_
      have hPc := hP.sub (ws' := [(br, .inr (1, [.ref ra, .int (nI u)])), (ra, .inl (cB, 6000, .inl f))]) [3, 4] rfl
      have hKc := hK.sub (tys' := [(cB, .byte)]) [0] rfl
      refine pci (va_runV (As := [.int (nI (nlen q K M (li - 1 - rw - q - 1)))]) (rest := []) ⟨hx, hb, hml, hown, hg⟩ (c_B_hasRoom l D br ra cB u f (nlen q K M (li - 1 - rw - q - 1)) (by omega) (by omega)) (cwV 1 hg (gV gw_277 gw_278 gw_279 gw_2 gw_280) rfl rfl rfl (by decide +kernel) ⟨Nat.le_of_ble_eq_true rfl, Nat.le_of_ble_eq_true rfl⟩) ⟨fun a U g mk q => by obtain ⟨q0, qP, qK⟩ := q; exact ⟨q0, qP, va_K.moved (u := U) (U := U.calling g mk a) (Vm.Alike.refl U.vm) qK⟩, va_recv hKc hPc (ci := 1) (q0 := 0) rfl rfl, fun U hU hW => ⟨rfl, by rw [hU]; exact hPc, va_K.moved hW.alike hKc⟩⟩ rfl rfl hl.1 rfl (lv_room (Nat.le_of_ble_eq_true rfl)) d_X_interrupt_92 (⟨Nat.le_of_ble_eq_true rfl, Nat.le_of_ble_eq_true rfl⟩)) ?_
      refine tpi (y := 1) (if_pos hu) ?_
      refine lv_if_ne (tgt := 108) hx hb d_X_interrupt_95 (by decide) (fun c_3 => ?_) (fun c_3 => ?_)
      · skip
        refine lv_aload_n hx hb d_X_interrupt_108 rfl (lv_at hl 5 rfl) ?_
        refine lv_iload hx hb d_X_interrupt_109 (lv_at hl 3 rfl) ?_
        refine lv_iload hx hb d_X_interrupt_111 (lv_at hl 2 rfl) ?_
        refine lv_iload hx hb d_X_interrupt_113 (lv_at hl 1 rfl) ?_
        have hPc := hP.sub (ws' := [(x, .inr (4, [.int (nI bi), .int (nI ne), .int (nI li), .int (nI sp), .int (nI q), .ref sw, .ref sr, .ref br, .ref bq, .int lb])), (br, .inr (1, [.ref ra, .int (nI u)])), (ra, .inl (cB, 6000, .inl f))]) [0, 3, 4] rfl
        have hDc := hD.sub (ws' := [(x, .inr (4, [.int (nI bi), .int (nI ne), .int (nI li), .int (nI sp), .int (nI q), .ref sw, .ref sr, .ref br, .ref bq, .int lb])), (br, .inr (1, [.ref ra, .int (nI u)])), (ra, .inl (cB, 6000, .inl f))]) [0, 3, 4] (by decide) rfl
        have hKc := hK.sub (tys' := [(cB, .byte)]) [0] rfl
        refine mcv (va_runV (As := [.int (nI K), .int (nI M), .int (nI (li - 1 - rw - q - 1))]) (rest := []) ⟨hx, hb, hml, hown, hg⟩ (c_X_writeNumber l D x sw sr br bq bi ne li sp q lb ra cB u f K M (li - 1 - rw - q - 1) (by omega) (by omega) (by omega) (by omega) hu) (cwV 3 hg (gV gw_297 gw_299 gs_5 gw_1 gw_300) rfl rfl rfl (by decide +kernel) ⟨Nat.le_of_ble_eq_true rfl, Nat.le_of_ble_eq_true rfl⟩) ⟨fun a U g mk q => by obtain ⟨q0, qP, qK, qD⟩ := q; exact ⟨q0, qP, va_K.moved (u := U) (U := U.calling g mk a) (Vm.Alike.refl U.vm) qK, qD⟩, va_recv hKc hPc (ci := 4) (q0 := 0) rfl rfl, fun U hU hW => ⟨rfl, by rw [hU]; exact hPc, va_K.moved hW.alike hKc, hDc.weaken (fun _ _ _ _ => trivial)⟩⟩ rfl rfl hl.1 rfl (lv_room (Nat.le_of_ble_eq_true rfl)) d_X_interrupt_115 (⟨Nat.le_of_ble_eq_true rfl, Nat.le_of_ble_eq_true rfl⟩)) hS hP hD [0, 3, 4] rfl rfl rfl (fun H locs hP hD hS => ?_)
        have hP : va_P D CLS [(x, .inr (4, [.int (nI bi), .int (nI ne), .int (nI li), .int (nI sp), .int (nI q), .ref sw, .ref sr, .ref br, .ref bq, .int lb])), (sw, .inr (3, [.ref e0, .ref e1, .int (nI pl), .int (nI rw)])), (e0, .inr (2, [.int 0, .int (nI fs), .int (nI sm), .int (nI ct), .int (nI ng)])), (br, .inr (1, [.ref ra, .int (nI (u + nlen q K M (li - 1 - rw - q - 1)))])), (ra, .inl (cB, 6000, .inl (wnum f q K M (li - 1 - rw - q - 1) u)))] H := hP
        have hD : va_D A [(x, .inr (4, [.int (nI bi), .int (nI ne), .int (nI li), .int (nI sp), .int (nI q), .ref sw, .ref sr, .ref br, .ref bq, .int lb])), (sw, .inr (3, [.ref e0, .ref e1, .int (nI pl), .int (nI rw)])), (e0, .inr (2, [.int 0, .int (nI fs), .int (nI sm), .int (nI ct), .int (nI ng)])), (br, .inr (1, [.ref ra, .int (nI (u + nlen q K M (li - 1 - rw - q - 1)))])), (ra, .inl (cB, 6000, .inl (wnum f q K M (li - 1 - rw - q - 1) u)))] := hD
        refine lv_aload_n hx hb d_X_interrupt_118 rfl (lv_at hl 4 rfl) ?_
        refine lv_iload_n hx hb d_X_interrupt_119 rfl (lv_at hl 7 rfl) ?_
        refine lv_iload hx hb d_X_interrupt_120 (lv_at hl 2 rfl) ?_
        have hPc := hP.sub (ws' := [(e0, .inr (2, [.int 0, .int (nI fs), .int (nI sm), .int (nI ct), .int (nI ng)]))]) [2] rfl
        have hDc := hD.sub (ws' := [(e0, .inr (2, [.int 0, .int (nI fs), .int (nI sm), .int (nI ct), .int (nI ng)]))]) [2] (by decide) rfl
        have hKc := hK.sub (tys' := []) [] rfl
        refine mcv (va_runV (As := [.int (-nI n), .int (nI M)]) (rest := []) ⟨hx, hb, hml, hown, hg⟩ (c_E_learn0N l D e0 fs sm ct ng n M hc0 hn0 hs0 (by omega) (by omega) hn1) (cwV 2 hg (gV gw_390 gw_391 gw_392 gw_6 gw_393) rfl rfl rfl (by decide +kernel) ⟨Nat.le_of_ble_eq_true rfl, Nat.le_of_ble_eq_true rfl⟩) ⟨fun a U g mk q => by obtain ⟨q0, qP, qK, qD⟩ := q; exact ⟨q0, qP, va_K.moved (u := U) (U := U.calling g mk a) (Vm.Alike.refl U.vm) qK, qD⟩, va_recv hKc hPc (ci := 2) (q0 := 0) rfl rfl, fun U hU hW => ⟨rfl, by rw [hU]; exact hPc, va_K.moved hW.alike hKc, hDc.weaken (fun _ _ _ _ => trivial)⟩⟩ rfl rfl hl.1 rfl (lv_room (Nat.le_of_ble_eq_true rfl)) d_X_interrupt_122 (⟨Nat.le_of_ble_eq_true rfl, Nat.le_of_ble_eq_true rfl⟩)) hS hP hD [2] rfl rfl rfl (fun H locs hP hD hS => ?_)
        have hP : va_P D CLS [(x, .inr (4, [.int (nI bi), .int (nI ne), .int (nI li), .int (nI sp), .int (nI q), .ref sw, .ref sr, .ref br, .ref bq, .int lb])), (sw, .inr (3, [.ref e0, .ref e1, .int (nI pl), .int (nI rw)])), (e0, .inr (2, [.int 0, .int (nI fs), .int (nI (hvd ct (sm + (M + 1 - 0) / 2))), .int (nI (hvd ct ct + 1)), .int (nI (hvd ct (ng + 1)))])), (br, .inr (1, [.ref ra, .int (nI (u + nlen q K M (li - 1 - rw - q - 1)))])), (ra, .inl (cB, 6000, .inl (wnum f q K M (li - 1 - rw - q - 1) u)))] H := hP
        have hD : va_D A [(x, .inr (4, [.int (nI bi), .int (nI ne), .int (nI li), .int (nI sp), .int (nI q), .ref sw, .ref sr, .ref br, .ref bq, .int lb])), (sw, .inr (3, [.ref e0, .ref e1, .int (nI pl), .int (nI rw)])), (e0, .inr (2, [.int 0, .int (nI fs), .int (nI (hvd ct (sm + (M + 1 - 0) / 2))), .int (nI (hvd ct ct + 1)), .int (nI (hvd ct (ng + 1)))])), (br, .inr (1, [.ref ra, .int (nI (u + nlen q K M (li - 1 - rw - q - 1)))])), (ra, .inl (cB, 6000, .inl (wnum f q K M (li - 1 - rw - q - 1) u)))] := hD
        refine lv_iload hx hb d_X_interrupt_125 (lv_at hl 0 rfl) ?_
        exact W.iret (v := nI (nlen q K M (li - 1 - rw - q - 1))) hx hb hr (fun t ht hW => ⟨rfl, by rw [ht]; exact hP, (hAe ▸ hS).F ht⟩) (hAe ▸ hS).2.2 d_X_interrupt_127
      · skip
        exact absurd c_3 (by decide)
    · skip
      exact absurd c_2 (by decide)
  · skip
    exact absurd c_1 (by decide)
set_option maxHeartbeats 4000000 in
set_option maxRecDepth 100000 in
theorem c_X_interrupt1P (l : Launch) (D : va_G) (x sw sr br bq bi ne li sp q : Nat) (lb : Int32) (e0 e1 pl rw : Nat) (fs sm ct ng : Nat) (ra : Nat) (cB : ClassId) (u : Nat) (f : Nat → Int32) (tw n K M : Nat) (hc0 : ct ≤ 64) (hn0 : ng ≤ 64) (hs0 : sm < 2 ^ 29) (hKb : K ≤ 29) (hK1 : sm + ct / 2 ≤ ct * 2 ^ K) (hK2 : ∀ j, j < K → ct * 2 ^ j < sm + ct / 2) (hsp : sp ≤ 65536) (hn : n ≤ sp / 2) (hn1 : 0 < n) (hM : M = 2 * n - 1 - (if ¬ n = 0 ∧ (K = 0 ∧ 2 * ng < ct) then 1 else 0)) (hq : q ≤ 29) (hli : q + 18 ≤ li) (hlb : li ≤ 200) (hrw : rw ≤ 15) (hu : u + nlen q K M (li - 1 - rw - q - 1) ≤ 6000) : Met l y_X_interrupt (WSY y_X_interrupt b_X_interrupt 8 (some .int)) ({ frames := 4, cells := 0, slots := 0, locals := 95 }) (va_Pc [.ref x, .int 1, .int (nI n)] (fun U => va_P D CLS [(x, .inr (4, [.int (nI bi), .int (nI ne), .int (nI li), .int (nI sp), .int (nI q), .ref sw, .ref sr, .ref br, .ref bq, .int lb])), (sw, .inr (3, [.ref e0, .ref e1, .int (nI pl), .int (nI rw)])), (e1, .inr (2, [.int 1, .int (nI fs), .int (nI sm), .int (nI ct), .int (nI ng)])), (br, .inr (1, [.ref ra, .int (nI u)])), (ra, .inl (cB, 6000, .inl f))] U.heap ∧ va_K D CLS [(cB, .byte)] U ∧ va_D (fun _ => True) [(x, .inr (4, [.int (nI bi), .int (nI ne), .int (nI li), .int (nI sp), .int (nI q), .ref sw, .ref sr, .ref br, .ref bq, .int lb])), (sw, .inr (3, [.ref e0, .ref e1, .int (nI pl), .int (nI rw)])), (e1, .inr (2, [.int 1, .int (nI fs), .int (nI sm), .int (nI ct), .int (nI ng)])), (br, .inr (1, [.ref ra, .int (nI u)])), (ra, .inl (cB, 6000, .inl f))] ∧ EV (ad [(x, .inr (4, [.int (nI bi), .int (nI ne), .int (nI li), .int (nI sp), .int (nI q), .ref sw, .ref sr, .ref br, .ref bq, .int lb])), (sw, .inr (3, [.ref e0, .ref e1, .int (nI pl), .int (nI rw)])), (e1, .inr (2, [.int 1, .int (nI fs), .int (nI sm), .int (nI ct), .int (nI ng)])), (br, .inr (1, [.ref ra, .int (nI u)])), (ra, .inl (cB, 6000, .inl f))]) tw U)) (QM (some (.int (nI (nlen q K M (li - 1 - rw - q - 1))))) [(x, .inr (4, [.int (nI bi), .int (nI ne), .int (nI li), .int (nI sp), .int (nI q), .ref sw, .ref sr, .ref br, .ref bq, .int lb])), (sw, .inr (3, [.ref e0, .ref e1, .int (nI pl), .int (nI rw)])), (e1, .inr (2, [.int 1, .int (nI fs), .int (nI sm), .int (nI ct), .int (nI ng)])), (br, .inr (1, [.ref ra, .int (nI u)])), (ra, .inl (cB, 6000, .inl f))] [(x, .inr (4, [.int (nI bi), .int (nI ne), .int (nI li), .int (nI sp), .int (nI q), .ref sw, .ref sr, .ref br, .ref bq, .int lb])), (sw, .inr (3, [.ref e0, .ref e1, .int (nI pl), .int (nI rw)])), (e1, .inr (2, [.int 1, .int (nI fs), .int (nI (hvd ct (sm + (M + 1 - 1) / 2))), .int (nI (hvd ct ct + 1)), .int (nI (hvd ct ng))])), (br, .inr (1, [.ref ra, .int (nI (u + nlen q K M (li - 1 - rw - q - 1)))])), (ra, .inl (cB, 6000, .inl (wnum f q K M (li - 1 - rw - q - 1) u)))] D) 0 0 (ad [(x, .inr (4, [.int (nI bi), .int (nI ne), .int (nI li), .int (nI sp), .int (nI q), .ref sw, .ref sr, .ref br, .ref bq, .int lb])), (sw, .inr (3, [.ref e0, .ref e1, .int (nI pl), .int (nI rw)])), (e1, .inr (2, [.int 1, .int (nI fs), .int (nI sm), .int (nI ct), .int (nI ng)])), (br, .inr (1, [.ref ra, .int (nI u)])), (ra, .inl (cB, 6000, .inl f))]) := by
  refine Met.ofW (cc := b_X_interrupt) (maxL := 8) (ret := (some .int)) (by decide) rfl ?_
  intro p e s m args below meth c s₁ B hml hv
  obtain ⟨rfl, hP, hK, hD0, hE⟩ := hv
  have hx := B.exec
  have hb := B.bytes
  have hr := B.returns
  have hts := atoms_spec (ws := WSY y_X_interrupt b_X_interrupt 8 (some .int)) B.pre
  have hg : ∀ w ∈ GW, w.before _ s = true := fun w h => hts w (List.mem_cons_of_mem _ h)
  have hown : s.vm.findClass "LineGolomb" = some m.cls := findClass_of_methodNamed B.named
  have hlocks := B.notSynchronized
  obtain ⟨A, hAe⟩ : ∃ A, A = ad [(x, .inr (4, [.int (nI bi), .int (nI ne), .int (nI li), .int (nI sp), .int (nI q), .ref sw, .ref sr, .ref br, .ref bq, .int lb])), (sw, .inr (3, [.ref e0, .ref e1, .int (nI pl), .int (nI rw)])), (e1, .inr (2, [.int 1, .int (nI fs), .int (nI sm), .int (nI ct), .int (nI ng)])), (br, .inr (1, [.ref ra, .int (nI u)])), (ra, .inl (cB, 6000, .inl f))] := ⟨_, rfl⟩
  have hD : va_D A [(x, .inr (4, [.int (nI bi), .int (nI ne), .int (nI li), .int (nI sp), .int (nI q), .ref sw, .ref sr, .ref br, .ref bq, .int lb])), (sw, .inr (3, [.ref e0, .ref e1, .int (nI pl), .int (nI rw)])), (e1, .inr (2, [.int 1, .int (nI fs), .int (nI sm), .int (nI ct), .int (nI ng)])), (br, .inr (1, [.ref ra, .int (nI u)])), (ra, .inl (cB, 6000, .inl f))] := by rw [hAe]; exact va_D_ad hD0
  have hS : va_S A s.heap s.heap [] := va_S.rf
  rw [← hAe] at hE
  have hl := lv_entry ([.ref x, .int 1, .int (nI n)]) (n := 8) (Nat.le_of_ble_eq_true rfl)
  rw [lg_entry_eq]
  generalize (lg_sl ([.ref x, .int 1, .int (nI n)]) ++ List.replicate (8 - (lg_sl ([.ref x, .int 1, .int (nI n)])).length) Slot.unset).toArray = ls at hl ⊢
  have hl : lv_has ls 8 [(0, .ref x), (1, .int 1), (2, .int (nI n))] := hl
  have hMb : M ≤ 2 * n := by rw [hM]; omega
  refine lv_iload_n hx hb d_X_interrupt_0 rfl (lv_at hl 1 rfl) ?_
  have hPc := hP.sub (ws' := []) [] rfl
  have hKc := hK.sub (tys' := []) [] rfl
  refine pci (va_runS (As := [.int 1]) (rest := []) ⟨hx, hb, hml, hown, hg⟩ (c_X_isKind l D 1) (va_cwS 1 hg (gS gw_343 gw_344 gw_1 gw_345) rfl rfl rfl (by decide +kernel) ⟨Nat.le_of_ble_eq_true rfl, Nat.le_of_ble_eq_true rfl⟩) ⟨fun a U g mk q => by obtain ⟨q0, qP, qK⟩ := q; exact ⟨q0, qP, va_K.moved (u := U) (U := U.calling g mk a) (Vm.Alike.refl U.vm) qK⟩, fun U hU hW => ⟨rfl, by rw [hU]; exact hPc, va_K.moved hW.alike hKc⟩⟩ rfl rfl hl.1 rfl (lv_room (Nat.le_of_ble_eq_true rfl)) d_X_interrupt_1 (⟨Nat.le_of_ble_eq_true rfl, Nat.le_of_ble_eq_true rfl⟩)) ?_
  refine tpi (y := 1) (by decide) ?_
  refine lv_if_ne (tgt := 17) hx hb d_X_interrupt_4 (by decide) (fun c_1 => ?_) (fun c_1 => ?_)
  · skip
    refine lv_aload_n hx hb d_X_interrupt_17 rfl (lv_at hl 0 rfl) ?_
    refine lv_iload_n hx hb d_X_interrupt_18 rfl (lv_at hl 1 rfl) ?_
    refine lv_iload_n hx hb d_X_interrupt_19 rfl (lv_at hl 2 rfl) ?_
    have hPc := hP.sub (ws' := [(x, .inr (4, [.int (nI bi), .int (nI ne), .int (nI li), .int (nI sp), .int (nI q), .ref sw, .ref sr, .ref br, .ref bq, .int lb]))]) [0] rfl
    have hKc := hK.sub (tys' := []) [] rfl
    refine pci (va_runV (As := [.int 1, .int (nI n)]) (rest := []) ⟨hx, hb, hml, hown, hg⟩ (c_X_isError l D x sw sr br bq bi ne li sp q lb 1 (nI n) (by omega)) (cwV 2 hg (gV gw_362 gw_364 gs_6 gw_1 gw_365) rfl rfl rfl (by decide +kernel) ⟨Nat.le_of_ble_eq_true rfl, Nat.le_of_ble_eq_true rfl⟩) ⟨fun a U g mk q => by obtain ⟨q0, qP, qK⟩ := q; exact ⟨q0, qP, va_K.moved (u := U) (U := U.calling g mk a) (Vm.Alike.refl U.vm) qK⟩, va_recv hKc hPc (ci := 4) (q0 := 0) rfl rfl, fun U hU hW => ⟨rfl, by rw [hU]; exact hPc, va_K.moved hW.alike hKc⟩⟩ rfl rfl hl.1 rfl (lv_room (Nat.le_of_ble_eq_true rfl)) d_X_interrupt_20 (⟨Nat.le_of_ble_eq_true rfl, Nat.le_of_ble_eq_true rfl⟩)) ?_
    refine tpi (y := 1) (if_pos ⟨by rw [nI_toInt (by omega)]; omega, by rw [nI_toInt (by omega)]; omega, Or.inl (nI_ne0 hn1 (by omega))⟩) ?_
    refine lv_if_ne (tgt := 36) hx hb d_X_interrupt_23 (by decide) (fun c_2 => ?_) (fun c_2 => ?_)
    · skip
      refine lv_aload_n hx hb d_X_interrupt_36 rfl (lv_at hl 0 rfl) ?_
      refine va_get (D := D) (ci := 4) (v := .ref sw) (C := R_X) (T := T_X) (N := 10) hx hb hg in_X hown hK hP 0 rfl rfl 5 (by decide) (hg _ gw_121) (fun _ h9 => h9) rfl d_X_interrupt_37 ?_
      refine lv_iload_n hx hb d_X_interrupt_40 rfl (lv_at hl 1 rfl) ?_
      have hPc := hP.sub (ws' := [(sw, .inr (3, [.ref e0, .ref e1, .int (nI pl), .int (nI rw)]))]) [1] rfl
      have hKc := hK.sub (tys' := []) [] rfl
      refine pcr (va_runV (As := [.int 1]) (rest := []) ⟨hx, hb, hml, hown, hg⟩ (c_S_endsOf1 l D sw e0 e1 pl rw) (cwV 1 hg (gV gw_367 gw_368 gw_369 gw_5 gw_370) rfl rfl rfl (by decide +kernel) ⟨Nat.le_of_ble_eq_true rfl, Nat.le_of_ble_eq_true rfl⟩) ⟨fun a U g mk q => by obtain ⟨q0, qP, qK⟩ := q; exact ⟨q0, qP, va_K.moved (u := U) (U := U.calling g mk a) (Vm.Alike.refl U.vm) qK⟩, va_recv hKc hPc (ci := 3) (q0 := 0) rfl rfl, fun U hU hW => ⟨rfl, by rw [hU]; exact hPc, va_K.moved hW.alike hKc⟩⟩ rfl rfl hl.1 rfl (lv_room (Nat.le_of_ble_eq_true rfl)) d_X_interrupt_41 (⟨Nat.le_of_ble_eq_true rfl, Nat.le_of_ble_eq_true rfl⟩)) ?_
      refine lv_astore_n (lv' := [(3, .ref e1), (0, .ref x), (1, .int 1), (2, .int (nI n))]) hx hb d_X_interrupt_44 rfl hl (by decide) rfl (fun ls hl => ?_)
      refine lv_aload_n hx hb d_X_interrupt_45 rfl (lv_at hl 0 rfl) ?_
      have hPc := hP.sub (ws' := [(e1, .inr (2, [.int 1, .int (nI fs), .int (nI sm), .int (nI ct), .int (nI ng)]))]) [2] rfl
      have hKc := hK.sub (tys' := []) [] rfl
      refine pci (va_runV (As := []) (rest := []) ⟨hx, hb, hml, hown, hg⟩ (c_E_shift1 l D e1 fs sm ct ng K hc0 (by omega) hKb hK1 hK2) (cwV 0 hg (gV gw_371 gw_372 gw_373 gw_6 gw_374) rfl rfl rfl (by decide +kernel) ⟨Nat.le_of_ble_eq_true rfl, Nat.le_of_ble_eq_true rfl⟩) ⟨fun a U g mk q => by obtain ⟨q0, qP, qK⟩ := q; exact ⟨q0, qP, va_K.moved (u := U) (U := U.calling g mk a) (Vm.Alike.refl U.vm) qK⟩, va_recv hKc hPc (ci := 2) (q0 := 0) rfl rfl, fun U hU hW => ⟨rfl, by rw [hU]; exact hPc, va_K.moved hW.alike hKc⟩⟩ rfl rfl hl.1 rfl (lv_room (Nat.le_of_ble_eq_true rfl)) d_X_interrupt_46 (⟨Nat.le_of_ble_eq_true rfl, Nat.le_of_ble_eq_true rfl⟩)) ?_
      refine lv_istore (lv' := [(4, .int (nI K)), (3, .ref e1), (0, .ref x), (1, .int 1), (2, .int (nI n))]) hx hb d_X_interrupt_49 hl (by decide) rfl (fun ls hl => ?_)
      refine lv_aload_n hx hb d_X_interrupt_51 rfl (lv_at hl 1 rfl) ?_
      refine lv_iload_n hx hb d_X_interrupt_52 rfl (lv_at hl 4 rfl) ?_
      refine lv_iload hx hb d_X_interrupt_53 (lv_at hl 0 rfl) ?_
      have hPc := hP.sub (ws' := [(e1, .inr (2, [.int 1, .int (nI fs), .int (nI sm), .int (nI ct), .int (nI ng)]))]) [2] rfl
      have hKc := hK.sub (tys' := []) [] rfl
      refine pci (va_runV (As := [.int (nI n), .int (nI K)]) (rest := []) ⟨hx, hb, hml, hown, hg⟩ (c_E_numberOf1P l D e1 fs sm ct ng n K hc0 hn0 hKb (by omega) hn1) (cwV 2 hg (gV gw_375 gw_376 gw_377 gw_6 gw_378) rfl rfl rfl (by decide +kernel) ⟨Nat.le_of_ble_eq_true rfl, Nat.le_of_ble_eq_true rfl⟩) ⟨fun a U g mk q => by obtain ⟨q0, qP, qK⟩ := q; exact ⟨q0, qP, va_K.moved (u := U) (U := U.calling g mk a) (Vm.Alike.refl U.vm) qK⟩, va_recv hKc hPc (ci := 2) (q0 := 0) rfl rfl, fun U hU hW => ⟨rfl, by rw [hU]; exact hPc, va_K.moved hW.alike hKc⟩⟩ rfl rfl hl.1 rfl (lv_room (Nat.le_of_ble_eq_true rfl)) d_X_interrupt_55 (⟨Nat.le_of_ble_eq_true rfl, Nat.le_of_ble_eq_true rfl⟩)) ?_
      refine tpi (y := nI M) (by rw [hM]) ?_
      refine lv_istore (lv' := [(5, .int (nI M)), (4, .int (nI K)), (3, .ref e1), (0, .ref x), (1, .int 1), (2, .int (nI n))]) hx hb d_X_interrupt_58 hl (by decide) rfl (fun ls hl => ?_)
      refine lv_aload_n hx hb d_X_interrupt_60 rfl (lv_at hl 3 rfl) ?_
      refine lv_aload_n hx hb d_X_interrupt_61 rfl (lv_at hl 3 rfl) ?_
      refine lv_aload_n hx hb d_X_interrupt_62 rfl (lv_at hl 3 rfl) ?_
      refine va_get (D := D) (ci := 4) (v := .ref sw) (C := R_X) (T := T_X) (N := 10) hx hb hg in_X hown hK hP 0 rfl rfl 5 (by decide) (hg _ gw_121) (fun _ h9 => h9) rfl d_X_interrupt_63 ?_
      have hPc := hP.sub (ws' := [(x, .inr (4, [.int (nI bi), .int (nI ne), .int (nI li), .int (nI sp), .int (nI q), .ref sw, .ref sr, .ref br, .ref bq, .int lb])), (sw, .inr (3, [.ref e0, .ref e1, .int (nI pl), .int (nI rw)]))]) [0, 1] rfl
      have hKc := hK.sub (tys' := []) [] rfl
      refine pci (va_runV (As := [.ref sw]) (rest := [.ref x]) ⟨hx, hb, hml, hown, hg⟩ (c_X_endLimit l D x sw sr br bq bi ne li sp q lb sw e0 e1 pl rw tw (by omega)) (cwV 1 hg (gV gw_386 gw_388 gs_8 gw_1 gw_389) rfl rfl rfl (by decide +kernel) ⟨Nat.le_of_ble_eq_true rfl, Nat.le_of_ble_eq_true rfl⟩) ⟨fun a U g mk q => by obtain ⟨q0, qP, qK, qX⟩ := q; exact ⟨q0, qP, va_K.moved (u := U) (U := U.calling g mk a) (Vm.Alike.refl U.vm) qK, qX.blind⟩, va_recv hKc hPc (ci := 4) (q0 := 0) rfl rfl, fun U hU hW => ⟨rfl, by rw [hU]; exact hPc, va_K.moved hW.alike hKc, hE.call hS noF hU hW⟩⟩ rfl rfl hl.1 rfl (lv_room (Nat.le_of_ble_eq_true rfl)) d_X_interrupt_66 (⟨Nat.le_of_ble_eq_true rfl, Nat.le_of_ble_eq_true rfl⟩)) ?_
      have hPc := hP.sub (ws' := [(x, .inr (4, [.int (nI bi), .int (nI ne), .int (nI li), .int (nI sp), .int (nI q), .ref sw, .ref sr, .ref br, .ref bq, .int lb]))]) [0] rfl
      have hKc := hK.sub (tys' := []) [] rfl
      refine pci (va_runV (As := [.int (nI (li - 1 - rw))]) (rest := []) ⟨hx, hb, hml, hown, hg⟩ (c_X_mostZeros l D x sw sr br bq bi ne li sp q lb (li - 1 - rw) (by omega)) (cwV 1 hg (gV gw_269 gw_271 gs_3 gw_1 gw_272) rfl rfl rfl (by decide +kernel) ⟨Nat.le_of_ble_eq_true rfl, Nat.le_of_ble_eq_true rfl⟩) ⟨fun a U g mk q => by obtain ⟨q0, qP, qK⟩ := q; exact ⟨q0, qP, va_K.moved (u := U) (U := U.calling g mk a) (Vm.Alike.refl U.vm) qK⟩, va_recv hKc hPc (ci := 4) (q0 := 0) rfl rfl, fun U hU hW => ⟨rfl, by rw [hU]; exact hPc, va_K.moved hW.alike hKc⟩⟩ rfl rfl hl.1 rfl (lv_room (Nat.le_of_ble_eq_true rfl)) d_X_interrupt_69 (⟨Nat.le_of_ble_eq_true rfl, Nat.le_of_ble_eq_true rfl⟩)) ?_
      refine lv_istore (lv' := [(6, .int (nI (li - 1 - rw - q - 1))), (5, .int (nI M)), (4, .int (nI K)), (3, .ref e1), (0, .ref x), (1, .int 1), (2, .int (nI n))]) hx hb d_X_interrupt_72 hl (by decide) rfl (fun ls hl => ?_)
      refine lv_aload_n hx hb d_X_interrupt_74 rfl (lv_at hl 4 rfl) ?_
      refine lv_iload hx hb d_X_interrupt_75 (lv_at hl 2 rfl) ?_
      refine lv_iload hx hb d_X_interrupt_77 (lv_at hl 1 rfl) ?_
      refine lv_iload hx hb d_X_interrupt_79 (lv_at hl 0 rfl) ?_
      have hPc := hP.sub (ws' := [(x, .inr (4, [.int (nI bi), .int (nI ne), .int (nI li), .int (nI sp), .int (nI q), .ref sw, .ref sr, .ref br, .ref bq, .int lb]))]) [0] rfl
      have hKc := hK.sub (tys' := []) [] rfl
      refine pci (va_runV (As := [.int (nI K), .int (nI M), .int (nI (li - 1 - rw - q - 1))]) (rest := []) ⟨hx, hb, hml, hown, hg⟩ (c_X_numberLength l D x sw sr br bq bi ne li sp q lb K M (li - 1 - rw - q - 1) (by omega) (by omega) (by omega)) (cwV 3 hg (gV gw_273 gw_275 gs_4 gw_1 gw_276) rfl rfl rfl (by decide +kernel) ⟨Nat.le_of_ble_eq_true rfl, Nat.le_of_ble_eq_true rfl⟩) ⟨fun a U g mk q => by obtain ⟨q0, qP, qK⟩ := q; exact ⟨q0, qP, va_K.moved (u := U) (U := U.calling g mk a) (Vm.Alike.refl U.vm) qK⟩, va_recv hKc hPc (ci := 4) (q0 := 0) rfl rfl, fun U hU hW => ⟨rfl, by rw [hU]; exact hPc, va_K.moved hW.alike hKc⟩⟩ rfl rfl hl.1 rfl (lv_room (Nat.le_of_ble_eq_true rfl)) d_X_interrupt_81 (⟨Nat.le_of_ble_eq_true rfl, Nat.le_of_ble_eq_true rfl⟩)) ?_
      refine lv_istore (lv' := [(7, .int (nI (nlen q K M (li - 1 - rw - q - 1)))), (6, .int (nI (li - 1 - rw - q - 1))), (5, .int (nI M)), (4, .int (nI K)), (3, .ref e1), (0, .ref x), (1, .int 1), (2, .int (nI n))]) hx hb d_X_interrupt_84 hl (by decide) rfl (fun ls hl => ?_)
      refine lv_aload_n hx hb d_X_interrupt_86 rfl (lv_at hl 5 rfl) ?_
      refine va_get (D := D) (ci := 4) (v := .ref br) (C := R_X) (T := T_X) (N := 10) hx hb hg in_X hown hK hP 0 rfl rfl 7 (by decide) (hg _ gw_123) (fun _ h9 => h9) rfl d_X_interrupt_87 ?_
      refine lv_iload hx hb d_X_interrupt_90 (lv_at hl 0 rfl) ?_
      have hPc := hP.sub (ws' := [(br, .inr (1, [.ref ra, .int (nI u)])), (ra, .inl (cB, 6000, .inl f))]) [3, 4] rfl
      have hKc := hK.sub (tys' := [(cB, .byte)]) [0] rfl
      refine pci (va_runV (As := [.int (nI (nlen q K M (li - 1 - rw - q - 1)))]) (rest := []) ⟨hx, hb, hml, hown, hg⟩ (c_B_hasRoom l D br ra cB u f (nlen q K M (li - 1 - rw - q - 1)) (by omega) (by omega)) (cwV 1 hg (gV gw_277 gw_278 gw_279 gw_2 gw_280) rfl rfl rfl (by decide +kernel) ⟨Nat.le_of_ble_eq_true rfl, Nat.le_of_ble_eq_true rfl⟩) ⟨fun a U g mk q => by obtain ⟨q0, qP, qK⟩ := q; exact ⟨q0, qP, va_K.moved (u := U) (U := U.calling g mk a) (Vm.Alike.refl U.vm) qK⟩, va_recv hKc hPc (ci := 1) (q0 := 0) rfl rfl, fun U hU hW => ⟨rfl, by rw [hU]; exact hPc, va_K.moved hW.alike hKc⟩⟩ rfl rfl hl.1 rfl (lv_room (Nat.le_of_ble_eq_true rfl)) d_X_interrupt_92 (⟨Nat.le_of_ble_eq_true rfl, Nat.le_of_ble_eq_true rfl⟩)) ?_
      refine tpi (y := 1) (if_pos hu) ?_
      refine lv_if_ne (tgt := 108) hx hb d_X_interrupt_95 (by decide) (fun c_3 => ?_) (fun c_3 => ?_)
      · skip
        refine lv_aload_n hx hb d_X_interrupt_108 rfl (lv_at hl 5 rfl) ?_
        refine lv_iload hx hb d_X_interrupt_109 (lv_at hl 3 rfl) ?_
        refine lv_iload hx hb d_X_interrupt_111 (lv_at hl 2 rfl) ?_
        refine lv_iload hx hb d_X_interrupt_113 (lv_at hl 1 rfl) ?_
        have hPc := hP.sub (ws' := [(x, .inr (4, [.int (nI bi), .int (nI ne), .int (nI li), .int (nI sp), .int (nI q), .ref sw, .ref sr, .ref br, .ref bq, .int lb])), (br, .inr (1, [.ref ra, .int (nI u)])), (ra, .inl (cB, 6000, .inl f))]) [0, 3, 4] rfl
        have hDc := hD.sub (ws' := [(x, .inr (4, [.int (nI bi), .int (nI ne), .int (nI li), .int (nI sp), .int (nI q), .ref sw, .ref sr, .ref br, .ref bq, .int lb])), (br, .inr (1, [.ref ra, .int (nI u)])), (ra, .inl (cB, 6000, .inl f))]) [0, 3, 4] (by decide) rfl
        have hKc := hK.sub (tys' := [(cB, .byte)]) [0] rfl
        refine mcv (va_runV (As := [.int (nI K), .int (nI M), .int (nI (li - 1 - rw - q - 1))]) (rest := []) ⟨hx, hb, hml, hown, hg⟩ (c_X_writeNumber l D x sw sr br bq bi ne li sp q lb ra cB u f K M (li - 1 - rw - q - 1) (by omega) (by omega) (by omega) (by omega) hu) (cwV 3 hg (gV gw_297 gw_299 gs_5 gw_1 gw_300) rfl rfl rfl (by decide +kernel) ⟨Nat.le_of_ble_eq_true rfl, Nat.le_of_ble_eq_true rfl⟩) ⟨fun a U g mk q => by obtain ⟨q0, qP, qK, qD⟩ := q; exact ⟨q0, qP, va_K.moved (u := U) (U := U.calling g mk a) (Vm.Alike.refl U.vm) qK, qD⟩, va_recv hKc hPc (ci := 4) (q0 := 0) rfl rfl, fun U hU hW => ⟨rfl, by rw [hU]; exact hPc, va_K.moved hW.alike hKc, hDc.weaken (fun _ _ _ _ => trivial)⟩⟩ rfl rfl hl.1 rfl (lv_room (Nat.le_of_ble_eq_true rfl)) d_X_interrupt_115 (⟨Nat.le_of_ble_eq_true rfl, Nat.le_of_ble_eq_true rfl⟩)) hS hP hD [0, 3, 4] rfl rfl rfl (fun H locs hP hD hS => ?_)
        have hP : va_P D CLS [(x, .inr (4, [.int (nI bi), .int (nI ne), .int (nI li), .int (nI sp), .int (nI q), .ref sw, .ref sr, .ref br, .ref bq, .int lb])), (sw, .inr (3, [.ref e0, .ref e1, .int (nI pl), .int (nI rw)])), (e1, .inr (2, [.int 1, .int (nI fs), .int (nI sm), .int (nI ct), .int (nI ng)])), (br, .inr (1, [.ref ra, .int (nI (u + nlen q K M (li - 1 - rw - q - 1)))])), (ra, .inl (cB, 6000, .inl (wnum f q K M (li - 1 - rw - q - 1) u)))] H := hP
        have hD : va_D A [(x, .inr (4, [.int (nI bi), .int (nI ne), .int (nI li), .int (nI sp), .int (nI q), .ref sw, .ref sr, .ref br, .ref bq, .int lb])), (sw, .inr (3, [.ref e0, .ref e1, .int (nI pl), .int (nI rw)])), (e1, .inr (2, [.int 1, .int (nI fs), .int (nI sm), .int (nI ct), .int (nI ng)])), (br, .inr (1, [.ref ra, .int (nI (u + nlen q K M (li - 1 - rw - q - 1)))])), (ra, .inl (cB, 6000, .inl (wnum f q K M (li - 1 - rw - q - 1) u)))] := hD
        refine lv_aload_n hx hb d_X_interrupt_118 rfl (lv_at hl 4 rfl) ?_
        refine lv_iload_n hx hb d_X_interrupt_119 rfl (lv_at hl 7 rfl) ?_
        refine lv_iload hx hb d_X_interrupt_120 (lv_at hl 2 rfl) ?_
        have hPc := hP.sub (ws' := [(e1, .inr (2, [.int 1, .int (nI fs), .int (nI sm), .int (nI ct), .int (nI ng)]))]) [2] rfl
        have hDc := hD.sub (ws' := [(e1, .inr (2, [.int 1, .int (nI fs), .int (nI sm), .int (nI ct), .int (nI ng)]))]) [2] (by decide) rfl
        have hKc := hK.sub (tys' := []) [] rfl
        refine mcv (va_runV (As := [.int (nI n), .int (nI M)]) (rest := []) ⟨hx, hb, hml, hown, hg⟩ (c_E_learn1P l D e1 fs sm ct ng n M hc0 hn0 hs0 (by omega) (by omega)) (cwV 2 hg (gV gw_390 gw_391 gw_392 gw_6 gw_393) rfl rfl rfl (by decide +kernel) ⟨Nat.le_of_ble_eq_true rfl, Nat.le_of_ble_eq_true rfl⟩) ⟨fun a U g mk q => by obtain ⟨q0, qP, qK, qD⟩ := q; exact ⟨q0, qP, va_K.moved (u := U) (U := U.calling g mk a) (Vm.Alike.refl U.vm) qK, qD⟩, va_recv hKc hPc (ci := 2) (q0 := 0) rfl rfl, fun U hU hW => ⟨rfl, by rw [hU]; exact hPc, va_K.moved hW.alike hKc, hDc.weaken (fun _ _ _ _ => trivial)⟩⟩ rfl rfl hl.1 rfl (lv_room (Nat.le_of_ble_eq_true rfl)) d_X_interrupt_122 (⟨Nat.le_of_ble_eq_true rfl, Nat.le_of_ble_eq_true rfl⟩)) hS hP hD [2] rfl rfl rfl (fun H locs hP hD hS => ?_)
        have hP : va_P D CLS [(x, .inr (4, [.int (nI bi), .int (nI ne), .int (nI li), .int (nI sp), .int (nI q), .ref sw, .ref sr, .ref br, .ref bq, .int lb])), (sw, .inr (3, [.ref e0, .ref e1, .int (nI pl), .int (nI rw)])), (e1, .inr (2, [.int 1, .int (nI fs), .int (nI (hvd ct (sm + (M + 1 - 1) / 2))), .int (nI (hvd ct ct + 1)), .int (nI (hvd ct ng))])), (br, .inr (1, [.ref ra, .int (nI (u + nlen q K M (li - 1 - rw - q - 1)))])), (ra, .inl (cB, 6000, .inl (wnum f q K M (li - 1 - rw - q - 1) u)))] H := hP
        have hD : va_D A [(x, .inr (4, [.int (nI bi), .int (nI ne), .int (nI li), .int (nI sp), .int (nI q), .ref sw, .ref sr, .ref br, .ref bq, .int lb])), (sw, .inr (3, [.ref e0, .ref e1, .int (nI pl), .int (nI rw)])), (e1, .inr (2, [.int 1, .int (nI fs), .int (nI (hvd ct (sm + (M + 1 - 1) / 2))), .int (nI (hvd ct ct + 1)), .int (nI (hvd ct ng))])), (br, .inr (1, [.ref ra, .int (nI (u + nlen q K M (li - 1 - rw - q - 1)))])), (ra, .inl (cB, 6000, .inl (wnum f q K M (li - 1 - rw - q - 1) u)))] := hD
        refine lv_iload hx hb d_X_interrupt_125 (lv_at hl 0 rfl) ?_
        exact W.iret (v := nI (nlen q K M (li - 1 - rw - q - 1))) hx hb hr (fun t ht hW => ⟨rfl, by rw [ht]; exact hP, (hAe ▸ hS).F ht⟩) (hAe ▸ hS).2.2 d_X_interrupt_127
      · skip
        exact absurd c_3 (by decide)
    · skip
      exact absurd c_2 (by decide)
  · skip
    exact absurd c_1 (by decide)
set_option maxHeartbeats 4000000 in
set_option maxRecDepth 100000 in
theorem c_X_interrupt1N (l : Launch) (D : va_G) (x sw sr br bq bi ne li sp q : Nat) (lb : Int32) (e0 e1 pl rw : Nat) (fs sm ct ng : Nat) (ra : Nat) (cB : ClassId) (u : Nat) (f : Nat → Int32) (tw n K M : Nat) (hc0 : ct ≤ 64) (hn0 : ng ≤ 64) (hs0 : sm < 2 ^ 29) (hKb : K ≤ 29) (hK1 : sm + ct / 2 ≤ ct * 2 ^ K) (hK2 : ∀ j, j < K → ct * 2 ^ j < sm + ct / 2) (hsp : sp ≤ 65536) (hn : n ≤ sp / 2) (hn1 : 0 < n) (hM : M = 2 * n - 1 - (if (K = 0 ∧ 2 * ng < ct) then 0 else 1)) (hq : q ≤ 29) (hli : q + 18 ≤ li) (hlb : li ≤ 200) (hrw : rw ≤ 15) (hu : u + nlen q K M (li - 1 - rw - q - 1) ≤ 6000) : Met l y_X_interrupt (WSY y_X_interrupt b_X_interrupt 8 (some .int)) ({ frames := 4, cells := 0, slots := 0, locals := 95 }) (va_Pc [.ref x, .int 1, .int (-nI n)] (fun U => va_P D CLS [(x, .inr (4, [.int (nI bi), .int (nI ne), .int (nI li), .int (nI sp), .int (nI q), .ref sw, .ref sr, .ref br, .ref bq, .int lb])), (sw, .inr (3, [.ref e0, .ref e1, .int (nI pl), .int (nI rw)])), (e1, .inr (2, [.int 1, .int (nI fs), .int (nI sm), .int (nI ct), .int (nI ng)])), (br, .inr (1, [.ref ra, .int (nI u)])), (ra, .inl (cB, 6000, .inl f))] U.heap ∧ va_K D CLS [(cB, .byte)] U ∧ va_D (fun _ => True) [(x, .inr (4, [.int (nI bi), .int (nI ne), .int (nI li), .int (nI sp), .int (nI q), .ref sw, .ref sr, .ref br, .ref bq, .int lb])), (sw, .inr (3, [.ref e0, .ref e1, .int (nI pl), .int (nI rw)])), (e1, .inr (2, [.int 1, .int (nI fs), .int (nI sm), .int (nI ct), .int (nI ng)])), (br, .inr (1, [.ref ra, .int (nI u)])), (ra, .inl (cB, 6000, .inl f))] ∧ EV (ad [(x, .inr (4, [.int (nI bi), .int (nI ne), .int (nI li), .int (nI sp), .int (nI q), .ref sw, .ref sr, .ref br, .ref bq, .int lb])), (sw, .inr (3, [.ref e0, .ref e1, .int (nI pl), .int (nI rw)])), (e1, .inr (2, [.int 1, .int (nI fs), .int (nI sm), .int (nI ct), .int (nI ng)])), (br, .inr (1, [.ref ra, .int (nI u)])), (ra, .inl (cB, 6000, .inl f))]) tw U)) (QM (some (.int (nI (nlen q K M (li - 1 - rw - q - 1))))) [(x, .inr (4, [.int (nI bi), .int (nI ne), .int (nI li), .int (nI sp), .int (nI q), .ref sw, .ref sr, .ref br, .ref bq, .int lb])), (sw, .inr (3, [.ref e0, .ref e1, .int (nI pl), .int (nI rw)])), (e1, .inr (2, [.int 1, .int (nI fs), .int (nI sm), .int (nI ct), .int (nI ng)])), (br, .inr (1, [.ref ra, .int (nI u)])), (ra, .inl (cB, 6000, .inl f))] [(x, .inr (4, [.int (nI bi), .int (nI ne), .int (nI li), .int (nI sp), .int (nI q), .ref sw, .ref sr, .ref br, .ref bq, .int lb])), (sw, .inr (3, [.ref e0, .ref e1, .int (nI pl), .int (nI rw)])), (e1, .inr (2, [.int 1, .int (nI fs), .int (nI (hvd ct (sm + (M + 1 - 1) / 2))), .int (nI (hvd ct ct + 1)), .int (nI (hvd ct (ng + 1)))])), (br, .inr (1, [.ref ra, .int (nI (u + nlen q K M (li - 1 - rw - q - 1)))])), (ra, .inl (cB, 6000, .inl (wnum f q K M (li - 1 - rw - q - 1) u)))] D) 0 0 (ad [(x, .inr (4, [.int (nI bi), .int (nI ne), .int (nI li), .int (nI sp), .int (nI q), .ref sw, .ref sr, .ref br, .ref bq, .int lb])), (sw, .inr (3, [.ref e0, .ref e1, .int (nI pl), .int (nI rw)])), (e1, .inr (2, [.int 1, .int (nI fs), .int (nI sm), .int (nI ct), .int (nI ng)])), (br, .inr (1, [.ref ra, .int (nI u)])), (ra, .inl (cB, 6000, .inl f))]) := by
  refine Met.ofW (cc := b_X_interrupt) (maxL := 8) (ret := (some .int)) (by decide) rfl ?_
  intro p e s m args below meth c s₁ B hml hv
  obtain ⟨rfl, hP, hK, hD0, hE⟩ := hv
  have hx := B.exec
  have hb := B.bytes
  have hr := B.returns
  have hts := atoms_spec (ws := WSY y_X_interrupt b_X_interrupt 8 (some .int)) B.pre
  have hg : ∀ w ∈ GW, w.before _ s = true := fun w h => hts w (List.mem_cons_of_mem _ h)
  have hown : s.vm.findClass "LineGolomb" = some m.cls := findClass_of_methodNamed B.named
  have hlocks := B.notSynchronized
  obtain ⟨A, hAe⟩ : ∃ A, A = ad [(x, .inr (4, [.int (nI bi), .int (nI ne), .int (nI li), .int (nI sp), .int (nI q), .ref sw, .ref sr, .ref br, .ref bq, .int lb])), (sw, .inr (3, [.ref e0, .ref e1, .int (nI pl), .int (nI rw)])), (e1, .inr (2, [.int 1, .int (nI fs), .int (nI sm), .int (nI ct), .int (nI ng)])), (br, .inr (1, [.ref ra, .int (nI u)])), (ra, .inl (cB, 6000, .inl f))] := ⟨_, rfl⟩
  have hD : va_D A [(x, .inr (4, [.int (nI bi), .int (nI ne), .int (nI li), .int (nI sp), .int (nI q), .ref sw, .ref sr, .ref br, .ref bq, .int lb])), (sw, .inr (3, [.ref e0, .ref e1, .int (nI pl), .int (nI rw)])), (e1, .inr (2, [.int 1, .int (nI fs), .int (nI sm), .int (nI ct), .int (nI ng)])), (br, .inr (1, [.ref ra, .int (nI u)])), (ra, .inl (cB, 6000, .inl f))] := by rw [hAe]; exact va_D_ad hD0
  have hS : va_S A s.heap s.heap [] := va_S.rf
  rw [← hAe] at hE
  have hl := lv_entry ([.ref x, .int 1, .int (-nI n)]) (n := 8) (Nat.le_of_ble_eq_true rfl)
  rw [lg_entry_eq]
  generalize (lg_sl ([.ref x, .int 1, .int (-nI n)]) ++ List.replicate (8 - (lg_sl ([.ref x, .int 1, .int (-nI n)])).length) Slot.unset).toArray = ls at hl ⊢
  have hl : lv_has ls 8 [(0, .ref x), (1, .int 1), (2, .int (-nI n))] := hl
  have hMb : M ≤ 2 * n := by rw [hM]; omega
  refine lv_iload_n hx hb d_X_interrupt_0 rfl (lv_at hl 1 rfl) ?_
  have hPc := hP.sub (ws' := []) [] rfl
  have hKc := hK.sub (tys' := []) [] rfl
  refine pci (va_runS (As := [.int 1]) (rest := []) ⟨hx, hb, hml, hown, hg⟩ (c_X_isKind l D 1) (va_cwS 1 hg (gS gw_343 gw_344 gw_1 gw_345) rfl rfl rfl (by decide +kernel) ⟨Nat.le_of_ble_eq_true rfl, Nat.le_of_ble_eq_true rfl⟩) ⟨fun a U g mk q => by obtain ⟨q0, qP, qK⟩ := q; exact ⟨q0, qP, va_K.moved (u := U) (U := U.calling g mk a) (Vm.Alike.refl U.vm) qK⟩, fun U hU hW => ⟨rfl, by rw [hU]; exact hPc, va_K.moved hW.alike hKc⟩⟩ rfl rfl hl.1 rfl (lv_room (Nat.le_of_ble_eq_true rfl)) d_X_interrupt_1 (⟨Nat.le_of_ble_eq_true rfl, Nat.le_of_ble_eq_true rfl⟩)) ?_
  refine tpi (y := 1) (by decide) ?_
  refine lv_if_ne (tgt := 17) hx hb d_X_interrupt_4 (by decide) (fun c_1 => ?_) (fun c_1 => ?_)
  · skip
    refine lv_aload_n hx hb d_X_interrupt_17 rfl (lv_at hl 0 rfl) ?_
    refine lv_iload_n hx hb d_X_interrupt_18 rfl (lv_at hl 1 rfl) ?_
    refine lv_iload_n hx hb d_X_interrupt_19 rfl (lv_at hl 2 rfl) ?_
    have hPc := hP.sub (ws' := [(x, .inr (4, [.int (nI bi), .int (nI ne), .int (nI li), .int (nI sp), .int (nI q), .ref sw, .ref sr, .ref br, .ref bq, .int lb]))]) [0] rfl
    have hKc := hK.sub (tys' := []) [] rfl
    refine pci (va_runV (As := [.int 1, .int (-nI n)]) (rest := []) ⟨hx, hb, hml, hown, hg⟩ (c_X_isError l D x sw sr br bq bi ne li sp q lb 1 (-nI n) (by omega)) (cwV 2 hg (gV gw_362 gw_364 gs_6 gw_1 gw_365) rfl rfl rfl (by decide +kernel) ⟨Nat.le_of_ble_eq_true rfl, Nat.le_of_ble_eq_true rfl⟩) ⟨fun a U g mk q => by obtain ⟨q0, qP, qK⟩ := q; exact ⟨q0, qP, va_K.moved (u := U) (U := U.calling g mk a) (Vm.Alike.refl U.vm) qK⟩, va_recv hKc hPc (ci := 4) (q0 := 0) rfl rfl, fun U hU hW => ⟨rfl, by rw [hU]; exact hPc, va_K.moved hW.alike hKc⟩⟩ rfl rfl hl.1 rfl (lv_room (Nat.le_of_ble_eq_true rfl)) d_X_interrupt_20 (⟨Nat.le_of_ble_eq_true rfl, Nat.le_of_ble_eq_true rfl⟩)) ?_
    refine tpi (y := 1) (if_pos ⟨by rw [ngT (by omega)]; omega, by rw [ngT (by omega)]; omega, Or.inl (by rw [eqT, ngT (by omega), zT]; omega)⟩) ?_
    refine lv_if_ne (tgt := 36) hx hb d_X_interrupt_23 (by decide) (fun c_2 => ?_) (fun c_2 => ?_)
    · skip
      refine lv_aload_n hx hb d_X_interrupt_36 rfl (lv_at hl 0 rfl) ?_
      refine va_get (D := D) (ci := 4) (v := .ref sw) (C := R_X) (T := T_X) (N := 10) hx hb hg in_X hown hK hP 0 rfl rfl 5 (by decide) (hg _ gw_121) (fun _ h9 => h9) rfl d_X_interrupt_37 ?_
      refine lv_iload_n hx hb d_X_interrupt_40 rfl (lv_at hl 1 rfl) ?_
      have hPc := hP.sub (ws' := [(sw, .inr (3, [.ref e0, .ref e1, .int (nI pl), .int (nI rw)]))]) [1] rfl
      have hKc := hK.sub (tys' := []) [] rfl
      refine pcr (va_runV (As := [.int 1]) (rest := []) ⟨hx, hb, hml, hown, hg⟩ (c_S_endsOf1 l D sw e0 e1 pl rw) (cwV 1 hg (gV gw_367 gw_368 gw_369 gw_5 gw_370) rfl rfl rfl (by decide +kernel) ⟨Nat.le_of_ble_eq_true rfl, Nat.le_of_ble_eq_true rfl⟩) ⟨fun a U g mk q => by obtain ⟨q0, qP, qK⟩ := q; exact ⟨q0, qP, va_K.moved (u := U) (U := U.calling g mk a) (Vm.Alike.refl U.vm) qK⟩, va_recv hKc hPc (ci := 3) (q0 := 0) rfl rfl, fun U hU hW => ⟨rfl, by rw [hU]; exact hPc, va_K.moved hW.alike hKc⟩⟩ rfl rfl hl.1 rfl (lv_room (Nat.le_of_ble_eq_true rfl)) d_X_interrupt_41 (⟨Nat.le_of_ble_eq_true rfl, Nat.le_of_ble_eq_true rfl⟩)) ?_
      refine lv_astore_n (lv' := [(3, .ref e1), (0, .ref x), (1, .int 1), (2, .int (-nI n))]) hx hb d_X_interrupt_44 rfl hl (by decide) rfl (fun ls hl => ?_)
      refine lv_aload_n hx hb d_X_interrupt_45 rfl (lv_at hl 0 rfl) ?_
      have hPc := hP.sub (ws' := [(e1, .inr (2, [.int 1, .int (nI fs), .int (nI sm), .int (nI ct), .int (nI ng)]))]) [2] rfl
      have hKc := hK.sub (tys' := []) [] rfl
      refine pci (va_runV (As := []) (rest := []) ⟨hx, hb, hml, hown, hg⟩ (c_E_shift1 l D e1 fs sm ct ng K hc0 (by omega) hKb hK1 hK2) (cwV 0 hg (gV gw_371 gw_372 gw_373 gw_6 gw_374) rfl rfl rfl (by decide +kernel) ⟨Nat.le_of_ble_eq_true rfl, Nat.le_of_ble_eq_true rfl⟩) ⟨fun a U g mk q => by obtain ⟨q0, qP, qK⟩ := q; exact ⟨q0, qP, va_K.moved (u := U) (U := U.calling g mk a) (Vm.Alike.refl U.vm) qK⟩, va_recv hKc hPc (ci := 2) (q0 := 0) rfl rfl, fun U hU hW => ⟨rfl, by rw [hU]; exact hPc, va_K.moved hW.alike hKc⟩⟩ rfl rfl hl.1 rfl (lv_room (Nat.le_of_ble_eq_true rfl)) d_X_interrupt_46 (⟨Nat.le_of_ble_eq_true rfl, Nat.le_of_ble_eq_true rfl⟩)) ?_
      refine lv_istore (lv' := [(4, .int (nI K)), (3, .ref e1), (0, .ref x), (1, .int 1), (2, .int (-nI n))]) hx hb d_X_interrupt_49 hl (by decide) rfl (fun ls hl => ?_)
      refine lv_aload_n hx hb d_X_interrupt_51 rfl (lv_at hl 1 rfl) ?_
      refine lv_iload_n hx hb d_X_interrupt_52 rfl (lv_at hl 4 rfl) ?_
      refine lv_iload hx hb d_X_interrupt_53 (lv_at hl 0 rfl) ?_
      have hPc := hP.sub (ws' := [(e1, .inr (2, [.int 1, .int (nI fs), .int (nI sm), .int (nI ct), .int (nI ng)]))]) [2] rfl
      have hKc := hK.sub (tys' := []) [] rfl
      refine pci (va_runV (As := [.int (-nI n), .int (nI K)]) (rest := []) ⟨hx, hb, hml, hown, hg⟩ (c_E_numberOf1N l D e1 fs sm ct ng n K hc0 hn0 hKb (by omega) hn1) (cwV 2 hg (gV gw_375 gw_376 gw_377 gw_6 gw_378) rfl rfl rfl (by decide +kernel) ⟨Nat.le_of_ble_eq_true rfl, Nat.le_of_ble_eq_true rfl⟩) ⟨fun a U g mk q => by obtain ⟨q0, qP, qK⟩ := q; exact ⟨q0, qP, va_K.moved (u := U) (U := U.calling g mk a) (Vm.Alike.refl U.vm) qK⟩, va_recv hKc hPc (ci := 2) (q0 := 0) rfl rfl, fun U hU hW => ⟨rfl, by rw [hU]; exact hPc, va_K.moved hW.alike hKc⟩⟩ rfl rfl hl.1 rfl (lv_room (Nat.le_of_ble_eq_true rfl)) d_X_interrupt_55 (⟨Nat.le_of_ble_eq_true rfl, Nat.le_of_ble_eq_true rfl⟩)) ?_
      refine tpi (y := nI M) (by rw [hM]) ?_
      refine lv_istore (lv' := [(5, .int (nI M)), (4, .int (nI K)), (3, .ref e1), (0, .ref x), (1, .int 1), (2, .int (-nI n))]) hx hb d_X_interrupt_58 hl (by decide) rfl (fun ls hl => ?_)
      refine lv_aload_n hx hb d_X_interrupt_60 rfl (lv_at hl 3 rfl) ?_
      refine lv_aload_n hx hb d_X_interrupt_61 rfl (lv_at hl 3 rfl) ?_
      refine lv_aload_n hx hb d_X_interrupt_62 rfl (lv_at hl 3 rfl) ?_
      refine va_get (D := D) (ci := 4) (v := .ref sw) (C := R_X) (T := T_X) (N := 10) hx hb hg in_X hown hK hP 0 rfl rfl 5 (by decide) (hg _ gw_121) (fun _ h9 => h9) rfl d_X_interrupt_63 ?_
      have hPc := hP.sub (ws' := [(x, .inr (4, [.int (nI bi), .int (nI ne), .int (nI li), .int (nI sp), .int (nI q), .ref sw, .ref sr, .ref br, .ref bq, .int lb])), (sw, .inr (3, [.ref e0, .ref e1, .int (nI pl), .int (nI rw)]))]) [0, 1] rfl
      have hKc := hK.sub (tys' := []) [] rfl
      refine pci (va_runV (As := [.ref sw]) (rest := [.ref x]) ⟨hx, hb, hml, hown, hg⟩ (c_X_endLimit l D x sw sr br bq bi ne li sp q lb sw e0 e1 pl rw tw (by omega)) (cwV 1 hg (gV gw_386 gw_388 gs_8 gw_1 gw_389) rfl rfl rfl (by decide +kernel) ⟨Nat.le_of_ble_eq_true rfl, Nat.le_of_ble_eq_true rfl⟩) ⟨fun a U g mk q => by obtain ⟨q0, qP, qK, qX⟩ := q; exact ⟨q0, qP, va_K.moved (u := U) (U := U.calling g mk a) (Vm.Alike.refl U.vm) qK, qX.blind⟩, va_recv hKc hPc (ci := 4) (q0 := 0) rfl rfl, fun U hU hW => ⟨rfl, by rw [hU]; exact hPc, va_K.moved hW.alike hKc, hE.call hS noF hU hW⟩⟩ rfl rfl hl.1 rfl (lv_room (Nat.le_of_ble_eq_true rfl)) d_X_interrupt_66 (⟨Nat.le_of_ble_eq_true rfl, Nat.le_of_ble_eq_true rfl⟩)) ?_
      have hPc := hP.sub (ws' := [(x, .inr (4, [.int (nI bi), .int (nI ne), .int (nI li), .int (nI sp), .int (nI q), .ref sw, .ref sr, .ref br, .ref bq, .int lb]))]) [0] rfl
      have hKc := hK.sub (tys' := []) [] rfl
      refine pci (va_runV (As := [.int (nI (li - 1 - rw))]) (rest := []) ⟨hx, hb, hml, hown, hg⟩ (c_X_mostZeros l D x sw sr br bq bi ne li sp q lb (li - 1 - rw) (by omega)) (cwV 1 hg (gV gw_269 gw_271 gs_3 gw_1 gw_272) rfl rfl rfl (by decide +kernel) ⟨Nat.le_of_ble_eq_true rfl, Nat.le_of_ble_eq_true rfl⟩) ⟨fun a U g mk q => by obtain ⟨q0, qP, qK⟩ := q; exact ⟨q0, qP, va_K.moved (u := U) (U := U.calling g mk a) (Vm.Alike.refl U.vm) qK⟩, va_recv hKc hPc (ci := 4) (q0 := 0) rfl rfl, fun U hU hW => ⟨rfl, by rw [hU]; exact hPc, va_K.moved hW.alike hKc⟩⟩ rfl rfl hl.1 rfl (lv_room (Nat.le_of_ble_eq_true rfl)) d_X_interrupt_69 (⟨Nat.le_of_ble_eq_true rfl, Nat.le_of_ble_eq_true rfl⟩)) ?_
      refine lv_istore (lv' := [(6, .int (nI (li - 1 - rw - q - 1))), (5, .int (nI M)), (4, .int (nI K)), (3, .ref e1), (0, .ref x), (1, .int 1), (2, .int (-nI n))]) hx hb d_X_interrupt_72 hl (by decide) rfl (fun ls hl => ?_)
      refine lv_aload_n hx hb d_X_interrupt_74 rfl (lv_at hl 4 rfl) ?_
      refine lv_iload hx hb d_X_interrupt_75 (lv_at hl 2 rfl) ?_
      refine lv_iload hx hb d_X_interrupt_77 (lv_at hl 1 rfl) ?_
      refine lv_iload hx hb d_X_interrupt_79 (lv_at hl 0 rfl) ?_
      have hPc := hP.sub (ws' := [(x, .inr (4, [.int (nI bi), .int (nI ne), .int (nI li), .int (nI sp), .int (nI q), .ref sw, .ref sr, .ref br, .ref bq, .int lb]))]) [0] rfl
      have hKc := hK.sub (tys' := []) [] rfl
      refine pci (va_runV (As := [.int (nI K), .int (nI M), .int (nI (li - 1 - rw - q - 1))]) (rest := []) ⟨hx, hb, hml, hown, hg⟩ (c_X_numberLength l D x sw sr br bq bi ne li sp q lb K M (li - 1 - rw - q - 1) (by omega) (by omega) (by omega)) (cwV 3 hg (gV gw_273 gw_275 gs_4 gw_1 gw_276) rfl rfl rfl (by decide +kernel) ⟨Nat.le_of_ble_eq_true rfl, Nat.le_of_ble_eq_true rfl⟩) ⟨fun a U g mk q => by obtain ⟨q0, qP, qK⟩ := q; exact ⟨q0, qP, va_K.moved (u := U) (U := U.calling g mk a) (Vm.Alike.refl U.vm) qK⟩, va_recv hKc hPc (ci := 4) (q0 := 0) rfl rfl, fun U hU hW => ⟨rfl, by rw [hU]; exact hPc, va_K.moved hW.alike hKc⟩⟩ rfl rfl hl.1 rfl (lv_room (Nat.le_of_ble_eq_true rfl)) d_X_interrupt_81 (⟨Nat.le_of_ble_eq_true rfl, Nat.le_of_ble_eq_true rfl⟩)) ?_
      refine lv_istore (lv' := [(7, .int (nI (nlen q K M (li - 1 - rw - q - 1)))), (6, .int (nI (li - 1 - rw - q - 1))), (5, .int (nI M)), (4, .int (nI K)), (3, .ref e1), (0, .ref x), (1, .int 1), (2, .int (-nI n))]) hx hb d_X_interrupt_84 hl (by decide) rfl (fun ls hl => ?_)
      refine lv_aload_n hx hb d_X_interrupt_86 rfl (lv_at hl 5 rfl) ?_
      refine va_get (D := D) (ci := 4) (v := .ref br) (C := R_X) (T := T_X) (N := 10) hx hb hg in_X hown hK hP 0 rfl rfl 7 (by decide) (hg _ gw_123) (fun _ h9 => h9) rfl d_X_interrupt_87 ?_
      refine lv_iload hx hb d_X_interrupt_90 (lv_at hl 0 rfl) ?_
      have hPc := hP.sub (ws' := [(br, .inr (1, [.ref ra, .int (nI u)])), (ra, .inl (cB, 6000, .inl f))]) [3, 4] rfl
      have hKc := hK.sub (tys' := [(cB, .byte)]) [0] rfl
      refine pci (va_runV (As := [.int (nI (nlen q K M (li - 1 - rw - q - 1)))]) (rest := []) ⟨hx, hb, hml, hown, hg⟩ (c_B_hasRoom l D br ra cB u f (nlen q K M (li - 1 - rw - q - 1)) (by omega) (by omega)) (cwV 1 hg (gV gw_277 gw_278 gw_279 gw_2 gw_280) rfl rfl rfl (by decide +kernel) ⟨Nat.le_of_ble_eq_true rfl, Nat.le_of_ble_eq_true rfl⟩) ⟨fun a U g mk q => by obtain ⟨q0, qP, qK⟩ := q; exact ⟨q0, qP, va_K.moved (u := U) (U := U.calling g mk a) (Vm.Alike.refl U.vm) qK⟩, va_recv hKc hPc (ci := 1) (q0 := 0) rfl rfl, fun U hU hW => ⟨rfl, by rw [hU]; exact hPc, va_K.moved hW.alike hKc⟩⟩ rfl rfl hl.1 rfl (lv_room (Nat.le_of_ble_eq_true rfl)) d_X_interrupt_92 (⟨Nat.le_of_ble_eq_true rfl, Nat.le_of_ble_eq_true rfl⟩)) ?_
      refine tpi (y := 1) (if_pos hu) ?_
      refine lv_if_ne (tgt := 108) hx hb d_X_interrupt_95 (by decide) (fun c_3 => ?_) (fun c_3 => ?_)
      · skip
        refine lv_aload_n hx hb d_X_interrupt_108 rfl (lv_at hl 5 rfl) ?_
        refine lv_iload hx hb d_X_interrupt_109 (lv_at hl 3 rfl) ?_
        refine lv_iload hx hb d_X_interrupt_111 (lv_at hl 2 rfl) ?_
        refine lv_iload hx hb d_X_interrupt_113 (lv_at hl 1 rfl) ?_
        have hPc := hP.sub (ws' := [(x, .inr (4, [.int (nI bi), .int (nI ne), .int (nI li), .int (nI sp), .int (nI q), .ref sw, .ref sr, .ref br, .ref bq, .int lb])), (br, .inr (1, [.ref ra, .int (nI u)])), (ra, .inl (cB, 6000, .inl f))]) [0, 3, 4] rfl
        have hDc := hD.sub (ws' := [(x, .inr (4, [.int (nI bi), .int (nI ne), .int (nI li), .int (nI sp), .int (nI q), .ref sw, .ref sr, .ref br, .ref bq, .int lb])), (br, .inr (1, [.ref ra, .int (nI u)])), (ra, .inl (cB, 6000, .inl f))]) [0, 3, 4] (by decide) rfl
        have hKc := hK.sub (tys' := [(cB, .byte)]) [0] rfl
        refine mcv (va_runV (As := [.int (nI K), .int (nI M), .int (nI (li - 1 - rw - q - 1))]) (rest := []) ⟨hx, hb, hml, hown, hg⟩ (c_X_writeNumber l D x sw sr br bq bi ne li sp q lb ra cB u f K M (li - 1 - rw - q - 1) (by omega) (by omega) (by omega) (by omega) hu) (cwV 3 hg (gV gw_297 gw_299 gs_5 gw_1 gw_300) rfl rfl rfl (by decide +kernel) ⟨Nat.le_of_ble_eq_true rfl, Nat.le_of_ble_eq_true rfl⟩) ⟨fun a U g mk q => by obtain ⟨q0, qP, qK, qD⟩ := q; exact ⟨q0, qP, va_K.moved (u := U) (U := U.calling g mk a) (Vm.Alike.refl U.vm) qK, qD⟩, va_recv hKc hPc (ci := 4) (q0 := 0) rfl rfl, fun U hU hW => ⟨rfl, by rw [hU]; exact hPc, va_K.moved hW.alike hKc, hDc.weaken (fun _ _ _ _ => trivial)⟩⟩ rfl rfl hl.1 rfl (lv_room (Nat.le_of_ble_eq_true rfl)) d_X_interrupt_115 (⟨Nat.le_of_ble_eq_true rfl, Nat.le_of_ble_eq_true rfl⟩)) hS hP hD [0, 3, 4] rfl rfl rfl (fun H locs hP hD hS => ?_)
        have hP : va_P D CLS [(x, .inr (4, [.int (nI bi), .int (nI ne), .int (nI li), .int (nI sp), .int (nI q), .ref sw, .ref sr, .ref br, .ref bq, .int lb])), (sw, .inr (3, [.ref e0, .ref e1, .int (nI pl), .int (nI rw)])), (e1, .inr (2, [.int 1, .int (nI fs), .int (nI sm), .int (nI ct), .int (nI ng)])), (br, .inr (1, [.ref ra, .int (nI (u + nlen q K M (li - 1 - rw - q - 1)))])), (ra, .inl (cB, 6000, .inl (wnum f q K M (li - 1 - rw - q - 1) u)))] H := hP
        have hD : va_D A [(x, .inr (4, [.int (nI bi), .int (nI ne), .int (nI li), .int (nI sp), .int (nI q), .ref sw, .ref sr, .ref br, .ref bq, .int lb])), (sw, .inr (3, [.ref e0, .ref e1, .int (nI pl), .int (nI rw)])), (e1, .inr (2, [.int 1, .int (nI fs), .int (nI sm), .int (nI ct), .int (nI ng)])), (br, .inr (1, [.ref ra, .int (nI (u + nlen q K M (li - 1 - rw - q - 1)))])), (ra, .inl (cB, 6000, .inl (wnum f q K M (li - 1 - rw - q - 1) u)))] := hD
        refine lv_aload_n hx hb d_X_interrupt_118 rfl (lv_at hl 4 rfl) ?_
        refine lv_iload_n hx hb d_X_interrupt_119 rfl (lv_at hl 7 rfl) ?_
        refine lv_iload hx hb d_X_interrupt_120 (lv_at hl 2 rfl) ?_
        have hPc := hP.sub (ws' := [(e1, .inr (2, [.int 1, .int (nI fs), .int (nI sm), .int (nI ct), .int (nI ng)]))]) [2] rfl
        have hDc := hD.sub (ws' := [(e1, .inr (2, [.int 1, .int (nI fs), .int (nI sm), .int (nI ct), .int (nI ng)]))]) [2] (by decide) rfl
        have hKc := hK.sub (tys' := []) [] rfl
        refine mcv (va_runV (As := [.int (-nI n), .int (nI M)]) (rest := []) ⟨hx, hb, hml, hown, hg⟩ (c_E_learn1N l D e1 fs sm ct ng n M hc0 hn0 hs0 (by omega) (by omega) hn1) (cwV 2 hg (gV gw_390 gw_391 gw_392 gw_6 gw_393) rfl rfl rfl (by decide +kernel) ⟨Nat.le_of_ble_eq_true rfl, Nat.le_of_ble_eq_true rfl⟩) ⟨fun a U g mk q => by obtain ⟨q0, qP, qK, qD⟩ := q; exact ⟨q0, qP, va_K.moved (u := U) (U := U.calling g mk a) (Vm.Alike.refl U.vm) qK, qD⟩, va_recv hKc hPc (ci := 2) (q0 := 0) rfl rfl, fun U hU hW => ⟨rfl, by rw [hU]; exact hPc, va_K.moved hW.alike hKc, hDc.weaken (fun _ _ _ _ => trivial)⟩⟩ rfl rfl hl.1 rfl (lv_room (Nat.le_of_ble_eq_true rfl)) d_X_interrupt_122 (⟨Nat.le_of_ble_eq_true rfl, Nat.le_of_ble_eq_true rfl⟩)) hS hP hD [2] rfl rfl rfl (fun H locs hP hD hS => ?_)
        have hP : va_P D CLS [(x, .inr (4, [.int (nI bi), .int (nI ne), .int (nI li), .int (nI sp), .int (nI q), .ref sw, .ref sr, .ref br, .ref bq, .int lb])), (sw, .inr (3, [.ref e0, .ref e1, .int (nI pl), .int (nI rw)])), (e1, .inr (2, [.int 1, .int (nI fs), .int (nI (hvd ct (sm + (M + 1 - 1) / 2))), .int (nI (hvd ct ct + 1)), .int (nI (hvd ct (ng + 1)))])), (br, .inr (1, [.ref ra, .int (nI (u + nlen q K M (li - 1 - rw - q - 1)))])), (ra, .inl (cB, 6000, .inl (wnum f q K M (li - 1 - rw - q - 1) u)))] H := hP
        have hD : va_D A [(x, .inr (4, [.int (nI bi), .int (nI ne), .int (nI li), .int (nI sp), .int (nI q), .ref sw, .ref sr, .ref br, .ref bq, .int lb])), (sw, .inr (3, [.ref e0, .ref e1, .int (nI pl), .int (nI rw)])), (e1, .inr (2, [.int 1, .int (nI fs), .int (nI (hvd ct (sm + (M + 1 - 1) / 2))), .int (nI (hvd ct ct + 1)), .int (nI (hvd ct (ng + 1)))])), (br, .inr (1, [.ref ra, .int (nI (u + nlen q K M (li - 1 - rw - q - 1)))])), (ra, .inl (cB, 6000, .inl (wnum f q K M (li - 1 - rw - q - 1) u)))] := hD
        refine lv_iload hx hb d_X_interrupt_125 (lv_at hl 0 rfl) ?_
        exact W.iret (v := nI (nlen q K M (li - 1 - rw - q - 1))) hx hb hr (fun t ht hW => ⟨rfl, by rw [ht]; exact hP, (hAe ▸ hS).F ht⟩) (hAe ▸ hS).2.2 d_X_interrupt_127
      · skip
        exact absurd c_3 (by decide)
    · skip
      exact absurd c_2 (by decide)
  · skip
    exact absurd c_1 (by decide)
set_option maxHeartbeats 4000000 in
set_option maxRecDepth 100000 in
theorem c_X_pass (l : Launch) (D : va_G) (x sw sr br bq bi ne li sp q : Nat) (lb : Int32) (ra : Nat) (cB : ClassId) (u : Nat) (f : Nat → Int32) (qa fi h : Nat) (g : Nat → Int32) (tw i0 mn : Nat) (hu : u ≤ 6000) (hf : fi < 1000) (hh : h ≤ 1000) (hfb : ∀ j, j < u → f j = 0 ∨ f j = 1) (hi : i0 ≤ u) (hmn : mn < 2 ^ 31) : Met l y_X_pass (WSY y_X_pass b_X_pass 5 (some .int)) ({ frames := 3, cells := 0, slots := 0, locals := 66 }) (va_Pc [.ref x, .int (nI i0), .int (nI mn)] (fun U => va_P D CLS [(x, .inr (4, [.int (nI bi), .int (nI ne), .int (nI li), .int (nI sp), .int (nI q), .ref sw, .ref sr, .ref br, .ref bq, .int lb])), (br, .inr (1, [.ref ra, .int (nI u)])), (ra, .inl (cB, 6000, .inl f)), (bq, .inr (0, [.ref qa, .int (nI fi), .int (nI h)])), (qa, .inl (cB, 1000, .inl g))] U.heap ∧ va_K D CLS [(cB, .byte)] U ∧ va_D (fun _ => True) [(x, .inr (4, [.int (nI bi), .int (nI ne), .int (nI li), .int (nI sp), .int (nI q), .ref sw, .ref sr, .ref br, .ref bq, .int lb])), (br, .inr (1, [.ref ra, .int (nI u)])), (ra, .inl (cB, 6000, .inl f)), (bq, .inr (0, [.ref qa, .int (nI fi), .int (nI h)])), (qa, .inl (cB, 1000, .inl g))] ∧ EV (ad [(x, .inr (4, [.int (nI bi), .int (nI ne), .int (nI li), .int (nI sp), .int (nI q), .ref sw, .ref sr, .ref br, .ref bq, .int lb])), (br, .inr (1, [.ref ra, .int (nI u)])), (ra, .inl (cB, 6000, .inl f)), (bq, .inr (0, [.ref qa, .int (nI fi), .int (nI h)])), (qa, .inl (cB, 1000, .inl g))]) tw U)) (QM (some (.int (nI (min mn (min (u - i0) (1000 - h)))))) [(x, .inr (4, [.int (nI bi), .int (nI ne), .int (nI li), .int (nI sp), .int (nI q), .ref sw, .ref sr, .ref br, .ref bq, .int lb])), (br, .inr (1, [.ref ra, .int (nI u)])), (ra, .inl (cB, 6000, .inl f)), (bq, .inr (0, [.ref qa, .int (nI fi), .int (nI h)])), (qa, .inl (cB, 1000, .inl g))] [(x, .inr (4, [.int (nI bi), .int (nI ne), .int (nI li), .int (nI sp), .int (nI q), .ref sw, .ref sr, .ref br, .ref bq, .int lb])), (br, .inr (1, [.ref ra, .int (nI u)])), (ra, .inl (cB, 6000, .inl f)), (bq, .inr (0, [.ref qa, .int (nI fi), .int (nI (h + (min mn (min (u - i0) (1000 - h)))))])), (qa, .inl (cB, 1000, .inl (pqq g fi h f i0 (min mn (min (u - i0) (1000 - h))))))] D) 0 0 (ad [(x, .inr (4, [.int (nI bi), .int (nI ne), .int (nI li), .int (nI sp), .int (nI q), .ref sw, .ref sr, .ref br, .ref bq, .int lb])), (br, .inr (1, [.ref ra, .int (nI u)])), (ra, .inl (cB, 6000, .inl f)), (bq, .inr (0, [.ref qa, .int (nI fi), .int (nI h)])), (qa, .inl (cB, 1000, .inl g))]) := by
  refine Met.ofW (cc := b_X_pass) (maxL := 5) (ret := (some .int)) (by decide) rfl ?_
  intro p e s m args below meth c s₁ B hml hv
  obtain ⟨rfl, hP, hK, hD0, hE⟩ := hv
  have hx := B.exec
  have hb := B.bytes
  have hr := B.returns
  have hts := atoms_spec (ws := WSY y_X_pass b_X_pass 5 (some .int)) B.pre
  have hg : ∀ w ∈ GW, w.before _ s = true := fun w h => hts w (List.mem_cons_of_mem _ h)
  have hown : s.vm.findClass "LineGolomb" = some m.cls := findClass_of_methodNamed B.named
  have hlocks := B.notSynchronized
  obtain ⟨A, hAe⟩ : ∃ A, A = ad [(x, .inr (4, [.int (nI bi), .int (nI ne), .int (nI li), .int (nI sp), .int (nI q), .ref sw, .ref sr, .ref br, .ref bq, .int lb])), (br, .inr (1, [.ref ra, .int (nI u)])), (ra, .inl (cB, 6000, .inl f)), (bq, .inr (0, [.ref qa, .int (nI fi), .int (nI h)])), (qa, .inl (cB, 1000, .inl g))] := ⟨_, rfl⟩
  have hD : va_D A [(x, .inr (4, [.int (nI bi), .int (nI ne), .int (nI li), .int (nI sp), .int (nI q), .ref sw, .ref sr, .ref br, .ref bq, .int lb])), (br, .inr (1, [.ref ra, .int (nI u)])), (ra, .inl (cB, 6000, .inl f)), (bq, .inr (0, [.ref qa, .int (nI fi), .int (nI h)])), (qa, .inl (cB, 1000, .inl g))] := by rw [hAe]; exact va_D_ad hD0
  have hS : va_S A s.heap s.heap [] := va_S.rf
  rw [← hAe] at hE
  have hl := lv_entry ([.ref x, .int (nI i0), .int (nI mn)]) (n := 5) (Nat.le_of_ble_eq_true rfl)
  rw [lg_entry_eq]
  generalize (lg_sl ([.ref x, .int (nI i0), .int (nI mn)]) ++ List.replicate (5 - (lg_sl ([.ref x, .int (nI i0), .int (nI mn)])).length) Slot.unset).toArray = ls at hl ⊢
  have hl : lv_has ls 5 [(0, .ref x), (1, .int (nI i0)), (2, .int (nI mn))] := hl
  refine lv_iload_n hx hb d_X_pass_0 rfl (lv_at hl 1 rfl) ?_
  refine lv_if_lt (tgt := 15) hx hb d_X_pass_1 (by decide) (fun c_1 => ?_) (fun c_1 => ?_)
  · skip
    exact absurd c_1 (nI_pos (by omega))
  · skip
    refine lv_iload_n hx hb d_X_pass_4 rfl (lv_at hl 1 rfl) ?_
    refine lv_aload_n hx hb d_X_pass_5 rfl (lv_at hl 0 rfl) ?_
    refine va_get (D := D) (ci := 4) (v := .ref br) (C := R_X) (T := T_X) (N := 10) hx hb hg in_X hown hK hP 0 rfl rfl 7 (by decide) (hg _ gw_123) (fun _ h9 => h9) rfl d_X_pass_6 ?_
    refine va_getN (D := D) (ci := 1) (v := .int (nI u)) (C := R_B) (T := T_B) (N := 2) hx hb hg in_B hown hK hP 1 rfl rfl 1 (by decide) (va_Nw.use rfl (hE.nw nw_30)) (fun _ h9 => h9) rfl d_X_pass_9 ?_
    refine lv_icmp_le (tgt := 25) hx hb d_X_pass_12 (by decide) (fun c_2 => ?_) (fun c_2 => ?_)
    · skip
      refine lv_iload_n hx hb d_X_pass_25 rfl (lv_at hl 2 rfl) ?_
      refine lv_if_ge (tgt := 39) hx hb d_X_pass_26 (by decide) (fun c_3 => ?_) (fun c_3 => ?_)
      · skip
        refine lv_iload_n hx hb d_X_pass_39 rfl (lv_at hl 2 rfl) ?_
        refine lv_aload_n hx hb d_X_pass_40 rfl (lv_at hl 0 rfl) ?_
        refine va_get (D := D) (ci := 4) (v := .ref br) (C := R_X) (T := T_X) (N := 10) hx hb hg in_X hown hK hP 0 rfl rfl 7 (by decide) (hg _ gw_123) (fun _ h9 => h9) rfl d_X_pass_41 ?_
        refine va_getN (D := D) (ci := 1) (v := .int (nI u)) (C := R_B) (T := T_B) (N := 2) hx hb hg in_B hown hK hP 1 rfl rfl 1 (by decide) (va_Nw.use rfl (hE.nw nw_30)) (fun _ h9 => h9) rfl d_X_pass_44 ?_
        refine lv_iload_n hx hb d_X_pass_47 rfl (lv_at hl 1 rfl) ?_
        refine lv_isub hx hb d_X_pass_48 ?_
        refine tpi (y := nI (u - i0)) (pk_sub hi) ?_
        refine lv_aload_n hx hb d_X_pass_49 rfl (lv_at hl 0 rfl) ?_
        refine va_get (D := D) (ci := 4) (v := .ref bq) (C := R_X) (T := T_X) (N := 10) hx hb hg in_X hown hK hP 0 rfl rfl 8 (by decide) (hg _ gw_124) (fun _ h9 => h9) rfl d_X_pass_50 ?_
        have hPc := hP.sub (ws' := [(bq, .inr (0, [.ref qa, .int (nI fi), .int (nI h)])), (qa, .inl (cB, 1000, .inl g))]) [3, 4] rfl
        have hKc := hK.sub (tys' := [(cB, .byte)]) [0] rfl
        refine pci (va_runV (As := []) (rest := [.int (nI (u - i0)), .int (nI mn)]) ⟨hx, hb, hml, hown, hg⟩ (c_Q_room l D bq qa cB fi h g hh) (cwV 0 hg (gV gw_426 gw_427 gw_428 gw_3 gw_429) rfl rfl rfl (by decide +kernel) ⟨Nat.le_of_ble_eq_true rfl, Nat.le_of_ble_eq_true rfl⟩) ⟨fun a U g mk q => by obtain ⟨q0, qP, qK⟩ := q; exact ⟨q0, qP, va_K.moved (u := U) (U := U.calling g mk a) (Vm.Alike.refl U.vm) qK⟩, va_recv hKc hPc (ci := 0) (q0 := 0) rfl rfl, fun U hU hW => ⟨rfl, by rw [hU]; exact hPc, va_K.moved hW.alike hKc⟩⟩ rfl rfl hl.1 rfl (lv_room (Nat.le_of_ble_eq_true rfl)) d_X_pass_53 (⟨Nat.le_of_ble_eq_true rfl, Nat.le_of_ble_eq_true rfl⟩)) ?_
        refine va_mmin hx hb (hml.trans hl.1.symm) hown (hg _ gw_57) (hg _ gw_58) (hg _ gw_4) (hg _ gw_59) (Nat.le_of_ble_eq_true rfl) (Nat.le_of_ble_eq_true rfl) (Nat.le_of_ble_eq_true rfl) (Nat.le_of_ble_eq_true rfl) d_X_pass_56 ?_
        refine tpi (y := nI (min (u - i0) (1000 - h))) (minI (by omega) (by omega)) ?_
        refine va_mmin hx hb (hml.trans hl.1.symm) hown (hg _ gw_57) (hg _ gw_58) (hg _ gw_4) (hg _ gw_59) (Nat.le_of_ble_eq_true rfl) (Nat.le_of_ble_eq_true rfl) (Nat.le_of_ble_eq_true rfl) (Nat.le_of_ble_eq_true rfl) d_X_pass_59 ?_
        refine tpi (y := nI (min mn (min (u - i0) (1000 - h)))) (minI hmn (by omega)) ?_
        have hpp : (min mn (min (u - i0) (1000 - h))) ≤ u - i0 ∧ (min mn (min (u - i0) (1000 - h))) ≤ 1000 - h := by omega
        generalize (min mn (min (u - i0) (1000 - h))) = pp at hpp ⊢
        refine lv_istore_n (lv' := [(3, .int (nI pp)), (0, .ref x), (1, .int (nI i0)), (2, .int (nI mn))]) hx hb d_X_pass_62 rfl hl (by decide) rfl (fun ls hl => ?_)
        refine lv_iconst (v := 0) hx hb d_X_pass_63 (by decide) ?_
        refine lv_istore (lv' := [(4, .int 0), (3, .int (nI pp)), (0, .ref x), (1, .int (nI i0)), (2, .int (nI mn))]) hx hb d_X_pass_64 hl (by decide) rfl (fun ls hl => ?_)
        have loop : ∀ (d k : Nat), k + d = pp → ∀ (H : Heap) (locs : List Loc), va_P D CLS [(x, .inr (4, [.int (nI bi), .int (nI ne), .int (nI li), .int (nI sp), .int (nI q), .ref sw, .ref sr, .ref br, .ref bq, .int lb])), (br, .inr (1, [.ref ra, .int (nI u)])), (ra, .inl (cB, 6000, .inl f)), (bq, .inr (0, [.ref qa, .int (nI fi), .int (nI (h + k))])), (qa, .inl (cB, 1000, .inl (pqq g fi h f i0 k)))] H → va_D A [(x, .inr (4, [.int (nI bi), .int (nI ne), .int (nI li), .int (nI sp), .int (nI q), .ref sw, .ref sr, .ref br, .ref bq, .int lb])), (br, .inr (1, [.ref ra, .int (nI u)])), (ra, .inl (cB, 6000, .inl f)), (bq, .inr (0, [.ref qa, .int (nI fi), .int (nI (h + k))])), (qa, .inl (cB, 1000, .inl (pqq g fi h f i0 k)))] → va_S A s.heap H locs → ∀ (ls : Array Slot), lv_has ls 5 [(4, .int (nI k)), (3, .int (nI pp)), (0, .ref x), (1, .int (nI i0)), (2, .int (nI mn))] → W p l e (headSpec (WSY y_X_pass b_X_pass 5 (some .int)) ({ frames := 3, cells := 0, slots := 0, locals := 66 })).room s m ([.ref x, .int (nI i0), .int (nI mn)] : List Value).toArray below meth c H locs 0 0 (MQ below (QM (some (.int (nI pp))) [(x, .inr (4, [.int (nI bi), .int (nI ne), .int (nI li), .int (nI sp), .int (nI q), .ref sw, .ref sr, .ref br, .ref bq, .int lb])), (br, .inr (1, [.ref ra, .int (nI u)])), (ra, .inl (cB, 6000, .inl f)), (bq, .inr (0, [.ref qa, .int (nI fi), .int (nI h)])), (qa, .inl (cB, 1000, .inl g))] [(x, .inr (4, [.int (nI bi), .int (nI ne), .int (nI li), .int (nI sp), .int (nI q), .ref sw, .ref sr, .ref br, .ref bq, .int lb])), (br, .inr (1, [.ref ra, .int (nI u)])), (ra, .inl (cB, 6000, .inl f)), (bq, .inr (0, [.ref qa, .int (nI fi), .int (nI (h + pp))])), (qa, .inl (cB, 1000, .inl (pqq g fi h f i0 pp)))] D) ([.ref x, .int (nI i0), .int (nI mn)] : List Value).toArray s 0 0 (ad [(x, .inr (4, [.int (nI bi), .int (nI ne), .int (nI li), .int (nI sp), .int (nI q), .ref sw, .ref sr, .ref br, .ref bq, .int lb])), (br, .inr (1, [.ref ra, .int (nI u)])), (ra, .inl (cB, 6000, .inl f)), (bq, .inr (0, [.ref qa, .int (nI fi), .int (nI h)])), (qa, .inl (cB, 1000, .inl g))])) (F0 m 66 ls []) := by
          intro d
          induction d with
          | zero =>
            intro k hk H locs hP hD hS ls hl
            obtain rfl : pp = k := by omega
            refine lv_iload hx hb d_X_pass_66 (lv_at hl 0 rfl) ?_
            refine lv_iload_n hx hb d_X_pass_68 rfl (lv_at hl 1 rfl) ?_
            refine lv_icmp_ge (tgt := 97) hx hb d_X_pass_69 (by decide) (fun c_4 => ?_) (fun c_4 => ?_)
            · skip
              refine lv_iload_n hx hb d_X_pass_97 rfl (lv_at hl 1 rfl) ?_
              exact W.iret (v := nI pp) hx hb hr (fun t ht hW => ⟨rfl, by rw [ht]; exact hP, (hAe ▸ hS).F ht⟩) (hAe ▸ hS).2.2 d_X_pass_98
            · skip
              exact absurd (nI_le (Nat.le_refl _) (by omega)) c_4
          | succ d ih =>
            intro k hk H locs hP hD hS ls hl
            refine lv_iload hx hb d_X_pass_66 (lv_at hl 0 rfl) ?_
            refine lv_iload_n hx hb d_X_pass_68 rfl (lv_at hl 1 rfl) ?_
            refine lv_icmp_ge (tgt := 97) hx hb d_X_pass_69 (by decide) (fun c_5 => ?_) (fun c_5 => ?_)
            · skip
              exact absurd ((nI_leI (by omega) (by omega)).mp c_5) (by omega)
            · skip
              refine lv_aload_n hx hb d_X_pass_72 rfl (lv_at hl 2 rfl) ?_
              refine va_get (D := D) (ci := 4) (v := .ref bq) (C := R_X) (T := T_X) (N := 10) hx hb hg in_X hown hK hP 0 rfl rfl 8 (by decide) (hg _ gw_124) (fun _ h9 => h9) rfl d_X_pass_73 ?_
              refine lv_aload_n hx hb d_X_pass_76 rfl (lv_at hl 2 rfl) ?_
              refine va_get (D := D) (ci := 4) (v := .ref br) (C := R_X) (T := T_X) (N := 10) hx hb hg in_X hown hK hP 0 rfl rfl 7 (by decide) (hg _ gw_123) (fun _ h9 => h9) rfl d_X_pass_77 ?_
              refine lv_iload_n hx hb d_X_pass_80 rfl (lv_at hl 3 rfl) ?_
              refine lv_iload hx hb d_X_pass_81 (lv_at hl 0 rfl) ?_
              refine lv_iadd hx hb d_X_pass_83 ?_
              refine tpi (y := nI (i0 + k)) (nI_add _ _) ?_
              have hPc := hP.sub (ws' := [(br, .inr (1, [.ref ra, .int (nI u)])), (ra, .inl (cB, 6000, .inl f))]) [1, 2] rfl
              have hKc := hK.sub (tys' := [(cB, .byte)]) [0] rfl
              refine pci (va_runV (As := [.int (nI (i0 + k))]) (rest := [.ref bq]) ⟨hx, hb, hml, hown, hg⟩ (c_B_get l D br ra cB u f (i0 + k) hu (by omega)) (cwV 1 hg (gV gw_402 gw_403 gw_404 gw_2 gw_405) rfl rfl rfl (by decide +kernel) ⟨Nat.le_of_ble_eq_true rfl, Nat.le_of_ble_eq_true rfl⟩) ⟨fun a U g mk q => by obtain ⟨q0, qP, qK⟩ := q; exact ⟨q0, qP, va_K.moved (u := U) (U := U.calling g mk a) (Vm.Alike.refl U.vm) qK⟩, va_recv hKc hPc (ci := 1) (q0 := 0) rfl rfl, fun U hU hW => ⟨rfl, by rw [hU]; exact hPc, va_K.moved hW.alike hKc⟩⟩ rfl rfl hl.1 rfl (lv_room (Nat.le_of_ble_eq_true rfl)) d_X_pass_84 (⟨Nat.le_of_ble_eq_true rfl, Nat.le_of_ble_eq_true rfl⟩)) ?_
              have hPc := hP.sub (ws' := [(bq, .inr (0, [.ref qa, .int (nI fi), .int (nI (h + k))])), (qa, .inl (cB, 1000, .inl (pqq g fi h f i0 k)))]) [3, 4] rfl
              have hDc := hD.sub (ws' := [(bq, .inr (0, [.ref qa, .int (nI fi), .int (nI (h + k))])), (qa, .inl (cB, 1000, .inl (pqq g fi h f i0 k)))]) [3, 4] (by decide) rfl
              have hKc := hK.sub (tys' := [(cB, .byte)]) [0] rfl
              refine mci (va_runV (As := [.int (f (i0 + k))]) (rest := []) ⟨hx, hb, hml, hown, hg⟩ (c_Q_add l D bq qa cB fi (h + k) (pqq g fi h f i0 k) (f (i0 + k)) hf (by omega) (hfb _ (by omega))) (cwV 1 hg (gV gw_414 gw_415 gw_416 gw_3 gw_417) rfl rfl rfl (by decide +kernel) ⟨Nat.le_of_ble_eq_true rfl, Nat.le_of_ble_eq_true rfl⟩) ⟨fun a U g mk q => by obtain ⟨q0, qP, qK, qD⟩ := q; exact ⟨q0, qP, va_K.moved (u := U) (U := U.calling g mk a) (Vm.Alike.refl U.vm) qK, qD⟩, va_recv hKc hPc (ci := 0) (q0 := 0) rfl rfl, fun U hU hW => ⟨rfl, by rw [hU]; exact hPc, va_K.moved hW.alike hKc, hDc.weaken (fun _ _ _ _ => trivial)⟩⟩ rfl rfl hl.1 rfl (lv_room (Nat.le_of_ble_eq_true rfl)) d_X_pass_87 (⟨Nat.le_of_ble_eq_true rfl, Nat.le_of_ble_eq_true rfl⟩)) hS hP hD [3, 4] rfl rfl rfl (fun H locs hP hD hS => ?_)
              have hP : va_P D CLS [(x, .inr (4, [.int (nI bi), .int (nI ne), .int (nI li), .int (nI sp), .int (nI q), .ref sw, .ref sr, .ref br, .ref bq, .int lb])), (br, .inr (1, [.ref ra, .int (nI u)])), (ra, .inl (cB, 6000, .inl f)), (bq, .inr (0, [.ref qa, .int (nI fi), .int (nI (h + (k + 1)))])), (qa, .inl (cB, 1000, .inl (pqq g fi h f i0 (k + 1))))] H := hP
              have hD : va_D A [(x, .inr (4, [.int (nI bi), .int (nI ne), .int (nI li), .int (nI sp), .int (nI q), .ref sw, .ref sr, .ref br, .ref bq, .int lb])), (br, .inr (1, [.ref ra, .int (nI u)])), (ra, .inl (cB, 6000, .inl f)), (bq, .inr (0, [.ref qa, .int (nI fi), .int (nI (h + (k + 1)))])), (qa, .inl (cB, 1000, .inl (pqq g fi h f i0 (k + 1))))] := hD
              refine lv_pop hx hb d_X_pass_90 rfl ?_
              refine lv_iinc (v := nI (k + 1)) (lv' := [(4, .int (nI (k + 1))), (3, .int (nI pp)), (0, .ref x), (1, .int (nI i0)), (2, .int (nI mn))]) hx hb d_X_pass_91 hl (k := 0) rfl (nI_1 k) (by decide) rfl (fun ls hl => ?_)
              refine lv_goto (tgt := 66) hx hb d_X_pass_94 (by decide) ?_
              exact ih (k + 1) (by omega) H locs hP hD hS ls (lv_sub hl [0, 1, 2, 3, 4] rfl)
        exact loop pp 0 (by omega) s.heap [] hP hD hS ls hl
      · skip
        exact absurd (nI_pos' hmn) c_3
    · skip
      exact absurd (nI_le hi (by omega)) c_2
set_option maxHeartbeats 4000000 in
set_option maxRecDepth 100000 in
theorem c_X_state000 (l : Launch) (D : va_G) (x sw sr br bq bi ne li sp q : Nat) (lb : Int32) (e0 e1 pl rw fs sm ct ng tw : Nat) : Met l y_X_state (WSY y_X_state b_X_state 5 (some .int)) ({ frames := 1, cells := 0, slots := 0, locals := 22 }) (va_Pc [.ref x, .int 0, .int 0, .int 0] (fun U => va_P D CLS [(x, .inr (4, [.int (nI bi), .int (nI ne), .int (nI li), .int (nI sp), .int (nI q), .ref sw, .ref sr, .ref br, .ref bq, .int lb])), (sw, .inr (3, [.ref e0, .ref e1, .int (nI pl), .int (nI rw)])), (e0, .inr (2, [.int 0, .int (nI fs), .int (nI sm), .int (nI ct), .int (nI ng)]))] U.heap ∧ va_K D CLS [] U ∧ EV (fun _ => False) tw U)) (QR (some (.int (nI sm)))) 0 0 (fun _ => False) := by
  refine Met.ofW (cc := b_X_state) (maxL := 5) (ret := (some .int)) (by decide) rfl ?_
  intro p e s m args below meth c s₁ B hml hv
  obtain ⟨rfl, hP, hK, hE⟩ := hv
  have hx := B.exec
  have hb := B.bytes
  have hr := B.returns
  have hts := atoms_spec (ws := WSY y_X_state b_X_state 5 (some .int)) B.pre
  have hg : ∀ w ∈ GW, w.before _ s = true := fun w h => hts w (List.mem_cons_of_mem _ h)
  have hown : s.vm.findClass "LineGolomb" = some m.cls := findClass_of_methodNamed B.named
  have hlocks := B.notSynchronized
  have hS : va_S (fun _ => False) s.heap s.heap [] := va_S.rf
  have hl := lv_entry ([.ref x, .int 0, .int 0, .int 0]) (n := 5) (Nat.le_of_ble_eq_true rfl)
  rw [lg_entry_eq]
  generalize (lg_sl ([.ref x, .int 0, .int 0, .int 0]) ++ List.replicate (5 - (lg_sl ([.ref x, .int 0, .int 0, .int 0])).length) Slot.unset).toArray = ls at hl ⊢
  have hl : lv_has ls 5 [(0, .ref x), (1, .int 0), (2, .int 0), (3, .int 0)] := hl
  refine lv_iload_n hx hb d_X_state_0 rfl (lv_at hl 2 rfl) ?_
  have hPc := hP.sub (ws' := []) [] rfl
  have hKc := hK.sub (tys' := []) [] rfl
  refine pci (va_runS (As := [.int 0]) (rest := []) ⟨hx, hb, hml, hown, hg⟩ (c_X_isKind l D 0) (va_cwS 1 hg (gS gw_343 gw_344 gw_1 gw_345) rfl rfl rfl (by decide +kernel) ⟨Nat.le_of_ble_eq_true rfl, Nat.le_of_ble_eq_true rfl⟩) ⟨fun a U g mk q => by obtain ⟨q0, qP, qK⟩ := q; exact ⟨q0, qP, va_K.moved (u := U) (U := U.calling g mk a) (Vm.Alike.refl U.vm) qK⟩, fun U hU hW => ⟨rfl, by rw [hU]; exact hPc, va_K.moved hW.alike hKc⟩⟩ rfl rfl hl.1 rfl (lv_room (Nat.le_of_ble_eq_true rfl)) d_X_state_1 (⟨Nat.le_of_ble_eq_true rfl, Nat.le_of_ble_eq_true rfl⟩)) ?_
  refine tpi (y := 1) (by decide) ?_
  refine lv_if_ne (tgt := 17) hx hb d_X_state_4 (by decide) (fun c_1 => ?_) (fun c_1 => ?_)
  · skip
    refine lv_aload_n hx hb d_X_state_17 rfl (lv_at hl 0 rfl) ?_
    refine lv_iload_n hx hb d_X_state_18 rfl (lv_at hl 1 rfl) ?_
    have hPc := hP.sub (ws' := [(x, .inr (4, [.int (nI bi), .int (nI ne), .int (nI li), .int (nI sp), .int (nI q), .ref sw, .ref sr, .ref br, .ref bq, .int lb]))]) [0] rfl
    have hKc := hK.sub (tys' := []) [] rfl
    refine pcr (va_runV (As := [.int 0]) (rest := []) ⟨hx, hb, hml, hown, hg⟩ (c_X_sideOf0 l D x sw sr br bq bi ne li sp q lb) (cwV 1 hg (gV gw_163 gw_165 gs_0 gw_1 gw_166) rfl rfl rfl (by decide +kernel) ⟨Nat.le_of_ble_eq_true rfl, Nat.le_of_ble_eq_true rfl⟩) ⟨fun a U g mk q => by obtain ⟨q0, qP, qK⟩ := q; exact ⟨q0, qP, va_K.moved (u := U) (U := U.calling g mk a) (Vm.Alike.refl U.vm) qK⟩, va_recv hKc hPc (ci := 4) (q0 := 0) rfl rfl, fun U hU hW => ⟨rfl, by rw [hU]; exact hPc, va_K.moved hW.alike hKc⟩⟩ rfl rfl hl.1 rfl (lv_room (Nat.le_of_ble_eq_true rfl)) d_X_state_19 (⟨Nat.le_of_ble_eq_true rfl, Nat.le_of_ble_eq_true rfl⟩)) ?_
    refine lv_iload_n hx hb d_X_state_22 rfl (lv_at hl 2 rfl) ?_
    have hPc := hP.sub (ws' := [(sw, .inr (3, [.ref e0, .ref e1, .int (nI pl), .int (nI rw)]))]) [1] rfl
    have hKc := hK.sub (tys' := []) [] rfl
    refine pcr (va_runV (As := [.int 0]) (rest := []) ⟨hx, hb, hml, hown, hg⟩ (c_S_endsOf0 l D sw e0 e1 pl rw) (cwV 1 hg (gV gw_367 gw_368 gw_369 gw_5 gw_370) rfl rfl rfl (by decide +kernel) ⟨Nat.le_of_ble_eq_true rfl, Nat.le_of_ble_eq_true rfl⟩) ⟨fun a U g mk q => by obtain ⟨q0, qP, qK⟩ := q; exact ⟨q0, qP, va_K.moved (u := U) (U := U.calling g mk a) (Vm.Alike.refl U.vm) qK⟩, va_recv hKc hPc (ci := 3) (q0 := 0) rfl rfl, fun U hU hW => ⟨rfl, by rw [hU]; exact hPc, va_K.moved hW.alike hKc⟩⟩ rfl rfl hl.1 rfl (lv_room (Nat.le_of_ble_eq_true rfl)) d_X_state_23 (⟨Nat.le_of_ble_eq_true rfl, Nat.le_of_ble_eq_true rfl⟩)) ?_
    refine lv_astore (lv' := [(4, .ref e0), (0, .ref x), (1, .int 0), (2, .int 0), (3, .int 0)]) hx hb d_X_state_26 hl (by decide) rfl (fun ls hl => ?_)
    refine lv_iload_n hx hb d_X_state_28 rfl (lv_at hl 4 rfl) ?_
    refine lv_tableIn (off := 31) (tgt := 60) hx hb d_X_state_29 (by decide) (by decide) (by decide) (by decide) ?_
    refine lv_aload hx hb d_X_state_60 (lv_at hl 0 rfl) ?_
    refine va_getN (D := D) (ci := 2) (v := .int (nI sm)) (C := R_E) (T := T_E) (N := 5) hx hb hg in_E hown hK hP 2 rfl rfl 2 (by decide) (va_Nw.use rfl (hE.nw nw_85)) (fun _ h9 => h9) rfl d_X_state_62 ?_
    exact W.iret (v := nI sm) hx hb hr (fun t ht hW => ⟨rfl, ht⟩) (fun q h => by cases h) d_X_state_65
  · skip
    exact absurd c_1 (by decide)
set_option maxHeartbeats 4000000 in
set_option maxRecDepth 100000 in
theorem c_X_state001 (l : Launch) (D : va_G) (x sw sr br bq bi ne li sp q : Nat) (lb : Int32) (e0 e1 pl rw fs sm ct ng tw : Nat) : Met l y_X_state (WSY y_X_state b_X_state 5 (some .int)) ({ frames := 1, cells := 0, slots := 0, locals := 22 }) (va_Pc [.ref x, .int 0, .int 0, .int 1] (fun U => va_P D CLS [(x, .inr (4, [.int (nI bi), .int (nI ne), .int (nI li), .int (nI sp), .int (nI q), .ref sw, .ref sr, .ref br, .ref bq, .int lb])), (sw, .inr (3, [.ref e0, .ref e1, .int (nI pl), .int (nI rw)])), (e0, .inr (2, [.int 0, .int (nI fs), .int (nI sm), .int (nI ct), .int (nI ng)]))] U.heap ∧ va_K D CLS [] U ∧ EV (fun _ => False) tw U)) (QR (some (.int (nI ct)))) 0 0 (fun _ => False) := by
  refine Met.ofW (cc := b_X_state) (maxL := 5) (ret := (some .int)) (by decide) rfl ?_
  intro p e s m args below meth c s₁ B hml hv
  obtain ⟨rfl, hP, hK, hE⟩ := hv
  have hx := B.exec
  have hb := B.bytes
  have hr := B.returns
  have hts := atoms_spec (ws := WSY y_X_state b_X_state 5 (some .int)) B.pre
  have hg : ∀ w ∈ GW, w.before _ s = true := fun w h => hts w (List.mem_cons_of_mem _ h)
  have hown : s.vm.findClass "LineGolomb" = some m.cls := findClass_of_methodNamed B.named
  have hlocks := B.notSynchronized
  have hS : va_S (fun _ => False) s.heap s.heap [] := va_S.rf
  have hl := lv_entry ([.ref x, .int 0, .int 0, .int 1]) (n := 5) (Nat.le_of_ble_eq_true rfl)
  rw [lg_entry_eq]
  generalize (lg_sl ([.ref x, .int 0, .int 0, .int 1]) ++ List.replicate (5 - (lg_sl ([.ref x, .int 0, .int 0, .int 1])).length) Slot.unset).toArray = ls at hl ⊢
  have hl : lv_has ls 5 [(0, .ref x), (1, .int 0), (2, .int 0), (3, .int 1)] := hl
  refine lv_iload_n hx hb d_X_state_0 rfl (lv_at hl 2 rfl) ?_
  have hPc := hP.sub (ws' := []) [] rfl
  have hKc := hK.sub (tys' := []) [] rfl
  refine pci (va_runS (As := [.int 0]) (rest := []) ⟨hx, hb, hml, hown, hg⟩ (c_X_isKind l D 0) (va_cwS 1 hg (gS gw_343 gw_344 gw_1 gw_345) rfl rfl rfl (by decide +kernel) ⟨Nat.le_of_ble_eq_true rfl, Nat.le_of_ble_eq_true rfl⟩) ⟨fun a U g mk q => by obtain ⟨q0, qP, qK⟩ := q; exact ⟨q0, qP, va_K.moved (u := U) (U := U.calling g mk a) (Vm.Alike.refl U.vm) qK⟩, fun U hU hW => ⟨rfl, by rw [hU]; exact hPc, va_K.moved hW.alike hKc⟩⟩ rfl rfl hl.1 rfl (lv_room (Nat.le_of_ble_eq_true rfl)) d_X_state_1 (⟨Nat.le_of_ble_eq_true rfl, Nat.le_of_ble_eq_true rfl⟩)) ?_
  refine tpi (y := 1) (by decide) ?_
  refine lv_if_ne (tgt := 17) hx hb d_X_state_4 (by decide) (fun c_1 => ?_) (fun c_1 => ?_)
  · skip
    refine lv_aload_n hx hb d_X_state_17 rfl (lv_at hl 0 rfl) ?_
    refine lv_iload_n hx hb d_X_state_18 rfl (lv_at hl 1 rfl) ?_
    have hPc := hP.sub (ws' := [(x, .inr (4, [.int (nI bi), .int (nI ne), .int (nI li), .int (nI sp), .int (nI q), .ref sw, .ref sr, .ref br, .ref bq, .int lb]))]) [0] rfl
    have hKc := hK.sub (tys' := []) [] rfl
    refine pcr (va_runV (As := [.int 0]) (rest := []) ⟨hx, hb, hml, hown, hg⟩ (c_X_sideOf0 l D x sw sr br bq bi ne li sp q lb) (cwV 1 hg (gV gw_163 gw_165 gs_0 gw_1 gw_166) rfl rfl rfl (by decide +kernel) ⟨Nat.le_of_ble_eq_true rfl, Nat.le_of_ble_eq_true rfl⟩) ⟨fun a U g mk q => by obtain ⟨q0, qP, qK⟩ := q; exact ⟨q0, qP, va_K.moved (u := U) (U := U.calling g mk a) (Vm.Alike.refl U.vm) qK⟩, va_recv hKc hPc (ci := 4) (q0 := 0) rfl rfl, fun U hU hW => ⟨rfl, by rw [hU]; exact hPc, va_K.moved hW.alike hKc⟩⟩ rfl rfl hl.1 rfl (lv_room (Nat.le_of_ble_eq_true rfl)) d_X_state_19 (⟨Nat.le_of_ble_eq_true rfl, Nat.le_of_ble_eq_true rfl⟩)) ?_
    refine lv_iload_n hx hb d_X_state_22 rfl (lv_at hl 2 rfl) ?_
    have hPc := hP.sub (ws' := [(sw, .inr (3, [.ref e0, .ref e1, .int (nI pl), .int (nI rw)]))]) [1] rfl
    have hKc := hK.sub (tys' := []) [] rfl
    refine pcr (va_runV (As := [.int 0]) (rest := []) ⟨hx, hb, hml, hown, hg⟩ (c_S_endsOf0 l D sw e0 e1 pl rw) (cwV 1 hg (gV gw_367 gw_368 gw_369 gw_5 gw_370) rfl rfl rfl (by decide +kernel) ⟨Nat.le_of_ble_eq_true rfl, Nat.le_of_ble_eq_true rfl⟩) ⟨fun a U g mk q => by obtain ⟨q0, qP, qK⟩ := q; exact ⟨q0, qP, va_K.moved (u := U) (U := U.calling g mk a) (Vm.Alike.refl U.vm) qK⟩, va_recv hKc hPc (ci := 3) (q0 := 0) rfl rfl, fun U hU hW => ⟨rfl, by rw [hU]; exact hPc, va_K.moved hW.alike hKc⟩⟩ rfl rfl hl.1 rfl (lv_room (Nat.le_of_ble_eq_true rfl)) d_X_state_23 (⟨Nat.le_of_ble_eq_true rfl, Nat.le_of_ble_eq_true rfl⟩)) ?_
    refine lv_astore (lv' := [(4, .ref e0), (0, .ref x), (1, .int 0), (2, .int 0), (3, .int 1)]) hx hb d_X_state_26 hl (by decide) rfl (fun ls hl => ?_)
    refine lv_iload_n hx hb d_X_state_28 rfl (lv_at hl 4 rfl) ?_
    refine lv_tableIn (off := 37) (tgt := 66) hx hb d_X_state_29 (by decide) (by decide) (by decide) (by decide) ?_
    refine lv_aload hx hb d_X_state_66 (lv_at hl 0 rfl) ?_
    refine va_getN (D := D) (ci := 2) (v := .int (nI ct)) (C := R_E) (T := T_E) (N := 5) hx hb hg in_E hown hK hP 2 rfl rfl 3 (by decide) (va_Nw.use rfl (hE.nw nw_87)) (fun _ h9 => h9) rfl d_X_state_68 ?_
    exact W.iret (v := nI ct) hx hb hr (fun t ht hW => ⟨rfl, ht⟩) (fun q h => by cases h) d_X_state_71
  · skip
    exact absurd c_1 (by decide)
set_option maxHeartbeats 4000000 in
set_option maxRecDepth 100000 in
theorem c_X_state002 (l : Launch) (D : va_G) (x sw sr br bq bi ne li sp q : Nat) (lb : Int32) (e0 e1 pl rw fs sm ct ng tw : Nat) : Met l y_X_state (WSY y_X_state b_X_state 5 (some .int)) ({ frames := 1, cells := 0, slots := 0, locals := 22 }) (va_Pc [.ref x, .int 0, .int 0, .int 2] (fun U => va_P D CLS [(x, .inr (4, [.int (nI bi), .int (nI ne), .int (nI li), .int (nI sp), .int (nI q), .ref sw, .ref sr, .ref br, .ref bq, .int lb])), (sw, .inr (3, [.ref e0, .ref e1, .int (nI pl), .int (nI rw)])), (e0, .inr (2, [.int 0, .int (nI fs), .int (nI sm), .int (nI ct), .int (nI ng)]))] U.heap ∧ va_K D CLS [] U ∧ EV (fun _ => False) tw U)) (QR (some (.int (nI ng)))) 0 0 (fun _ => False) := by
  refine Met.ofW (cc := b_X_state) (maxL := 5) (ret := (some .int)) (by decide) rfl ?_
  intro p e s m args below meth c s₁ B hml hv
  obtain ⟨rfl, hP, hK, hE⟩ := hv
  have hx := B.exec
  have hb := B.bytes
  have hr := B.returns
  have hts := atoms_spec (ws := WSY y_X_state b_X_state 5 (some .int)) B.pre
  have hg : ∀ w ∈ GW, w.before _ s = true := fun w h => hts w (List.mem_cons_of_mem _ h)
  have hown : s.vm.findClass "LineGolomb" = some m.cls := findClass_of_methodNamed B.named
  have hlocks := B.notSynchronized
  have hS : va_S (fun _ => False) s.heap s.heap [] := va_S.rf
  have hl := lv_entry ([.ref x, .int 0, .int 0, .int 2]) (n := 5) (Nat.le_of_ble_eq_true rfl)
  rw [lg_entry_eq]
  generalize (lg_sl ([.ref x, .int 0, .int 0, .int 2]) ++ List.replicate (5 - (lg_sl ([.ref x, .int 0, .int 0, .int 2])).length) Slot.unset).toArray = ls at hl ⊢
  have hl : lv_has ls 5 [(0, .ref x), (1, .int 0), (2, .int 0), (3, .int 2)] := hl
  refine lv_iload_n hx hb d_X_state_0 rfl (lv_at hl 2 rfl) ?_
  have hPc := hP.sub (ws' := []) [] rfl
  have hKc := hK.sub (tys' := []) [] rfl
  refine pci (va_runS (As := [.int 0]) (rest := []) ⟨hx, hb, hml, hown, hg⟩ (c_X_isKind l D 0) (va_cwS 1 hg (gS gw_343 gw_344 gw_1 gw_345) rfl rfl rfl (by decide +kernel) ⟨Nat.le_of_ble_eq_true rfl, Nat.le_of_ble_eq_true rfl⟩) ⟨fun a U g mk q => by obtain ⟨q0, qP, qK⟩ := q; exact ⟨q0, qP, va_K.moved (u := U) (U := U.calling g mk a) (Vm.Alike.refl U.vm) qK⟩, fun U hU hW => ⟨rfl, by rw [hU]; exact hPc, va_K.moved hW.alike hKc⟩⟩ rfl rfl hl.1 rfl (lv_room (Nat.le_of_ble_eq_true rfl)) d_X_state_1 (⟨Nat.le_of_ble_eq_true rfl, Nat.le_of_ble_eq_true rfl⟩)) ?_
  refine tpi (y := 1) (by decide) ?_
  refine lv_if_ne (tgt := 17) hx hb d_X_state_4 (by decide) (fun c_1 => ?_) (fun c_1 => ?_)
  · skip
    refine lv_aload_n hx hb d_X_state_17 rfl (lv_at hl 0 rfl) ?_
    refine lv_iload_n hx hb d_X_state_18 rfl (lv_at hl 1 rfl) ?_
    have hPc := hP.sub (ws' := [(x, .inr (4, [.int (nI bi), .int (nI ne), .int (nI li), .int (nI sp), .int (nI q), .ref sw, .ref sr, .ref br, .ref bq, .int lb]))]) [0] rfl
    have hKc := hK.sub (tys' := []) [] rfl
    refine pcr (va_runV (As := [.int 0]) (rest := []) ⟨hx, hb, hml, hown, hg⟩ (c_X_sideOf0 l D x sw sr br bq bi ne li sp q lb) (cwV 1 hg (gV gw_163 gw_165 gs_0 gw_1 gw_166) rfl rfl rfl (by decide +kernel) ⟨Nat.le_of_ble_eq_true rfl, Nat.le_of_ble_eq_true rfl⟩) ⟨fun a U g mk q => by obtain ⟨q0, qP, qK⟩ := q; exact ⟨q0, qP, va_K.moved (u := U) (U := U.calling g mk a) (Vm.Alike.refl U.vm) qK⟩, va_recv hKc hPc (ci := 4) (q0 := 0) rfl rfl, fun U hU hW => ⟨rfl, by rw [hU]; exact hPc, va_K.moved hW.alike hKc⟩⟩ rfl rfl hl.1 rfl (lv_room (Nat.le_of_ble_eq_true rfl)) d_X_state_19 (⟨Nat.le_of_ble_eq_true rfl, Nat.le_of_ble_eq_true rfl⟩)) ?_
    refine lv_iload_n hx hb d_X_state_22 rfl (lv_at hl 2 rfl) ?_
    have hPc := hP.sub (ws' := [(sw, .inr (3, [.ref e0, .ref e1, .int (nI pl), .int (nI rw)]))]) [1] rfl
    have hKc := hK.sub (tys' := []) [] rfl
    refine pcr (va_runV (As := [.int 0]) (rest := []) ⟨hx, hb, hml, hown, hg⟩ (c_S_endsOf0 l D sw e0 e1 pl rw) (cwV 1 hg (gV gw_367 gw_368 gw_369 gw_5 gw_370) rfl rfl rfl (by decide +kernel) ⟨Nat.le_of_ble_eq_true rfl, Nat.le_of_ble_eq_true rfl⟩) ⟨fun a U g mk q => by obtain ⟨q0, qP, qK⟩ := q; exact ⟨q0, qP, va_K.moved (u := U) (U := U.calling g mk a) (Vm.Alike.refl U.vm) qK⟩, va_recv hKc hPc (ci := 3) (q0 := 0) rfl rfl, fun U hU hW => ⟨rfl, by rw [hU]; exact hPc, va_K.moved hW.alike hKc⟩⟩ rfl rfl hl.1 rfl (lv_room (Nat.le_of_ble_eq_true rfl)) d_X_state_23 (⟨Nat.le_of_ble_eq_true rfl, Nat.le_of_ble_eq_true rfl⟩)) ?_
    refine lv_astore (lv' := [(4, .ref e0), (0, .ref x), (1, .int 0), (2, .int 0), (3, .int 2)]) hx hb d_X_state_26 hl (by decide) rfl (fun ls hl => ?_)
    refine lv_iload_n hx hb d_X_state_28 rfl (lv_at hl 4 rfl) ?_
    refine lv_tableIn (off := 43) (tgt := 72) hx hb d_X_state_29 (by decide) (by decide) (by decide) (by decide) ?_
    refine lv_aload hx hb d_X_state_72 (lv_at hl 0 rfl) ?_
    refine va_getN (D := D) (ci := 2) (v := .int (nI ng)) (C := R_E) (T := T_E) (N := 5) hx hb hg in_E hown hK hP 2 rfl rfl 4 (by decide) (va_Nw.use rfl (hE.nw nw_89)) (fun _ h9 => h9) rfl d_X_state_74 ?_
    exact W.iret (v := nI ng) hx hb hr (fun t ht hW => ⟨rfl, ht⟩) (fun q h => by cases h) d_X_state_77
  · skip
    exact absurd c_1 (by decide)
set_option maxHeartbeats 4000000 in
set_option maxRecDepth 100000 in
theorem c_X_state003 (l : Launch) (D : va_G) (x sw sr br bq bi ne li sp q : Nat) (lb : Int32) (e0 e1 pl rw fs sm ct ng tw : Nat) (K : Nat) (hc0 : ct ≤ 64) (hs0 : sm < 2 ^ 30) (hKb : K ≤ 29) (hK1 : sm ≤ ct * 2 ^ K) (hK2 : ∀ j, j < K → ct * 2 ^ j < sm) : Met l y_X_state (WSY y_X_state b_X_state 5 (some .int)) ({ frames := 1, cells := 0, slots := 0, locals := 22 }) (va_Pc [.ref x, .int 0, .int 0, .int 3] (fun U => va_P D CLS [(x, .inr (4, [.int (nI bi), .int (nI ne), .int (nI li), .int (nI sp), .int (nI q), .ref sw, .ref sr, .ref br, .ref bq, .int lb])), (sw, .inr (3, [.ref e0, .ref e1, .int (nI pl), .int (nI rw)])), (e0, .inr (2, [.int 0, .int (nI fs), .int (nI sm), .int (nI ct), .int (nI ng)]))] U.heap ∧ va_K D CLS [] U ∧ EV (fun _ => False) tw U)) (QR (some (.int (nI K)))) 0 0 (fun _ => False) := by
  refine Met.ofW (cc := b_X_state) (maxL := 5) (ret := (some .int)) (by decide) rfl ?_
  intro p e s m args below meth c s₁ B hml hv
  obtain ⟨rfl, hP, hK, hE⟩ := hv
  have hx := B.exec
  have hb := B.bytes
  have hr := B.returns
  have hts := atoms_spec (ws := WSY y_X_state b_X_state 5 (some .int)) B.pre
  have hg : ∀ w ∈ GW, w.before _ s = true := fun w h => hts w (List.mem_cons_of_mem _ h)
  have hown : s.vm.findClass "LineGolomb" = some m.cls := findClass_of_methodNamed B.named
  have hlocks := B.notSynchronized
  have hS : va_S (fun _ => False) s.heap s.heap [] := va_S.rf
  have hl := lv_entry ([.ref x, .int 0, .int 0, .int 3]) (n := 5) (Nat.le_of_ble_eq_true rfl)
  rw [lg_entry_eq]
  generalize (lg_sl ([.ref x, .int 0, .int 0, .int 3]) ++ List.replicate (5 - (lg_sl ([.ref x, .int 0, .int 0, .int 3])).length) Slot.unset).toArray = ls at hl ⊢
  have hl : lv_has ls 5 [(0, .ref x), (1, .int 0), (2, .int 0), (3, .int 3)] := hl
  refine lv_iload_n hx hb d_X_state_0 rfl (lv_at hl 2 rfl) ?_
  have hPc := hP.sub (ws' := []) [] rfl
  have hKc := hK.sub (tys' := []) [] rfl
  refine pci (va_runS (As := [.int 0]) (rest := []) ⟨hx, hb, hml, hown, hg⟩ (c_X_isKind l D 0) (va_cwS 1 hg (gS gw_343 gw_344 gw_1 gw_345) rfl rfl rfl (by decide +kernel) ⟨Nat.le_of_ble_eq_true rfl, Nat.le_of_ble_eq_true rfl⟩) ⟨fun a U g mk q => by obtain ⟨q0, qP, qK⟩ := q; exact ⟨q0, qP, va_K.moved (u := U) (U := U.calling g mk a) (Vm.Alike.refl U.vm) qK⟩, fun U hU hW => ⟨rfl, by rw [hU]; exact hPc, va_K.moved hW.alike hKc⟩⟩ rfl rfl hl.1 rfl (lv_room (Nat.le_of_ble_eq_true rfl)) d_X_state_1 (⟨Nat.le_of_ble_eq_true rfl, Nat.le_of_ble_eq_true rfl⟩)) ?_
  refine tpi (y := 1) (by decide) ?_
  refine lv_if_ne (tgt := 17) hx hb d_X_state_4 (by decide) (fun c_1 => ?_) (fun c_1 => ?_)
  · skip
    refine lv_aload_n hx hb d_X_state_17 rfl (lv_at hl 0 rfl) ?_
    refine lv_iload_n hx hb d_X_state_18 rfl (lv_at hl 1 rfl) ?_
    have hPc := hP.sub (ws' := [(x, .inr (4, [.int (nI bi), .int (nI ne), .int (nI li), .int (nI sp), .int (nI q), .ref sw, .ref sr, .ref br, .ref bq, .int lb]))]) [0] rfl
    have hKc := hK.sub (tys' := []) [] rfl
    refine pcr (va_runV (As := [.int 0]) (rest := []) ⟨hx, hb, hml, hown, hg⟩ (c_X_sideOf0 l D x sw sr br bq bi ne li sp q lb) (cwV 1 hg (gV gw_163 gw_165 gs_0 gw_1 gw_166) rfl rfl rfl (by decide +kernel) ⟨Nat.le_of_ble_eq_true rfl, Nat.le_of_ble_eq_true rfl⟩) ⟨fun a U g mk q => by obtain ⟨q0, qP, qK⟩ := q; exact ⟨q0, qP, va_K.moved (u := U) (U := U.calling g mk a) (Vm.Alike.refl U.vm) qK⟩, va_recv hKc hPc (ci := 4) (q0 := 0) rfl rfl, fun U hU hW => ⟨rfl, by rw [hU]; exact hPc, va_K.moved hW.alike hKc⟩⟩ rfl rfl hl.1 rfl (lv_room (Nat.le_of_ble_eq_true rfl)) d_X_state_19 (⟨Nat.le_of_ble_eq_true rfl, Nat.le_of_ble_eq_true rfl⟩)) ?_
    refine lv_iload_n hx hb d_X_state_22 rfl (lv_at hl 2 rfl) ?_
    have hPc := hP.sub (ws' := [(sw, .inr (3, [.ref e0, .ref e1, .int (nI pl), .int (nI rw)]))]) [1] rfl
    have hKc := hK.sub (tys' := []) [] rfl
    refine pcr (va_runV (As := [.int 0]) (rest := []) ⟨hx, hb, hml, hown, hg⟩ (c_S_endsOf0 l D sw e0 e1 pl rw) (cwV 1 hg (gV gw_367 gw_368 gw_369 gw_5 gw_370) rfl rfl rfl (by decide +kernel) ⟨Nat.le_of_ble_eq_true rfl, Nat.le_of_ble_eq_true rfl⟩) ⟨fun a U g mk q => by obtain ⟨q0, qP, qK⟩ := q; exact ⟨q0, qP, va_K.moved (u := U) (U := U.calling g mk a) (Vm.Alike.refl U.vm) qK⟩, va_recv hKc hPc (ci := 3) (q0 := 0) rfl rfl, fun U hU hW => ⟨rfl, by rw [hU]; exact hPc, va_K.moved hW.alike hKc⟩⟩ rfl rfl hl.1 rfl (lv_room (Nat.le_of_ble_eq_true rfl)) d_X_state_23 (⟨Nat.le_of_ble_eq_true rfl, Nat.le_of_ble_eq_true rfl⟩)) ?_
    refine lv_astore (lv' := [(4, .ref e0), (0, .ref x), (1, .int 0), (2, .int 0), (3, .int 3)]) hx hb d_X_state_26 hl (by decide) rfl (fun ls hl => ?_)
    refine lv_iload_n hx hb d_X_state_28 rfl (lv_at hl 4 rfl) ?_
    refine lv_tableIn (off := 49) (tgt := 78) hx hb d_X_state_29 (by decide) (by decide) (by decide) (by decide) ?_
    refine lv_aload hx hb d_X_state_78 (lv_at hl 0 rfl) ?_
    have hPc := hP.sub (ws' := [(e0, .inr (2, [.int 0, .int (nI fs), .int (nI sm), .int (nI ct), .int (nI ng)]))]) [2] rfl
    have hKc := hK.sub (tys' := []) [] rfl
    refine pci (va_runV (As := []) (rest := []) ⟨hx, hb, hml, hown, hg⟩ (c_E_shift0 l D e0 fs sm ct ng K hc0 hs0 hKb hK1 hK2) (cwV 0 hg (gV gw_371 gw_372 gw_373 gw_6 gw_374) rfl rfl rfl (by decide +kernel) ⟨Nat.le_of_ble_eq_true rfl, Nat.le_of_ble_eq_true rfl⟩) ⟨fun a U g mk q => by obtain ⟨q0, qP, qK⟩ := q; exact ⟨q0, qP, va_K.moved (u := U) (U := U.calling g mk a) (Vm.Alike.refl U.vm) qK⟩, va_recv hKc hPc (ci := 2) (q0 := 0) rfl rfl, fun U hU hW => ⟨rfl, by rw [hU]; exact hPc, va_K.moved hW.alike hKc⟩⟩ rfl rfl hl.1 rfl (lv_room (Nat.le_of_ble_eq_true rfl)) d_X_state_80 (⟨Nat.le_of_ble_eq_true rfl, Nat.le_of_ble_eq_true rfl⟩)) ?_
    exact W.iret (v := nI K) hx hb hr (fun t ht hW => ⟨rfl, ht⟩) (fun q h => by cases h) d_X_state_83
  · skip
    exact absurd c_1 (by decide)
set_option maxHeartbeats 4000000 in
set_option maxRecDepth 100000 in
theorem c_X_state010 (l : Launch) (D : va_G) (x sw sr br bq bi ne li sp q : Nat) (lb : Int32) (e0 e1 pl rw fs sm ct ng tw : Nat) : Met l y_X_state (WSY y_X_state b_X_state 5 (some .int)) ({ frames := 1, cells := 0, slots := 0, locals := 22 }) (va_Pc [.ref x, .int 0, .int 1, .int 0] (fun U => va_P D CLS [(x, .inr (4, [.int (nI bi), .int (nI ne), .int (nI li), .int (nI sp), .int (nI q), .ref sw, .ref sr, .ref br, .ref bq, .int lb])), (sw, .inr (3, [.ref e0, .ref e1, .int (nI pl), .int (nI rw)])), (e1, .inr (2, [.int 1, .int (nI fs), .int (nI sm), .int (nI ct), .int (nI ng)]))] U.heap ∧ va_K D CLS [] U ∧ EV (fun _ => False) tw U)) (QR (some (.int (nI sm)))) 0 0 (fun _ => False) := by
  refine Met.ofW (cc := b_X_state) (maxL := 5) (ret := (some .int)) (by decide) rfl ?_
  intro p e s m args below meth c s₁ B hml hv
  obtain ⟨rfl, hP, hK, hE⟩ := hv
  have hx := B.exec
  have hb := B.bytes
  have hr := B.returns
  have hts := atoms_spec (ws := WSY y_X_state b_X_state 5 (some .int)) B.pre
  have hg : ∀ w ∈ GW, w.before _ s = true := fun w h => hts w (List.mem_cons_of_mem _ h)
  have hown : s.vm.findClass "LineGolomb" = some m.cls := findClass_of_methodNamed B.named
  have hlocks := B.notSynchronized
  have hS : va_S (fun _ => False) s.heap s.heap [] := va_S.rf
  have hl := lv_entry ([.ref x, .int 0, .int 1, .int 0]) (n := 5) (Nat.le_of_ble_eq_true rfl)
  rw [lg_entry_eq]
  generalize (lg_sl ([.ref x, .int 0, .int 1, .int 0]) ++ List.replicate (5 - (lg_sl ([.ref x, .int 0, .int 1, .int 0])).length) Slot.unset).toArray = ls at hl ⊢
  have hl : lv_has ls 5 [(0, .ref x), (1, .int 0), (2, .int 1), (3, .int 0)] := hl
  refine lv_iload_n hx hb d_X_state_0 rfl (lv_at hl 2 rfl) ?_
  have hPc := hP.sub (ws' := []) [] rfl
  have hKc := hK.sub (tys' := []) [] rfl
  refine pci (va_runS (As := [.int 1]) (rest := []) ⟨hx, hb, hml, hown, hg⟩ (c_X_isKind l D 1) (va_cwS 1 hg (gS gw_343 gw_344 gw_1 gw_345) rfl rfl rfl (by decide +kernel) ⟨Nat.le_of_ble_eq_true rfl, Nat.le_of_ble_eq_true rfl⟩) ⟨fun a U g mk q => by obtain ⟨q0, qP, qK⟩ := q; exact ⟨q0, qP, va_K.moved (u := U) (U := U.calling g mk a) (Vm.Alike.refl U.vm) qK⟩, fun U hU hW => ⟨rfl, by rw [hU]; exact hPc, va_K.moved hW.alike hKc⟩⟩ rfl rfl hl.1 rfl (lv_room (Nat.le_of_ble_eq_true rfl)) d_X_state_1 (⟨Nat.le_of_ble_eq_true rfl, Nat.le_of_ble_eq_true rfl⟩)) ?_
  refine tpi (y := 1) (by decide) ?_
  refine lv_if_ne (tgt := 17) hx hb d_X_state_4 (by decide) (fun c_1 => ?_) (fun c_1 => ?_)
  · skip
    refine lv_aload_n hx hb d_X_state_17 rfl (lv_at hl 0 rfl) ?_
    refine lv_iload_n hx hb d_X_state_18 rfl (lv_at hl 1 rfl) ?_
    have hPc := hP.sub (ws' := [(x, .inr (4, [.int (nI bi), .int (nI ne), .int (nI li), .int (nI sp), .int (nI q), .ref sw, .ref sr, .ref br, .ref bq, .int lb]))]) [0] rfl
    have hKc := hK.sub (tys' := []) [] rfl
    refine pcr (va_runV (As := [.int 0]) (rest := []) ⟨hx, hb, hml, hown, hg⟩ (c_X_sideOf0 l D x sw sr br bq bi ne li sp q lb) (cwV 1 hg (gV gw_163 gw_165 gs_0 gw_1 gw_166) rfl rfl rfl (by decide +kernel) ⟨Nat.le_of_ble_eq_true rfl, Nat.le_of_ble_eq_true rfl⟩) ⟨fun a U g mk q => by obtain ⟨q0, qP, qK⟩ := q; exact ⟨q0, qP, va_K.moved (u := U) (U := U.calling g mk a) (Vm.Alike.refl U.vm) qK⟩, va_recv hKc hPc (ci := 4) (q0 := 0) rfl rfl, fun U hU hW => ⟨rfl, by rw [hU]; exact hPc, va_K.moved hW.alike hKc⟩⟩ rfl rfl hl.1 rfl (lv_room (Nat.le_of_ble_eq_true rfl)) d_X_state_19 (⟨Nat.le_of_ble_eq_true rfl, Nat.le_of_ble_eq_true rfl⟩)) ?_
    refine lv_iload_n hx hb d_X_state_22 rfl (lv_at hl 2 rfl) ?_
    have hPc := hP.sub (ws' := [(sw, .inr (3, [.ref e0, .ref e1, .int (nI pl), .int (nI rw)]))]) [1] rfl
    have hKc := hK.sub (tys' := []) [] rfl
    refine pcr (va_runV (As := [.int 1]) (rest := []) ⟨hx, hb, hml, hown, hg⟩ (c_S_endsOf1 l D sw e0 e1 pl rw) (cwV 1 hg (gV gw_367 gw_368 gw_369 gw_5 gw_370) rfl rfl rfl (by decide +kernel) ⟨Nat.le_of_ble_eq_true rfl, Nat.le_of_ble_eq_true rfl⟩) ⟨fun a U g mk q => by obtain ⟨q0, qP, qK⟩ := q; exact ⟨q0, qP, va_K.moved (u := U) (U := U.calling g mk a) (Vm.Alike.refl U.vm) qK⟩, va_recv hKc hPc (ci := 3) (q0 := 0) rfl rfl, fun U hU hW => ⟨rfl, by rw [hU]; exact hPc, va_K.moved hW.alike hKc⟩⟩ rfl rfl hl.1 rfl (lv_room (Nat.le_of_ble_eq_true rfl)) d_X_state_23 (⟨Nat.le_of_ble_eq_true rfl, Nat.le_of_ble_eq_true rfl⟩)) ?_
    refine lv_astore (lv' := [(4, .ref e1), (0, .ref x), (1, .int 0), (2, .int 1), (3, .int 0)]) hx hb d_X_state_26 hl (by decide) rfl (fun ls hl => ?_)
    refine lv_iload_n hx hb d_X_state_28 rfl (lv_at hl 4 rfl) ?_
    refine lv_tableIn (off := 31) (tgt := 60) hx hb d_X_state_29 (by decide) (by decide) (by decide) (by decide) ?_
    refine lv_aload hx hb d_X_state_60 (lv_at hl 0 rfl) ?_
    refine va_getN (D := D) (ci := 2) (v := .int (nI sm)) (C := R_E) (T := T_E) (N := 5) hx hb hg in_E hown hK hP 2 rfl rfl 2 (by decide) (va_Nw.use rfl (hE.nw nw_85)) (fun _ h9 => h9) rfl d_X_state_62 ?_
    exact W.iret (v := nI sm) hx hb hr (fun t ht hW => ⟨rfl, ht⟩) (fun q h => by cases h) d_X_state_65
  · skip
    exact absurd c_1 (by decide)
set_option maxHeartbeats 4000000 in
set_option maxRecDepth 100000 in
theorem c_X_state011 (l : Launch) (D : va_G) (x sw sr br bq bi ne li sp q : Nat) (lb : Int32) (e0 e1 pl rw fs sm ct ng tw : Nat) : Met l y_X_state (WSY y_X_state b_X_state 5 (some .int)) ({ frames := 1, cells := 0, slots := 0, locals := 22 }) (va_Pc [.ref x, .int 0, .int 1, .int 1] (fun U => va_P D CLS [(x, .inr (4, [.int (nI bi), .int (nI ne), .int (nI li), .int (nI sp), .int (nI q), .ref sw, .ref sr, .ref br, .ref bq, .int lb])), (sw, .inr (3, [.ref e0, .ref e1, .int (nI pl), .int (nI rw)])), (e1, .inr (2, [.int 1, .int (nI fs), .int (nI sm), .int (nI ct), .int (nI ng)]))] U.heap ∧ va_K D CLS [] U ∧ EV (fun _ => False) tw U)) (QR (some (.int (nI ct)))) 0 0 (fun _ => False) := by
  refine Met.ofW (cc := b_X_state) (maxL := 5) (ret := (some .int)) (by decide) rfl ?_
  intro p e s m args below meth c s₁ B hml hv
  obtain ⟨rfl, hP, hK, hE⟩ := hv
  have hx := B.exec
  have hb := B.bytes
  have hr := B.returns
  have hts := atoms_spec (ws := WSY y_X_state b_X_state 5 (some .int)) B.pre
  have hg : ∀ w ∈ GW, w.before _ s = true := fun w h => hts w (List.mem_cons_of_mem _ h)
  have hown : s.vm.findClass "LineGolomb" = some m.cls := findClass_of_methodNamed B.named
  have hlocks := B.notSynchronized
  have hS : va_S (fun _ => False) s.heap s.heap [] := va_S.rf
  have hl := lv_entry ([.ref x, .int 0, .int 1, .int 1]) (n := 5) (Nat.le_of_ble_eq_true rfl)
  rw [lg_entry_eq]
  generalize (lg_sl ([.ref x, .int 0, .int 1, .int 1]) ++ List.replicate (5 - (lg_sl ([.ref x, .int 0, .int 1, .int 1])).length) Slot.unset).toArray = ls at hl ⊢
  have hl : lv_has ls 5 [(0, .ref x), (1, .int 0), (2, .int 1), (3, .int 1)] := hl
  refine lv_iload_n hx hb d_X_state_0 rfl (lv_at hl 2 rfl) ?_
  have hPc := hP.sub (ws' := []) [] rfl
  have hKc := hK.sub (tys' := []) [] rfl
  refine pci (va_runS (As := [.int 1]) (rest := []) ⟨hx, hb, hml, hown, hg⟩ (c_X_isKind l D 1) (va_cwS 1 hg (gS gw_343 gw_344 gw_1 gw_345) rfl rfl rfl (by decide +kernel) ⟨Nat.le_of_ble_eq_true rfl, Nat.le_of_ble_eq_true rfl⟩) ⟨fun a U g mk q => by obtain ⟨q0, qP, qK⟩ := q; exact ⟨q0, qP, va_K.moved (u := U) (U := U.calling g mk a) (Vm.Alike.refl U.vm) qK⟩, fun U hU hW => ⟨rfl, by rw [hU]; exact hPc, va_K.moved hW.alike hKc⟩⟩ rfl rfl hl.1 rfl (lv_room (Nat.le_of_ble_eq_true rfl)) d_X_state_1 (⟨Nat.le_of_ble_eq_true rfl, Nat.le_of_ble_eq_true rfl⟩)) ?_
  refine tpi (y := 1) (by decide) ?_
  refine lv_if_ne (tgt := 17) hx hb d_X_state_4 (by decide) (fun c_1 => ?_) (fun c_1 => ?_)
  · skip
    refine lv_aload_n hx hb d_X_state_17 rfl (lv_at hl 0 rfl) ?_
    refine lv_iload_n hx hb d_X_state_18 rfl (lv_at hl 1 rfl) ?_
    have hPc := hP.sub (ws' := [(x, .inr (4, [.int (nI bi), .int (nI ne), .int (nI li), .int (nI sp), .int (nI q), .ref sw, .ref sr, .ref br, .ref bq, .int lb]))]) [0] rfl
    have hKc := hK.sub (tys' := []) [] rfl
    refine pcr (va_runV (As := [.int 0]) (rest := []) ⟨hx, hb, hml, hown, hg⟩ (c_X_sideOf0 l D x sw sr br bq bi ne li sp q lb) (cwV 1 hg (gV gw_163 gw_165 gs_0 gw_1 gw_166) rfl rfl rfl (by decide +kernel) ⟨Nat.le_of_ble_eq_true rfl, Nat.le_of_ble_eq_true rfl⟩) ⟨fun a U g mk q => by obtain ⟨q0, qP, qK⟩ := q; exact ⟨q0, qP, va_K.moved (u := U) (U := U.calling g mk a) (Vm.Alike.refl U.vm) qK⟩, va_recv hKc hPc (ci := 4) (q0 := 0) rfl rfl, fun U hU hW => ⟨rfl, by rw [hU]; exact hPc, va_K.moved hW.alike hKc⟩⟩ rfl rfl hl.1 rfl (lv_room (Nat.le_of_ble_eq_true rfl)) d_X_state_19 (⟨Nat.le_of_ble_eq_true rfl, Nat.le_of_ble_eq_true rfl⟩)) ?_
    refine lv_iload_n hx hb d_X_state_22 rfl (lv_at hl 2 rfl) ?_
    have hPc := hP.sub (ws' := [(sw, .inr (3, [.ref e0, .ref e1, .int (nI pl), .int (nI rw)]))]) [1] rfl
    have hKc := hK.sub (tys' := []) [] rfl
    refine pcr (va_runV (As := [.int 1]) (rest := []) ⟨hx, hb, hml, hown, hg⟩ (c_S_endsOf1 l D sw e0 e1 pl rw) (cwV 1 hg (gV gw_367 gw_368 gw_369 gw_5 gw_370) rfl rfl rfl (by decide +kernel) ⟨Nat.le_of_ble_eq_true rfl, Nat.le_of_ble_eq_true rfl⟩) ⟨fun a U g mk q => by obtain ⟨q0, qP, qK⟩ := q; exact ⟨q0, qP, va_K.moved (u := U) (U := U.calling g mk a) (Vm.Alike.refl U.vm) qK⟩, va_recv hKc hPc (ci := 3) (q0 := 0) rfl rfl, fun U hU hW => ⟨rfl, by rw [hU]; exact hPc, va_K.moved hW.alike hKc⟩⟩ rfl rfl hl.1 rfl (lv_room (Nat.le_of_ble_eq_true rfl)) d_X_state_23 (⟨Nat.le_of_ble_eq_true rfl, Nat.le_of_ble_eq_true rfl⟩)) ?_
    refine lv_astore (lv' := [(4, .ref e1), (0, .ref x), (1, .int 0), (2, .int 1), (3, .int 1)]) hx hb d_X_state_26 hl (by decide) rfl (fun ls hl => ?_)
    refine lv_iload_n hx hb d_X_state_28 rfl (lv_at hl 4 rfl) ?_
    refine lv_tableIn (off := 37) (tgt := 66) hx hb d_X_state_29 (by decide) (by decide) (by decide) (by decide) ?_
    refine lv_aload hx hb d_X_state_66 (lv_at hl 0 rfl) ?_
    refine va_getN (D := D) (ci := 2) (v := .int (nI ct)) (C := R_E) (T := T_E) (N := 5) hx hb hg in_E hown hK hP 2 rfl rfl 3 (by decide) (va_Nw.use rfl (hE.nw nw_87)) (fun _ h9 => h9) rfl d_X_state_68 ?_
    exact W.iret (v := nI ct) hx hb hr (fun t ht hW => ⟨rfl, ht⟩) (fun q h => by cases h) d_X_state_71
  · skip
    exact absurd c_1 (by decide)
set_option maxHeartbeats 4000000 in
set_option maxRecDepth 100000 in
theorem c_X_state012 (l : Launch) (D : va_G) (x sw sr br bq bi ne li sp q : Nat) (lb : Int32) (e0 e1 pl rw fs sm ct ng tw : Nat) : Met l y_X_state (WSY y_X_state b_X_state 5 (some .int)) ({ frames := 1, cells := 0, slots := 0, locals := 22 }) (va_Pc [.ref x, .int 0, .int 1, .int 2] (fun U => va_P D CLS [(x, .inr (4, [.int (nI bi), .int (nI ne), .int (nI li), .int (nI sp), .int (nI q), .ref sw, .ref sr, .ref br, .ref bq, .int lb])), (sw, .inr (3, [.ref e0, .ref e1, .int (nI pl), .int (nI rw)])), (e1, .inr (2, [.int 1, .int (nI fs), .int (nI sm), .int (nI ct), .int (nI ng)]))] U.heap ∧ va_K D CLS [] U ∧ EV (fun _ => False) tw U)) (QR (some (.int (nI ng)))) 0 0 (fun _ => False) := by
  refine Met.ofW (cc := b_X_state) (maxL := 5) (ret := (some .int)) (by decide) rfl ?_
  intro p e s m args below meth c s₁ B hml hv
  obtain ⟨rfl, hP, hK, hE⟩ := hv
  have hx := B.exec
  have hb := B.bytes
  have hr := B.returns
  have hts := atoms_spec (ws := WSY y_X_state b_X_state 5 (some .int)) B.pre
  have hg : ∀ w ∈ GW, w.before _ s = true := fun w h => hts w (List.mem_cons_of_mem _ h)
  have hown : s.vm.findClass "LineGolomb" = some m.cls := findClass_of_methodNamed B.named
  have hlocks := B.notSynchronized
  have hS : va_S (fun _ => False) s.heap s.heap [] := va_S.rf
  have hl := lv_entry ([.ref x, .int 0, .int 1, .int 2]) (n := 5) (Nat.le_of_ble_eq_true rfl)
  rw [lg_entry_eq]
  generalize (lg_sl ([.ref x, .int 0, .int 1, .int 2]) ++ List.replicate (5 - (lg_sl ([.ref x, .int 0, .int 1, .int 2])).length) Slot.unset).toArray = ls at hl ⊢
  have hl : lv_has ls 5 [(0, .ref x), (1, .int 0), (2, .int 1), (3, .int 2)] := hl
  refine lv_iload_n hx hb d_X_state_0 rfl (lv_at hl 2 rfl) ?_
  have hPc := hP.sub (ws' := []) [] rfl
  have hKc := hK.sub (tys' := []) [] rfl
  refine pci (va_runS (As := [.int 1]) (rest := []) ⟨hx, hb, hml, hown, hg⟩ (c_X_isKind l D 1) (va_cwS 1 hg (gS gw_343 gw_344 gw_1 gw_345) rfl rfl rfl (by decide +kernel) ⟨Nat.le_of_ble_eq_true rfl, Nat.le_of_ble_eq_true rfl⟩) ⟨fun a U g mk q => by obtain ⟨q0, qP, qK⟩ := q; exact ⟨q0, qP, va_K.moved (u := U) (U := U.calling g mk a) (Vm.Alike.refl U.vm) qK⟩, fun U hU hW => ⟨rfl, by rw [hU]; exact hPc, va_K.moved hW.alike hKc⟩⟩ rfl rfl hl.1 rfl (lv_room (Nat.le_of_ble_eq_true rfl)) d_X_state_1 (⟨Nat.le_of_ble_eq_true rfl, Nat.le_of_ble_eq_true rfl⟩)) ?_
  refine tpi (y := 1) (by decide) ?_
  refine lv_if_ne (tgt := 17) hx hb d_X_state_4 (by decide) (fun c_1 => ?_) (fun c_1 => ?_)
  · skip
    refine lv_aload_n hx hb d_X_state_17 rfl (lv_at hl 0 rfl) ?_
    refine lv_iload_n hx hb d_X_state_18 rfl (lv_at hl 1 rfl) ?_
    have hPc := hP.sub (ws' := [(x, .inr (4, [.int (nI bi), .int (nI ne), .int (nI li), .int (nI sp), .int (nI q), .ref sw, .ref sr, .ref br, .ref bq, .int lb]))]) [0] rfl
    have hKc := hK.sub (tys' := []) [] rfl
    refine pcr (va_runV (As := [.int 0]) (rest := []) ⟨hx, hb, hml, hown, hg⟩ (c_X_sideOf0 l D x sw sr br bq bi ne li sp q lb) (cwV 1 hg (gV gw_163 gw_165 gs_0 gw_1 gw_166) rfl rfl rfl (by decide +kernel) ⟨Nat.le_of_ble_eq_true rfl, Nat.le_of_ble_eq_true rfl⟩) ⟨fun a U g mk q => by obtain ⟨q0, qP, qK⟩ := q; exact ⟨q0, qP, va_K.moved (u := U) (U := U.calling g mk a) (Vm.Alike.refl U.vm) qK⟩, va_recv hKc hPc (ci := 4) (q0 := 0) rfl rfl, fun U hU hW => ⟨rfl, by rw [hU]; exact hPc, va_K.moved hW.alike hKc⟩⟩ rfl rfl hl.1 rfl (lv_room (Nat.le_of_ble_eq_true rfl)) d_X_state_19 (⟨Nat.le_of_ble_eq_true rfl, Nat.le_of_ble_eq_true rfl⟩)) ?_
    refine lv_iload_n hx hb d_X_state_22 rfl (lv_at hl 2 rfl) ?_
    have hPc := hP.sub (ws' := [(sw, .inr (3, [.ref e0, .ref e1, .int (nI pl), .int (nI rw)]))]) [1] rfl
    have hKc := hK.sub (tys' := []) [] rfl
    refine pcr (va_runV (As := [.int 1]) (rest := []) ⟨hx, hb, hml, hown, hg⟩ (c_S_endsOf1 l D sw e0 e1 pl rw) (cwV 1 hg (gV gw_367 gw_368 gw_369 gw_5 gw_370) rfl rfl rfl (by decide +kernel) ⟨Nat.le_of_ble_eq_true rfl, Nat.le_of_ble_eq_true rfl⟩) ⟨fun a U g mk q => by obtain ⟨q0, qP, qK⟩ := q; exact ⟨q0, qP, va_K.moved (u := U) (U := U.calling g mk a) (Vm.Alike.refl U.vm) qK⟩, va_recv hKc hPc (ci := 3) (q0 := 0) rfl rfl, fun U hU hW => ⟨rfl, by rw [hU]; exact hPc, va_K.moved hW.alike hKc⟩⟩ rfl rfl hl.1 rfl (lv_room (Nat.le_of_ble_eq_true rfl)) d_X_state_23 (⟨Nat.le_of_ble_eq_true rfl, Nat.le_of_ble_eq_true rfl⟩)) ?_
    refine lv_astore (lv' := [(4, .ref e1), (0, .ref x), (1, .int 0), (2, .int 1), (3, .int 2)]) hx hb d_X_state_26 hl (by decide) rfl (fun ls hl => ?_)
    refine lv_iload_n hx hb d_X_state_28 rfl (lv_at hl 4 rfl) ?_
    refine lv_tableIn (off := 43) (tgt := 72) hx hb d_X_state_29 (by decide) (by decide) (by decide) (by decide) ?_
    refine lv_aload hx hb d_X_state_72 (lv_at hl 0 rfl) ?_
    refine va_getN (D := D) (ci := 2) (v := .int (nI ng)) (C := R_E) (T := T_E) (N := 5) hx hb hg in_E hown hK hP 2 rfl rfl 4 (by decide) (va_Nw.use rfl (hE.nw nw_89)) (fun _ h9 => h9) rfl d_X_state_74 ?_
    exact W.iret (v := nI ng) hx hb hr (fun t ht hW => ⟨rfl, ht⟩) (fun q h => by cases h) d_X_state_77
  · skip
    exact absurd c_1 (by decide)
set_option maxHeartbeats 4000000 in
set_option maxRecDepth 100000 in
theorem c_X_state013 (l : Launch) (D : va_G) (x sw sr br bq bi ne li sp q : Nat) (lb : Int32) (e0 e1 pl rw fs sm ct ng tw : Nat) (K : Nat) (hc0 : ct ≤ 64) (hs0 : sm < 2 ^ 30) (hKb : K ≤ 29) (hK1 : sm + ct / 2 ≤ ct * 2 ^ K) (hK2 : ∀ j, j < K → ct * 2 ^ j < sm + ct / 2) : Met l y_X_state (WSY y_X_state b_X_state 5 (some .int)) ({ frames := 1, cells := 0, slots := 0, locals := 22 }) (va_Pc [.ref x, .int 0, .int 1, .int 3] (fun U => va_P D CLS [(x, .inr (4, [.int (nI bi), .int (nI ne), .int (nI li), .int (nI sp), .int (nI q), .ref sw, .ref sr, .ref br, .ref bq, .int lb])), (sw, .inr (3, [.ref e0, .ref e1, .int (nI pl), .int (nI rw)])), (e1, .inr (2, [.int 1, .int (nI fs), .int (nI sm), .int (nI ct), .int (nI ng)]))] U.heap ∧ va_K D CLS [] U ∧ EV (fun _ => False) tw U)) (QR (some (.int (nI K)))) 0 0 (fun _ => False) := by
  refine Met.ofW (cc := b_X_state) (maxL := 5) (ret := (some .int)) (by decide) rfl ?_
  intro p e s m args below meth c s₁ B hml hv
  obtain ⟨rfl, hP, hK, hE⟩ := hv
  have hx := B.exec
  have hb := B.bytes
  have hr := B.returns
  have hts := atoms_spec (ws := WSY y_X_state b_X_state 5 (some .int)) B.pre
  have hg : ∀ w ∈ GW, w.before _ s = true := fun w h => hts w (List.mem_cons_of_mem _ h)
  have hown : s.vm.findClass "LineGolomb" = some m.cls := findClass_of_methodNamed B.named
  have hlocks := B.notSynchronized
  have hS : va_S (fun _ => False) s.heap s.heap [] := va_S.rf
  have hl := lv_entry ([.ref x, .int 0, .int 1, .int 3]) (n := 5) (Nat.le_of_ble_eq_true rfl)
  rw [lg_entry_eq]
  generalize (lg_sl ([.ref x, .int 0, .int 1, .int 3]) ++ List.replicate (5 - (lg_sl ([.ref x, .int 0, .int 1, .int 3])).length) Slot.unset).toArray = ls at hl ⊢
  have hl : lv_has ls 5 [(0, .ref x), (1, .int 0), (2, .int 1), (3, .int 3)] := hl
  refine lv_iload_n hx hb d_X_state_0 rfl (lv_at hl 2 rfl) ?_
  have hPc := hP.sub (ws' := []) [] rfl
  have hKc := hK.sub (tys' := []) [] rfl
  refine pci (va_runS (As := [.int 1]) (rest := []) ⟨hx, hb, hml, hown, hg⟩ (c_X_isKind l D 1) (va_cwS 1 hg (gS gw_343 gw_344 gw_1 gw_345) rfl rfl rfl (by decide +kernel) ⟨Nat.le_of_ble_eq_true rfl, Nat.le_of_ble_eq_true rfl⟩) ⟨fun a U g mk q => by obtain ⟨q0, qP, qK⟩ := q; exact ⟨q0, qP, va_K.moved (u := U) (U := U.calling g mk a) (Vm.Alike.refl U.vm) qK⟩, fun U hU hW => ⟨rfl, by rw [hU]; exact hPc, va_K.moved hW.alike hKc⟩⟩ rfl rfl hl.1 rfl (lv_room (Nat.le_of_ble_eq_true rfl)) d_X_state_1 (⟨Nat.le_of_ble_eq_true rfl, Nat.le_of_ble_eq_true rfl⟩)) ?_
  refine tpi (y := 1) (by decide) ?_
  refine lv_if_ne (tgt := 17) hx hb d_X_state_4 (by decide) (fun c_1 => ?_) (fun c_1 => ?_)
  · skip
    refine lv_aload_n hx hb d_X_state_17 rfl (lv_at hl 0 rfl) ?_
    refine lv_iload_n hx hb d_X_state_18 rfl (lv_at hl 1 rfl) ?_
    have hPc := hP.sub (ws' := [(x, .inr (4, [.int (nI bi), .int (nI ne), .int (nI li), .int (nI sp), .int (nI q), .ref sw, .ref sr, .ref br, .ref bq, .int lb]))]) [0] rfl
    have hKc := hK.sub (tys' := []) [] rfl
    refine pcr (va_runV (As := [.int 0]) (rest := []) ⟨hx, hb, hml, hown, hg⟩ (c_X_sideOf0 l D x sw sr br bq bi ne li sp q lb) (cwV 1 hg (gV gw_163 gw_165 gs_0 gw_1 gw_166) rfl rfl rfl (by decide +kernel) ⟨Nat.le_of_ble_eq_true rfl, Nat.le_of_ble_eq_true rfl⟩) ⟨fun a U g mk q => by obtain ⟨q0, qP, qK⟩ := q; exact ⟨q0, qP, va_K.moved (u := U) (U := U.calling g mk a) (Vm.Alike.refl U.vm) qK⟩, va_recv hKc hPc (ci := 4) (q0 := 0) rfl rfl, fun U hU hW => ⟨rfl, by rw [hU]; exact hPc, va_K.moved hW.alike hKc⟩⟩ rfl rfl hl.1 rfl (lv_room (Nat.le_of_ble_eq_true rfl)) d_X_state_19 (⟨Nat.le_of_ble_eq_true rfl, Nat.le_of_ble_eq_true rfl⟩)) ?_
    refine lv_iload_n hx hb d_X_state_22 rfl (lv_at hl 2 rfl) ?_
    have hPc := hP.sub (ws' := [(sw, .inr (3, [.ref e0, .ref e1, .int (nI pl), .int (nI rw)]))]) [1] rfl
    have hKc := hK.sub (tys' := []) [] rfl
    refine pcr (va_runV (As := [.int 1]) (rest := []) ⟨hx, hb, hml, hown, hg⟩ (c_S_endsOf1 l D sw e0 e1 pl rw) (cwV 1 hg (gV gw_367 gw_368 gw_369 gw_5 gw_370) rfl rfl rfl (by decide +kernel) ⟨Nat.le_of_ble_eq_true rfl, Nat.le_of_ble_eq_true rfl⟩) ⟨fun a U g mk q => by obtain ⟨q0, qP, qK⟩ := q; exact ⟨q0, qP, va_K.moved (u := U) (U := U.calling g mk a) (Vm.Alike.refl U.vm) qK⟩, va_recv hKc hPc (ci := 3) (q0 := 0) rfl rfl, fun U hU hW => ⟨rfl, by rw [hU]; exact hPc, va_K.moved hW.alike hKc⟩⟩ rfl rfl hl.1 rfl (lv_room (Nat.le_of_ble_eq_true rfl)) d_X_state_23 (⟨Nat.le_of_ble_eq_true rfl, Nat.le_of_ble_eq_true rfl⟩)) ?_
    refine lv_astore (lv' := [(4, .ref e1), (0, .ref x), (1, .int 0), (2, .int 1), (3, .int 3)]) hx hb d_X_state_26 hl (by decide) rfl (fun ls hl => ?_)
    refine lv_iload_n hx hb d_X_state_28 rfl (lv_at hl 4 rfl) ?_
    refine lv_tableIn (off := 49) (tgt := 78) hx hb d_X_state_29 (by decide) (by decide) (by decide) (by decide) ?_
    refine lv_aload hx hb d_X_state_78 (lv_at hl 0 rfl) ?_
    have hPc := hP.sub (ws' := [(e1, .inr (2, [.int 1, .int (nI fs), .int (nI sm), .int (nI ct), .int (nI ng)]))]) [2] rfl
    have hKc := hK.sub (tys' := []) [] rfl
    refine pci (va_runV (As := []) (rest := []) ⟨hx, hb, hml, hown, hg⟩ (c_E_shift1 l D e1 fs sm ct ng K hc0 hs0 hKb hK1 hK2) (cwV 0 hg (gV gw_371 gw_372 gw_373 gw_6 gw_374) rfl rfl rfl (by decide +kernel) ⟨Nat.le_of_ble_eq_true rfl, Nat.le_of_ble_eq_true rfl⟩) ⟨fun a U g mk q => by obtain ⟨q0, qP, qK⟩ := q; exact ⟨q0, qP, va_K.moved (u := U) (U := U.calling g mk a) (Vm.Alike.refl U.vm) qK⟩, va_recv hKc hPc (ci := 2) (q0 := 0) rfl rfl, fun U hU hW => ⟨rfl, by rw [hU]; exact hPc, va_K.moved hW.alike hKc⟩⟩ rfl rfl hl.1 rfl (lv_room (Nat.le_of_ble_eq_true rfl)) d_X_state_80 (⟨Nat.le_of_ble_eq_true rfl, Nat.le_of_ble_eq_true rfl⟩)) ?_
    exact W.iret (v := nI K) hx hb hr (fun t ht hW => ⟨rfl, ht⟩) (fun q h => by cases h) d_X_state_83
  · skip
    exact absurd c_1 (by decide)
set_option maxHeartbeats 4000000 in
set_option maxRecDepth 100000 in
theorem c_X_state100 (l : Launch) (D : va_G) (x sw sr br bq bi ne li sp q : Nat) (lb : Int32) (e0 e1 pl rw fs sm ct ng tw : Nat) : Met l y_X_state (WSY y_X_state b_X_state 5 (some .int)) ({ frames := 1, cells := 0, slots := 0, locals := 22 }) (va_Pc [.ref x, .int 1, .int 0, .int 0] (fun U => va_P D CLS [(x, .inr (4, [.int (nI bi), .int (nI ne), .int (nI li), .int (nI sp), .int (nI q), .ref sw, .ref sr, .ref br, .ref bq, .int lb])), (sr, .inr (3, [.ref e0, .ref e1, .int (nI pl), .int (nI rw)])), (e0, .inr (2, [.int 0, .int (nI fs), .int (nI sm), .int (nI ct), .int (nI ng)]))] U.heap ∧ va_K D CLS [] U ∧ EV (fun _ => False) tw U)) (QR (some (.int (nI sm)))) 0 0 (fun _ => False) := by
  refine Met.ofW (cc := b_X_state) (maxL := 5) (ret := (some .int)) (by decide) rfl ?_
  intro p e s m args below meth c s₁ B hml hv
  obtain ⟨rfl, hP, hK, hE⟩ := hv
  have hx := B.exec
  have hb := B.bytes
  have hr := B.returns
  have hts := atoms_spec (ws := WSY y_X_state b_X_state 5 (some .int)) B.pre
  have hg : ∀ w ∈ GW, w.before _ s = true := fun w h => hts w (List.mem_cons_of_mem _ h)
  have hown : s.vm.findClass "LineGolomb" = some m.cls := findClass_of_methodNamed B.named
  have hlocks := B.notSynchronized
  have hS : va_S (fun _ => False) s.heap s.heap [] := va_S.rf
  have hl := lv_entry ([.ref x, .int 1, .int 0, .int 0]) (n := 5) (Nat.le_of_ble_eq_true rfl)
  rw [lg_entry_eq]
  generalize (lg_sl ([.ref x, .int 1, .int 0, .int 0]) ++ List.replicate (5 - (lg_sl ([.ref x, .int 1, .int 0, .int 0])).length) Slot.unset).toArray = ls at hl ⊢
  have hl : lv_has ls 5 [(0, .ref x), (1, .int 1), (2, .int 0), (3, .int 0)] := hl
  refine lv_iload_n hx hb d_X_state_0 rfl (lv_at hl 2 rfl) ?_
  have hPc := hP.sub (ws' := []) [] rfl
  have hKc := hK.sub (tys' := []) [] rfl
  refine pci (va_runS (As := [.int 0]) (rest := []) ⟨hx, hb, hml, hown, hg⟩ (c_X_isKind l D 0) (va_cwS 1 hg (gS gw_343 gw_344 gw_1 gw_345) rfl rfl rfl (by decide +kernel) ⟨Nat.le_of_ble_eq_true rfl, Nat.le_of_ble_eq_true rfl⟩) ⟨fun a U g mk q => by obtain ⟨q0, qP, qK⟩ := q; exact ⟨q0, qP, va_K.moved (u := U) (U := U.calling g mk a) (Vm.Alike.refl U.vm) qK⟩, fun U hU hW => ⟨rfl, by rw [hU]; exact hPc, va_K.moved hW.alike hKc⟩⟩ rfl rfl hl.1 rfl (lv_room (Nat.le_of_ble_eq_true rfl)) d_X_state_1 (⟨Nat.le_of_ble_eq_true rfl, Nat.le_of_ble_eq_true rfl⟩)) ?_
  refine tpi (y := 1) (by decide) ?_
  refine lv_if_ne (tgt := 17) hx hb d_X_state_4 (by decide) (fun c_1 => ?_) (fun c_1 => ?_)
  · skip
    refine lv_aload_n hx hb d_X_state_17 rfl (lv_at hl 0 rfl) ?_
    refine lv_iload_n hx hb d_X_state_18 rfl (lv_at hl 1 rfl) ?_
    have hPc := hP.sub (ws' := [(x, .inr (4, [.int (nI bi), .int (nI ne), .int (nI li), .int (nI sp), .int (nI q), .ref sw, .ref sr, .ref br, .ref bq, .int lb]))]) [0] rfl
    have hKc := hK.sub (tys' := []) [] rfl
    refine pcr (va_runV (As := [.int 1]) (rest := []) ⟨hx, hb, hml, hown, hg⟩ (c_X_sideOf1 l D x sw sr br bq bi ne li sp q lb) (cwV 1 hg (gV gw_163 gw_165 gs_0 gw_1 gw_166) rfl rfl rfl (by decide +kernel) ⟨Nat.le_of_ble_eq_true rfl, Nat.le_of_ble_eq_true rfl⟩) ⟨fun a U g mk q => by obtain ⟨q0, qP, qK⟩ := q; exact ⟨q0, qP, va_K.moved (u := U) (U := U.calling g mk a) (Vm.Alike.refl U.vm) qK⟩, va_recv hKc hPc (ci := 4) (q0 := 0) rfl rfl, fun U hU hW => ⟨rfl, by rw [hU]; exact hPc, va_K.moved hW.alike hKc⟩⟩ rfl rfl hl.1 rfl (lv_room (Nat.le_of_ble_eq_true rfl)) d_X_state_19 (⟨Nat.le_of_ble_eq_true rfl, Nat.le_of_ble_eq_true rfl⟩)) ?_
    refine lv_iload_n hx hb d_X_state_22 rfl (lv_at hl 2 rfl) ?_
    have hPc := hP.sub (ws' := [(sr, .inr (3, [.ref e0, .ref e1, .int (nI pl), .int (nI rw)]))]) [1] rfl
    have hKc := hK.sub (tys' := []) [] rfl
    refine pcr (va_runV (As := [.int 0]) (rest := []) ⟨hx, hb, hml, hown, hg⟩ (c_S_endsOf0 l D sr e0 e1 pl rw) (cwV 1 hg (gV gw_367 gw_368 gw_369 gw_5 gw_370) rfl rfl rfl (by decide +kernel) ⟨Nat.le_of_ble_eq_true rfl, Nat.le_of_ble_eq_true rfl⟩) ⟨fun a U g mk q => by obtain ⟨q0, qP, qK⟩ := q; exact ⟨q0, qP, va_K.moved (u := U) (U := U.calling g mk a) (Vm.Alike.refl U.vm) qK⟩, va_recv hKc hPc (ci := 3) (q0 := 0) rfl rfl, fun U hU hW => ⟨rfl, by rw [hU]; exact hPc, va_K.moved hW.alike hKc⟩⟩ rfl rfl hl.1 rfl (lv_room (Nat.le_of_ble_eq_true rfl)) d_X_state_23 (⟨Nat.le_of_ble_eq_true rfl, Nat.le_of_ble_eq_true rfl⟩)) ?_
    refine lv_astore (lv' := [(4, .ref e0), (0, .ref x), (1, .int 1), (2, .int 0), (3, .int 0)]) hx hb d_X_state_26 hl (by decide) rfl (fun ls hl => ?_)
    refine lv_iload_n hx hb d_X_state_28 rfl (lv_at hl 4 rfl) ?_
    refine lv_tableIn (off := 31) (tgt := 60) hx hb d_X_state_29 (by decide) (by decide) (by decide) (by decide) ?_
    refine lv_aload hx hb d_X_state_60 (lv_at hl 0 rfl) ?_
    refine va_getN (D := D) (ci := 2) (v := .int (nI sm)) (C := R_E) (T := T_E) (N := 5) hx hb hg in_E hown hK hP 2 rfl rfl 2 (by decide) (va_Nw.use rfl (hE.nw nw_85)) (fun _ h9 => h9) rfl d_X_state_62 ?_
    exact W.iret (v := nI sm) hx hb hr (fun t ht hW => ⟨rfl, ht⟩) (fun q h => by cases h) d_X_state_65
  · skip
    exact absurd c_1 (by decide)
set_option maxHeartbeats 4000000 in
set_option maxRecDepth 100000 in
theorem c_X_state101 (l : Launch) (D : va_G) (x sw sr br bq bi ne li sp q : Nat) (lb : Int32) (e0 e1 pl rw fs sm ct ng tw : Nat) : Met l y_X_state (WSY y_X_state b_X_state 5 (some .int)) ({ frames := 1, cells := 0, slots := 0, locals := 22 }) (va_Pc [.ref x, .int 1, .int 0, .int 1] (fun U => va_P D CLS [(x, .inr (4, [.int (nI bi), .int (nI ne), .int (nI li), .int (nI sp), .int (nI q), .ref sw, .ref sr, .ref br, .ref bq, .int lb])), (sr, .inr (3, [.ref e0, .ref e1, .int (nI pl), .int (nI rw)])), (e0, .inr (2, [.int 0, .int (nI fs), .int (nI sm), .int (nI ct), .int (nI ng)]))] U.heap ∧ va_K D CLS [] U ∧ EV (fun _ => False) tw U)) (QR (some (.int (nI ct)))) 0 0 (fun _ => False) := by
  refine Met.ofW (cc := b_X_state) (maxL := 5) (ret := (some .int)) (by decide) rfl ?_
  intro p e s m args below meth c s₁ B hml hv
  obtain ⟨rfl, hP, hK, hE⟩ := hv
  have hx := B.exec
  have hb := B.bytes
  have hr := B.returns
  have hts := atoms_spec (ws := WSY y_X_state b_X_state 5 (some .int)) B.pre
  have hg : ∀ w ∈ GW, w.before _ s = true := fun w h => hts w (List.mem_cons_of_mem _ h)
  have hown : s.vm.findClass "LineGolomb" = some m.cls := findClass_of_methodNamed B.named
  have hlocks := B.notSynchronized
  have hS : va_S (fun _ => False) s.heap s.heap [] := va_S.rf
  have hl := lv_entry ([.ref x, .int 1, .int 0, .int 1]) (n := 5) (Nat.le_of_ble_eq_true rfl)
  rw [lg_entry_eq]
  generalize (lg_sl ([.ref x, .int 1, .int 0, .int 1]) ++ List.replicate (5 - (lg_sl ([.ref x, .int 1, .int 0, .int 1])).length) Slot.unset).toArray = ls at hl ⊢
  have hl : lv_has ls 5 [(0, .ref x), (1, .int 1), (2, .int 0), (3, .int 1)] := hl
  refine lv_iload_n hx hb d_X_state_0 rfl (lv_at hl 2 rfl) ?_
  have hPc := hP.sub (ws' := []) [] rfl
  have hKc := hK.sub (tys' := []) [] rfl
  refine pci (va_runS (As := [.int 0]) (rest := []) ⟨hx, hb, hml, hown, hg⟩ (c_X_isKind l D 0) (va_cwS 1 hg (gS gw_343 gw_344 gw_1 gw_345) rfl rfl rfl (by decide +kernel) ⟨Nat.le_of_ble_eq_true rfl, Nat.le_of_ble_eq_true rfl⟩) ⟨fun a U g mk q => by obtain ⟨q0, qP, qK⟩ := q; exact ⟨q0, qP, va_K.moved (u := U) (U := U.calling g mk a) (Vm.Alike.refl U.vm) qK⟩, fun U hU hW => ⟨rfl, by rw [hU]; exact hPc, va_K.moved hW.alike hKc⟩⟩ rfl rfl hl.1 rfl (lv_room (Nat.le_of_ble_eq_true rfl)) d_X_state_1 (⟨Nat.le_of_ble_eq_true rfl, Nat.le_of_ble_eq_true rfl⟩)) ?_
  refine tpi (y := 1) (by decide) ?_
  refine lv_if_ne (tgt := 17) hx hb d_X_state_4 (by decide) (fun c_1 => ?_) (fun c_1 => ?_)
  · skip
    refine lv_aload_n hx hb d_X_state_17 rfl (lv_at hl 0 rfl) ?_
    refine lv_iload_n hx hb d_X_state_18 rfl (lv_at hl 1 rfl) ?_
    have hPc := hP.sub (ws' := [(x, .inr (4, [.int (nI bi), .int (nI ne), .int (nI li), .int (nI sp), .int (nI q), .ref sw, .ref sr, .ref br, .ref bq, .int lb]))]) [0] rfl
    have hKc := hK.sub (tys' := []) [] rfl
    refine pcr (va_runV (As := [.int 1]) (rest := []) ⟨hx, hb, hml, hown, hg⟩ (c_X_sideOf1 l D x sw sr br bq bi ne li sp q lb) (cwV 1 hg (gV gw_163 gw_165 gs_0 gw_1 gw_166) rfl rfl rfl (by decide +kernel) ⟨Nat.le_of_ble_eq_true rfl, Nat.le_of_ble_eq_true rfl⟩) ⟨fun a U g mk q => by obtain ⟨q0, qP, qK⟩ := q; exact ⟨q0, qP, va_K.moved (u := U) (U := U.calling g mk a) (Vm.Alike.refl U.vm) qK⟩, va_recv hKc hPc (ci := 4) (q0 := 0) rfl rfl, fun U hU hW => ⟨rfl, by rw [hU]; exact hPc, va_K.moved hW.alike hKc⟩⟩ rfl rfl hl.1 rfl (lv_room (Nat.le_of_ble_eq_true rfl)) d_X_state_19 (⟨Nat.le_of_ble_eq_true rfl, Nat.le_of_ble_eq_true rfl⟩)) ?_
    refine lv_iload_n hx hb d_X_state_22 rfl (lv_at hl 2 rfl) ?_
    have hPc := hP.sub (ws' := [(sr, .inr (3, [.ref e0, .ref e1, .int (nI pl), .int (nI rw)]))]) [1] rfl
    have hKc := hK.sub (tys' := []) [] rfl
    refine pcr (va_runV (As := [.int 0]) (rest := []) ⟨hx, hb, hml, hown, hg⟩ (c_S_endsOf0 l D sr e0 e1 pl rw) (cwV 1 hg (gV gw_367 gw_368 gw_369 gw_5 gw_370) rfl rfl rfl (by decide +kernel) ⟨Nat.le_of_ble_eq_true rfl, Nat.le_of_ble_eq_true rfl⟩) ⟨fun a U g mk q => by obtain ⟨q0, qP, qK⟩ := q; exact ⟨q0, qP, va_K.moved (u := U) (U := U.calling g mk a) (Vm.Alike.refl U.vm) qK⟩, va_recv hKc hPc (ci := 3) (q0 := 0) rfl rfl, fun U hU hW => ⟨rfl, by rw [hU]; exact hPc, va_K.moved hW.alike hKc⟩⟩ rfl rfl hl.1 rfl (lv_room (Nat.le_of_ble_eq_true rfl)) d_X_state_23 (⟨Nat.le_of_ble_eq_true rfl, Nat.le_of_ble_eq_true rfl⟩)) ?_
    refine lv_astore (lv' := [(4, .ref e0), (0, .ref x), (1, .int 1), (2, .int 0), (3, .int 1)]) hx hb d_X_state_26 hl (by decide) rfl (fun ls hl => ?_)
    refine lv_iload_n hx hb d_X_state_28 rfl (lv_at hl 4 rfl) ?_
    refine lv_tableIn (off := 37) (tgt := 66) hx hb d_X_state_29 (by decide) (by decide) (by decide) (by decide) ?_
    refine lv_aload hx hb d_X_state_66 (lv_at hl 0 rfl) ?_
    refine va_getN (D := D) (ci := 2) (v := .int (nI ct)) (C := R_E) (T := T_E) (N := 5) hx hb hg in_E hown hK hP 2 rfl rfl 3 (by decide) (va_Nw.use rfl (hE.nw nw_87)) (fun _ h9 => h9) rfl d_X_state_68 ?_
    exact W.iret (v := nI ct) hx hb hr (fun t ht hW => ⟨rfl, ht⟩) (fun q h => by cases h) d_X_state_71
  · skip
    exact absurd c_1 (by decide)
set_option maxHeartbeats 4000000 in
set_option maxRecDepth 100000 in
theorem c_X_state102 (l : Launch) (D : va_G) (x sw sr br bq bi ne li sp q : Nat) (lb : Int32) (e0 e1 pl rw fs sm ct ng tw : Nat) : Met l y_X_state (WSY y_X_state b_X_state 5 (some .int)) ({ frames := 1, cells := 0, slots := 0, locals := 22 }) (va_Pc [.ref x, .int 1, .int 0, .int 2] (fun U => va_P D CLS [(x, .inr (4, [.int (nI bi), .int (nI ne), .int (nI li), .int (nI sp), .int (nI q), .ref sw, .ref sr, .ref br, .ref bq, .int lb])), (sr, .inr (3, [.ref e0, .ref e1, .int (nI pl), .int (nI rw)])), (e0, .inr (2, [.int 0, .int (nI fs), .int (nI sm), .int (nI ct), .int (nI ng)]))] U.heap ∧ va_K D CLS [] U ∧ EV (fun _ => False) tw U)) (QR (some (.int (nI ng)))) 0 0 (fun _ => False) := by
  refine Met.ofW (cc := b_X_state) (maxL := 5) (ret := (some .int)) (by decide) rfl ?_
  intro p e s m args below meth c s₁ B hml hv
  obtain ⟨rfl, hP, hK, hE⟩ := hv
  have hx := B.exec
  have hb := B.bytes
  have hr := B.returns
  have hts := atoms_spec (ws := WSY y_X_state b_X_state 5 (some .int)) B.pre
  have hg : ∀ w ∈ GW, w.before _ s = true := fun w h => hts w (List.mem_cons_of_mem _ h)
  have hown : s.vm.findClass "LineGolomb" = some m.cls := findClass_of_methodNamed B.named
  have hlocks := B.notSynchronized
  have hS : va_S (fun _ => False) s.heap s.heap [] := va_S.rf
  have hl := lv_entry ([.ref x, .int 1, .int 0, .int 2]) (n := 5) (Nat.le_of_ble_eq_true rfl)
  rw [lg_entry_eq]
  generalize (lg_sl ([.ref x, .int 1, .int 0, .int 2]) ++ List.replicate (5 - (lg_sl ([.ref x, .int 1, .int 0, .int 2])).length) Slot.unset).toArray = ls at hl ⊢
  have hl : lv_has ls 5 [(0, .ref x), (1, .int 1), (2, .int 0), (3, .int 2)] := hl
  refine lv_iload_n hx hb d_X_state_0 rfl (lv_at hl 2 rfl) ?_
  have hPc := hP.sub (ws' := []) [] rfl
  have hKc := hK.sub (tys' := []) [] rfl
  refine pci (va_runS (As := [.int 0]) (rest := []) ⟨hx, hb, hml, hown, hg⟩ (c_X_isKind l D 0) (va_cwS 1 hg (gS gw_343 gw_344 gw_1 gw_345) rfl rfl rfl (by decide +kernel) ⟨Nat.le_of_ble_eq_true rfl, Nat.le_of_ble_eq_true rfl⟩) ⟨fun a U g mk q => by obtain ⟨q0, qP, qK⟩ := q; exact ⟨q0, qP, va_K.moved (u := U) (U := U.calling g mk a) (Vm.Alike.refl U.vm) qK⟩, fun U hU hW => ⟨rfl, by rw [hU]; exact hPc, va_K.moved hW.alike hKc⟩⟩ rfl rfl hl.1 rfl (lv_room (Nat.le_of_ble_eq_true rfl)) d_X_state_1 (⟨Nat.le_of_ble_eq_true rfl, Nat.le_of_ble_eq_true rfl⟩)) ?_
  refine tpi (y := 1) (by decide) ?_
  refine lv_if_ne (tgt := 17) hx hb d_X_state_4 (by decide) (fun c_1 => ?_) (fun c_1 => ?_)
  · skip
    refine lv_aload_n hx hb d_X_state_17 rfl (lv_at hl 0 rfl) ?_
    refine lv_iload_n hx hb d_X_state_18 rfl (lv_at hl 1 rfl) ?_
    have hPc := hP.sub (ws' := [(x, .inr (4, [.int (nI bi), .int (nI ne), .int (nI li), .int (nI sp), .int (nI q), .ref sw, .ref sr, .ref br, .ref bq, .int lb]))]) [0] rfl
    have hKc := hK.sub (tys' := []) [] rfl
    refine pcr (va_runV (As := [.int 1]) (rest := []) ⟨hx, hb, hml, hown, hg⟩ (c_X_sideOf1 l D x sw sr br bq bi ne li sp q lb) (cwV 1 hg (gV gw_163 gw_165 gs_0 gw_1 gw_166) rfl rfl rfl (by decide +kernel) ⟨Nat.le_of_ble_eq_true rfl, Nat.le_of_ble_eq_true rfl⟩) ⟨fun a U g mk q => by obtain ⟨q0, qP, qK⟩ := q; exact ⟨q0, qP, va_K.moved (u := U) (U := U.calling g mk a) (Vm.Alike.refl U.vm) qK⟩, va_recv hKc hPc (ci := 4) (q0 := 0) rfl rfl, fun U hU hW => ⟨rfl, by rw [hU]; exact hPc, va_K.moved hW.alike hKc⟩⟩ rfl rfl hl.1 rfl (lv_room (Nat.le_of_ble_eq_true rfl)) d_X_state_19 (⟨Nat.le_of_ble_eq_true rfl, Nat.le_of_ble_eq_true rfl⟩)) ?_
    refine lv_iload_n hx hb d_X_state_22 rfl (lv_at hl 2 rfl) ?_
    have hPc := hP.sub (ws' := [(sr, .inr (3, [.ref e0, .ref e1, .int (nI pl), .int (nI rw)]))]) [1] rfl
    have hKc := hK.sub (tys' := []) [] rfl
    refine pcr (va_runV (As := [.int 0]) (rest := []) ⟨hx, hb, hml, hown, hg⟩ (c_S_endsOf0 l D sr e0 e1 pl rw) (cwV 1 hg (gV gw_367 gw_368 gw_369 gw_5 gw_370) rfl rfl rfl (by decide +kernel) ⟨Nat.le_of_ble_eq_true rfl, Nat.le_of_ble_eq_true rfl⟩) ⟨fun a U g mk q => by obtain ⟨q0, qP, qK⟩ := q; exact ⟨q0, qP, va_K.moved (u := U) (U := U.calling g mk a) (Vm.Alike.refl U.vm) qK⟩, va_recv hKc hPc (ci := 3) (q0 := 0) rfl rfl, fun U hU hW => ⟨rfl, by rw [hU]; exact hPc, va_K.moved hW.alike hKc⟩⟩ rfl rfl hl.1 rfl (lv_room (Nat.le_of_ble_eq_true rfl)) d_X_state_23 (⟨Nat.le_of_ble_eq_true rfl, Nat.le_of_ble_eq_true rfl⟩)) ?_
    refine lv_astore (lv' := [(4, .ref e0), (0, .ref x), (1, .int 1), (2, .int 0), (3, .int 2)]) hx hb d_X_state_26 hl (by decide) rfl (fun ls hl => ?_)
    refine lv_iload_n hx hb d_X_state_28 rfl (lv_at hl 4 rfl) ?_
    refine lv_tableIn (off := 43) (tgt := 72) hx hb d_X_state_29 (by decide) (by decide) (by decide) (by decide) ?_
    refine lv_aload hx hb d_X_state_72 (lv_at hl 0 rfl) ?_
    refine va_getN (D := D) (ci := 2) (v := .int (nI ng)) (C := R_E) (T := T_E) (N := 5) hx hb hg in_E hown hK hP 2 rfl rfl 4 (by decide) (va_Nw.use rfl (hE.nw nw_89)) (fun _ h9 => h9) rfl d_X_state_74 ?_
    exact W.iret (v := nI ng) hx hb hr (fun t ht hW => ⟨rfl, ht⟩) (fun q h => by cases h) d_X_state_77
  · skip
    exact absurd c_1 (by decide)
set_option maxHeartbeats 4000000 in
set_option maxRecDepth 100000 in
theorem c_X_state103 (l : Launch) (D : va_G) (x sw sr br bq bi ne li sp q : Nat) (lb : Int32) (e0 e1 pl rw fs sm ct ng tw : Nat) (K : Nat) (hc0 : ct ≤ 64) (hs0 : sm < 2 ^ 30) (hKb : K ≤ 29) (hK1 : sm ≤ ct * 2 ^ K) (hK2 : ∀ j, j < K → ct * 2 ^ j < sm) : Met l y_X_state (WSY y_X_state b_X_state 5 (some .int)) ({ frames := 1, cells := 0, slots := 0, locals := 22 }) (va_Pc [.ref x, .int 1, .int 0, .int 3] (fun U => va_P D CLS [(x, .inr (4, [.int (nI bi), .int (nI ne), .int (nI li), .int (nI sp), .int (nI q), .ref sw, .ref sr, .ref br, .ref bq, .int lb])), (sr, .inr (3, [.ref e0, .ref e1, .int (nI pl), .int (nI rw)])), (e0, .inr (2, [.int 0, .int (nI fs), .int (nI sm), .int (nI ct), .int (nI ng)]))] U.heap ∧ va_K D CLS [] U ∧ EV (fun _ => False) tw U)) (QR (some (.int (nI K)))) 0 0 (fun _ => False) := by
  refine Met.ofW (cc := b_X_state) (maxL := 5) (ret := (some .int)) (by decide) rfl ?_
  intro p e s m args below meth c s₁ B hml hv
  obtain ⟨rfl, hP, hK, hE⟩ := hv
  have hx := B.exec
  have hb := B.bytes
  have hr := B.returns
  have hts := atoms_spec (ws := WSY y_X_state b_X_state 5 (some .int)) B.pre
  have hg : ∀ w ∈ GW, w.before _ s = true := fun w h => hts w (List.mem_cons_of_mem _ h)
  have hown : s.vm.findClass "LineGolomb" = some m.cls := findClass_of_methodNamed B.named
  have hlocks := B.notSynchronized
  have hS : va_S (fun _ => False) s.heap s.heap [] := va_S.rf
  have hl := lv_entry ([.ref x, .int 1, .int 0, .int 3]) (n := 5) (Nat.le_of_ble_eq_true rfl)
  rw [lg_entry_eq]
  generalize (lg_sl ([.ref x, .int 1, .int 0, .int 3]) ++ List.replicate (5 - (lg_sl ([.ref x, .int 1, .int 0, .int 3])).length) Slot.unset).toArray = ls at hl ⊢
  have hl : lv_has ls 5 [(0, .ref x), (1, .int 1), (2, .int 0), (3, .int 3)] := hl
  refine lv_iload_n hx hb d_X_state_0 rfl (lv_at hl 2 rfl) ?_
  have hPc := hP.sub (ws' := []) [] rfl
  have hKc := hK.sub (tys' := []) [] rfl
  refine pci (va_runS (As := [.int 0]) (rest := []) ⟨hx, hb, hml, hown, hg⟩ (c_X_isKind l D 0) (va_cwS 1 hg (gS gw_343 gw_344 gw_1 gw_345) rfl rfl rfl (by decide +kernel) ⟨Nat.le_of_ble_eq_true rfl, Nat.le_of_ble_eq_true rfl⟩) ⟨fun a U g mk q => by obtain ⟨q0, qP, qK⟩ := q; exact ⟨q0, qP, va_K.moved (u := U) (U := U.calling g mk a) (Vm.Alike.refl U.vm) qK⟩, fun U hU hW => ⟨rfl, by rw [hU]; exact hPc, va_K.moved hW.alike hKc⟩⟩ rfl rfl hl.1 rfl (lv_room (Nat.le_of_ble_eq_true rfl)) d_X_state_1 (⟨Nat.le_of_ble_eq_true rfl, Nat.le_of_ble_eq_true rfl⟩)) ?_
  refine tpi (y := 1) (by decide) ?_
  refine lv_if_ne (tgt := 17) hx hb d_X_state_4 (by decide) (fun c_1 => ?_) (fun c_1 => ?_)
  · skip
    refine lv_aload_n hx hb d_X_state_17 rfl (lv_at hl 0 rfl) ?_
    refine lv_iload_n hx hb d_X_state_18 rfl (lv_at hl 1 rfl) ?_
    have hPc := hP.sub (ws' := [(x, .inr (4, [.int (nI bi), .int (nI ne), .int (nI li), .int (nI sp), .int (nI q), .ref sw, .ref sr, .ref br, .ref bq, .int lb]))]) [0] rfl
    have hKc := hK.sub (tys' := []) [] rfl
    refine pcr (va_runV (As := [.int 1]) (rest := []) ⟨hx, hb, hml, hown, hg⟩ (c_X_sideOf1 l D x sw sr br bq bi ne li sp q lb) (cwV 1 hg (gV gw_163 gw_165 gs_0 gw_1 gw_166) rfl rfl rfl (by decide +kernel) ⟨Nat.le_of_ble_eq_true rfl, Nat.le_of_ble_eq_true rfl⟩) ⟨fun a U g mk q => by obtain ⟨q0, qP, qK⟩ := q; exact ⟨q0, qP, va_K.moved (u := U) (U := U.calling g mk a) (Vm.Alike.refl U.vm) qK⟩, va_recv hKc hPc (ci := 4) (q0 := 0) rfl rfl, fun U hU hW => ⟨rfl, by rw [hU]; exact hPc, va_K.moved hW.alike hKc⟩⟩ rfl rfl hl.1 rfl (lv_room (Nat.le_of_ble_eq_true rfl)) d_X_state_19 (⟨Nat.le_of_ble_eq_true rfl, Nat.le_of_ble_eq_true rfl⟩)) ?_
    refine lv_iload_n hx hb d_X_state_22 rfl (lv_at hl 2 rfl) ?_
    have hPc := hP.sub (ws' := [(sr, .inr (3, [.ref e0, .ref e1, .int (nI pl), .int (nI rw)]))]) [1] rfl
    have hKc := hK.sub (tys' := []) [] rfl
    refine pcr (va_runV (As := [.int 0]) (rest := []) ⟨hx, hb, hml, hown, hg⟩ (c_S_endsOf0 l D sr e0 e1 pl rw) (cwV 1 hg (gV gw_367 gw_368 gw_369 gw_5 gw_370) rfl rfl rfl (by decide +kernel) ⟨Nat.le_of_ble_eq_true rfl, Nat.le_of_ble_eq_true rfl⟩) ⟨fun a U g mk q => by obtain ⟨q0, qP, qK⟩ := q; exact ⟨q0, qP, va_K.moved (u := U) (U := U.calling g mk a) (Vm.Alike.refl U.vm) qK⟩, va_recv hKc hPc (ci := 3) (q0 := 0) rfl rfl, fun U hU hW => ⟨rfl, by rw [hU]; exact hPc, va_K.moved hW.alike hKc⟩⟩ rfl rfl hl.1 rfl (lv_room (Nat.le_of_ble_eq_true rfl)) d_X_state_23 (⟨Nat.le_of_ble_eq_true rfl, Nat.le_of_ble_eq_true rfl⟩)) ?_
    refine lv_astore (lv' := [(4, .ref e0), (0, .ref x), (1, .int 1), (2, .int 0), (3, .int 3)]) hx hb d_X_state_26 hl (by decide) rfl (fun ls hl => ?_)
    refine lv_iload_n hx hb d_X_state_28 rfl (lv_at hl 4 rfl) ?_
    refine lv_tableIn (off := 49) (tgt := 78) hx hb d_X_state_29 (by decide) (by decide) (by decide) (by decide) ?_
    refine lv_aload hx hb d_X_state_78 (lv_at hl 0 rfl) ?_
    have hPc := hP.sub (ws' := [(e0, .inr (2, [.int 0, .int (nI fs), .int (nI sm), .int (nI ct), .int (nI ng)]))]) [2] rfl
    have hKc := hK.sub (tys' := []) [] rfl
    refine pci (va_runV (As := []) (rest := []) ⟨hx, hb, hml, hown, hg⟩ (c_E_shift0 l D e0 fs sm ct ng K hc0 hs0 hKb hK1 hK2) (cwV 0 hg (gV gw_371 gw_372 gw_373 gw_6 gw_374) rfl rfl rfl (by decide +kernel) ⟨Nat.le_of_ble_eq_true rfl, Nat.le_of_ble_eq_true rfl⟩) ⟨fun a U g mk q => by obtain ⟨q0, qP, qK⟩ := q; exact ⟨q0, qP, va_K.moved (u := U) (U := U.calling g mk a) (Vm.Alike.refl U.vm) qK⟩, va_recv hKc hPc (ci := 2) (q0 := 0) rfl rfl, fun U hU hW => ⟨rfl, by rw [hU]; exact hPc, va_K.moved hW.alike hKc⟩⟩ rfl rfl hl.1 rfl (lv_room (Nat.le_of_ble_eq_true rfl)) d_X_state_80 (⟨Nat.le_of_ble_eq_true rfl, Nat.le_of_ble_eq_true rfl⟩)) ?_
    exact W.iret (v := nI K) hx hb hr (fun t ht hW => ⟨rfl, ht⟩) (fun q h => by cases h) d_X_state_83
  · skip
    exact absurd c_1 (by decide)
set_option maxHeartbeats 4000000 in
set_option maxRecDepth 100000 in
theorem c_X_state110 (l : Launch) (D : va_G) (x sw sr br bq bi ne li sp q : Nat) (lb : Int32) (e0 e1 pl rw fs sm ct ng tw : Nat) : Met l y_X_state (WSY y_X_state b_X_state 5 (some .int)) ({ frames := 1, cells := 0, slots := 0, locals := 22 }) (va_Pc [.ref x, .int 1, .int 1, .int 0] (fun U => va_P D CLS [(x, .inr (4, [.int (nI bi), .int (nI ne), .int (nI li), .int (nI sp), .int (nI q), .ref sw, .ref sr, .ref br, .ref bq, .int lb])), (sr, .inr (3, [.ref e0, .ref e1, .int (nI pl), .int (nI rw)])), (e1, .inr (2, [.int 1, .int (nI fs), .int (nI sm), .int (nI ct), .int (nI ng)]))] U.heap ∧ va_K D CLS [] U ∧ EV (fun _ => False) tw U)) (QR (some (.int (nI sm)))) 0 0 (fun _ => False) := by
  refine Met.ofW (cc := b_X_state) (maxL := 5) (ret := (some .int)) (by decide) rfl ?_
  intro p e s m args below meth c s₁ B hml hv
  obtain ⟨rfl, hP, hK, hE⟩ := hv
  have hx := B.exec
  have hb := B.bytes
  have hr := B.returns
  have hts := atoms_spec (ws := WSY y_X_state b_X_state 5 (some .int)) B.pre
  have hg : ∀ w ∈ GW, w.before _ s = true := fun w h => hts w (List.mem_cons_of_mem _ h)
  have hown : s.vm.findClass "LineGolomb" = some m.cls := findClass_of_methodNamed B.named
  have hlocks := B.notSynchronized
  have hS : va_S (fun _ => False) s.heap s.heap [] := va_S.rf
  have hl := lv_entry ([.ref x, .int 1, .int 1, .int 0]) (n := 5) (Nat.le_of_ble_eq_true rfl)
  rw [lg_entry_eq]
  generalize (lg_sl ([.ref x, .int 1, .int 1, .int 0]) ++ List.replicate (5 - (lg_sl ([.ref x, .int 1, .int 1, .int 0])).length) Slot.unset).toArray = ls at hl ⊢
  have hl : lv_has ls 5 [(0, .ref x), (1, .int 1), (2, .int 1), (3, .int 0)] := hl
  refine lv_iload_n hx hb d_X_state_0 rfl (lv_at hl 2 rfl) ?_
  have hPc := hP.sub (ws' := []) [] rfl
  have hKc := hK.sub (tys' := []) [] rfl
  refine pci (va_runS (As := [.int 1]) (rest := []) ⟨hx, hb, hml, hown, hg⟩ (c_X_isKind l D 1) (va_cwS 1 hg (gS gw_343 gw_344 gw_1 gw_345) rfl rfl rfl (by decide +kernel) ⟨Nat.le_of_ble_eq_true rfl, Nat.le_of_ble_eq_true rfl⟩) ⟨fun a U g mk q => by obtain ⟨q0, qP, qK⟩ := q; exact ⟨q0, qP, va_K.moved (u := U) (U := U.calling g mk a) (Vm.Alike.refl U.vm) qK⟩, fun U hU hW => ⟨rfl, by rw [hU]; exact hPc, va_K.moved hW.alike hKc⟩⟩ rfl rfl hl.1 rfl (lv_room (Nat.le_of_ble_eq_true rfl)) d_X_state_1 (⟨Nat.le_of_ble_eq_true rfl, Nat.le_of_ble_eq_true rfl⟩)) ?_
  refine tpi (y := 1) (by decide) ?_
  refine lv_if_ne (tgt := 17) hx hb d_X_state_4 (by decide) (fun c_1 => ?_) (fun c_1 => ?_)
  · skip
    refine lv_aload_n hx hb d_X_state_17 rfl (lv_at hl 0 rfl) ?_
    refine lv_iload_n hx hb d_X_state_18 rfl (lv_at hl 1 rfl) ?_
    have hPc := hP.sub (ws' := [(x, .inr (4, [.int (nI bi), .int (nI ne), .int (nI li), .int (nI sp), .int (nI q), .ref sw, .ref sr, .ref br, .ref bq, .int lb]))]) [0] rfl
    have hKc := hK.sub (tys' := []) [] rfl
    refine pcr (va_runV (As := [.int 1]) (rest := []) ⟨hx, hb, hml, hown, hg⟩ (c_X_sideOf1 l D x sw sr br bq bi ne li sp q lb) (cwV 1 hg (gV gw_163 gw_165 gs_0 gw_1 gw_166) rfl rfl rfl (by decide +kernel) ⟨Nat.le_of_ble_eq_true rfl, Nat.le_of_ble_eq_true rfl⟩) ⟨fun a U g mk q => by obtain ⟨q0, qP, qK⟩ := q; exact ⟨q0, qP, va_K.moved (u := U) (U := U.calling g mk a) (Vm.Alike.refl U.vm) qK⟩, va_recv hKc hPc (ci := 4) (q0 := 0) rfl rfl, fun U hU hW => ⟨rfl, by rw [hU]; exact hPc, va_K.moved hW.alike hKc⟩⟩ rfl rfl hl.1 rfl (lv_room (Nat.le_of_ble_eq_true rfl)) d_X_state_19 (⟨Nat.le_of_ble_eq_true rfl, Nat.le_of_ble_eq_true rfl⟩)) ?_
    refine lv_iload_n hx hb d_X_state_22 rfl (lv_at hl 2 rfl) ?_
    have hPc := hP.sub (ws' := [(sr, .inr (3, [.ref e0, .ref e1, .int (nI pl), .int (nI rw)]))]) [1] rfl
    have hKc := hK.sub (tys' := []) [] rfl
    refine pcr (va_runV (As := [.int 1]) (rest := []) ⟨hx, hb, hml, hown, hg⟩ (c_S_endsOf1 l D sr e0 e1 pl rw) (cwV 1 hg (gV gw_367 gw_368 gw_369 gw_5 gw_370) rfl rfl rfl (by decide +kernel) ⟨Nat.le_of_ble_eq_true rfl, Nat.le_of_ble_eq_true rfl⟩) ⟨fun a U g mk q => by obtain ⟨q0, qP, qK⟩ := q; exact ⟨q0, qP, va_K.moved (u := U) (U := U.calling g mk a) (Vm.Alike.refl U.vm) qK⟩, va_recv hKc hPc (ci := 3) (q0 := 0) rfl rfl, fun U hU hW => ⟨rfl, by rw [hU]; exact hPc, va_K.moved hW.alike hKc⟩⟩ rfl rfl hl.1 rfl (lv_room (Nat.le_of_ble_eq_true rfl)) d_X_state_23 (⟨Nat.le_of_ble_eq_true rfl, Nat.le_of_ble_eq_true rfl⟩)) ?_
    refine lv_astore (lv' := [(4, .ref e1), (0, .ref x), (1, .int 1), (2, .int 1), (3, .int 0)]) hx hb d_X_state_26 hl (by decide) rfl (fun ls hl => ?_)
    refine lv_iload_n hx hb d_X_state_28 rfl (lv_at hl 4 rfl) ?_
    refine lv_tableIn (off := 31) (tgt := 60) hx hb d_X_state_29 (by decide) (by decide) (by decide) (by decide) ?_
    refine lv_aload hx hb d_X_state_60 (lv_at hl 0 rfl) ?_
    refine va_getN (D := D) (ci := 2) (v := .int (nI sm)) (C := R_E) (T := T_E) (N := 5) hx hb hg in_E hown hK hP 2 rfl rfl 2 (by decide) (va_Nw.use rfl (hE.nw nw_85)) (fun _ h9 => h9) rfl d_X_state_62 ?_
    exact W.iret (v := nI sm) hx hb hr (fun t ht hW => ⟨rfl, ht⟩) (fun q h => by cases h) d_X_state_65
  · skip
    exact absurd c_1 (by decide)
set_option maxHeartbeats 4000000 in
set_option maxRecDepth 100000 in
theorem c_X_state111 (l : Launch) (D : va_G) (x sw sr br bq bi ne li sp q : Nat) (lb : Int32) (e0 e1 pl rw fs sm ct ng tw : Nat) : Met l y_X_state (WSY y_X_state b_X_state 5 (some .int)) ({ frames := 1, cells := 0, slots := 0, locals := 22 }) (va_Pc [.ref x, .int 1, .int 1, .int 1] (fun U => va_P D CLS [(x, .inr (4, [.int (nI bi), .int (nI ne), .int (nI li), .int (nI sp), .int (nI q), .ref sw, .ref sr, .ref br, .ref bq, .int lb])), (sr, .inr (3, [.ref e0, .ref e1, .int (nI pl), .int (nI rw)])), (e1, .inr (2, [.int 1, .int (nI fs), .int (nI sm), .int (nI ct), .int (nI ng)]))] U.heap ∧ va_K D CLS [] U ∧ EV (fun _ => False) tw U)) (QR (some (.int (nI ct)))) 0 0 (fun _ => False) := by
  refine Met.ofW (cc := b_X_state) (maxL := 5) (ret := (some .int)) (by decide) rfl ?_
  intro p e s m args below meth c s₁ B hml hv
  obtain ⟨rfl, hP, hK, hE⟩ := hv
  have hx := B.exec
  have hb := B.bytes
  have hr := B.returns
  have hts := atoms_spec (ws := WSY y_X_state b_X_state 5 (some .int)) B.pre
  have hg : ∀ w ∈ GW, w.before _ s = true := fun w h => hts w (List.mem_cons_of_mem _ h)
  have hown : s.vm.findClass "LineGolomb" = some m.cls := findClass_of_methodNamed B.named
  have hlocks := B.notSynchronized
  have hS : va_S (fun _ => False) s.heap s.heap [] := va_S.rf
  have hl := lv_entry ([.ref x, .int 1, .int 1, .int 1]) (n := 5) (Nat.le_of_ble_eq_true rfl)
  rw [lg_entry_eq]
  generalize (lg_sl ([.ref x, .int 1, .int 1, .int 1]) ++ List.replicate (5 - (lg_sl ([.ref x, .int 1, .int 1, .int 1])).length) Slot.unset).toArray = ls at hl ⊢
  have hl : lv_has ls 5 [(0, .ref x), (1, .int 1), (2, .int 1), (3, .int 1)] := hl
  refine lv_iload_n hx hb d_X_state_0 rfl (lv_at hl 2 rfl) ?_
  have hPc := hP.sub (ws' := []) [] rfl
  have hKc := hK.sub (tys' := []) [] rfl
  refine pci (va_runS (As := [.int 1]) (rest := []) ⟨hx, hb, hml, hown, hg⟩ (c_X_isKind l D 1) (va_cwS 1 hg (gS gw_343 gw_344 gw_1 gw_345) rfl rfl rfl (by decide +kernel) ⟨Nat.le_of_ble_eq_true rfl, Nat.le_of_ble_eq_true rfl⟩) ⟨fun a U g mk q => by obtain ⟨q0, qP, qK⟩ := q; exact ⟨q0, qP, va_K.moved (u := U) (U := U.calling g mk a) (Vm.Alike.refl U.vm) qK⟩, fun U hU hW => ⟨rfl, by rw [hU]; exact hPc, va_K.moved hW.alike hKc⟩⟩ rfl rfl hl.1 rfl (lv_room (Nat.le_of_ble_eq_true rfl)) d_X_state_1 (⟨Nat.le_of_ble_eq_true rfl, Nat.le_of_ble_eq_true rfl⟩)) ?_
  refine tpi (y := 1) (by decide) ?_
  refine lv_if_ne (tgt := 17) hx hb d_X_state_4 (by decide) (fun c_1 => ?_) (fun c_1 => ?_)
  · skip
    refine lv_aload_n hx hb d_X_state_17 rfl (lv_at hl 0 rfl) ?_
    refine lv_iload_n hx hb d_X_state_18 rfl (lv_at hl 1 rfl) ?_
    have hPc := hP.sub (ws' := [(x, .inr (4, [.int (nI bi), .int (nI ne), .int (nI li), .int (nI sp), .int (nI q), .ref sw, .ref sr, .ref br, .ref bq, .int lb]))]) [0] rfl
    have hKc := hK.sub (tys' := []) [] rfl
    refine pcr (va_runV (As := [.int 1]) (rest := []) ⟨hx, hb, hml, hown, hg⟩ (c_X_sideOf1 l D x sw sr br bq bi ne li sp q lb) (cwV 1 hg (gV gw_163 gw_165 gs_0 gw_1 gw_166) rfl rfl rfl (by decide +kernel) ⟨Nat.le_of_ble_eq_true rfl, Nat.le_of_ble_eq_true rfl⟩) ⟨fun a U g mk q => by obtain ⟨q0, qP, qK⟩ := q; exact ⟨q0, qP, va_K.moved (u := U) (U := U.calling g mk a) (Vm.Alike.refl U.vm) qK⟩, va_recv hKc hPc (ci := 4) (q0 := 0) rfl rfl, fun U hU hW => ⟨rfl, by rw [hU]; exact hPc, va_K.moved hW.alike hKc⟩⟩ rfl rfl hl.1 rfl (lv_room (Nat.le_of_ble_eq_true rfl)) d_X_state_19 (⟨Nat.le_of_ble_eq_true rfl, Nat.le_of_ble_eq_true rfl⟩)) ?_
    refine lv_iload_n hx hb d_X_state_22 rfl (lv_at hl 2 rfl) ?_
    have hPc := hP.sub (ws' := [(sr, .inr (3, [.ref e0, .ref e1, .int (nI pl), .int (nI rw)]))]) [1] rfl
    have hKc := hK.sub (tys' := []) [] rfl
    refine pcr (va_runV (As := [.int 1]) (rest := []) ⟨hx, hb, hml, hown, hg⟩ (c_S_endsOf1 l D sr e0 e1 pl rw) (cwV 1 hg (gV gw_367 gw_368 gw_369 gw_5 gw_370) rfl rfl rfl (by decide +kernel) ⟨Nat.le_of_ble_eq_true rfl, Nat.le_of_ble_eq_true rfl⟩) ⟨fun a U g mk q => by obtain ⟨q0, qP, qK⟩ := q; exact ⟨q0, qP, va_K.moved (u := U) (U := U.calling g mk a) (Vm.Alike.refl U.vm) qK⟩, va_recv hKc hPc (ci := 3) (q0 := 0) rfl rfl, fun U hU hW => ⟨rfl, by rw [hU]; exact hPc, va_K.moved hW.alike hKc⟩⟩ rfl rfl hl.1 rfl (lv_room (Nat.le_of_ble_eq_true rfl)) d_X_state_23 (⟨Nat.le_of_ble_eq_true rfl, Nat.le_of_ble_eq_true rfl⟩)) ?_
    refine lv_astore (lv' := [(4, .ref e1), (0, .ref x), (1, .int 1), (2, .int 1), (3, .int 1)]) hx hb d_X_state_26 hl (by decide) rfl (fun ls hl => ?_)
    refine lv_iload_n hx hb d_X_state_28 rfl (lv_at hl 4 rfl) ?_
    refine lv_tableIn (off := 37) (tgt := 66) hx hb d_X_state_29 (by decide) (by decide) (by decide) (by decide) ?_
    refine lv_aload hx hb d_X_state_66 (lv_at hl 0 rfl) ?_
    refine va_getN (D := D) (ci := 2) (v := .int (nI ct)) (C := R_E) (T := T_E) (N := 5) hx hb hg in_E hown hK hP 2 rfl rfl 3 (by decide) (va_Nw.use rfl (hE.nw nw_87)) (fun _ h9 => h9) rfl d_X_state_68 ?_
    exact W.iret (v := nI ct) hx hb hr (fun t ht hW => ⟨rfl, ht⟩) (fun q h => by cases h) d_X_state_71
  · skip
    exact absurd c_1 (by decide)
set_option maxHeartbeats 4000000 in
set_option maxRecDepth 100000 in
theorem c_X_state112 (l : Launch) (D : va_G) (x sw sr br bq bi ne li sp q : Nat) (lb : Int32) (e0 e1 pl rw fs sm ct ng tw : Nat) : Met l y_X_state (WSY y_X_state b_X_state 5 (some .int)) ({ frames := 1, cells := 0, slots := 0, locals := 22 }) (va_Pc [.ref x, .int 1, .int 1, .int 2] (fun U => va_P D CLS [(x, .inr (4, [.int (nI bi), .int (nI ne), .int (nI li), .int (nI sp), .int (nI q), .ref sw, .ref sr, .ref br, .ref bq, .int lb])), (sr, .inr (3, [.ref e0, .ref e1, .int (nI pl), .int (nI rw)])), (e1, .inr (2, [.int 1, .int (nI fs), .int (nI sm), .int (nI ct), .int (nI ng)]))] U.heap ∧ va_K D CLS [] U ∧ EV (fun _ => False) tw U)) (QR (some (.int (nI ng)))) 0 0 (fun _ => False) := by
  refine Met.ofW (cc := b_X_state) (maxL := 5) (ret := (some .int)) (by decide) rfl ?_
  intro p e s m args below meth c s₁ B hml hv
  obtain ⟨rfl, hP, hK, hE⟩ := hv
  have hx := B.exec
  have hb := B.bytes
  have hr := B.returns
  have hts := atoms_spec (ws := WSY y_X_state b_X_state 5 (some .int)) B.pre
  have hg : ∀ w ∈ GW, w.before _ s = true := fun w h => hts w (List.mem_cons_of_mem _ h)
  have hown : s.vm.findClass "LineGolomb" = some m.cls := findClass_of_methodNamed B.named
  have hlocks := B.notSynchronized
  have hS : va_S (fun _ => False) s.heap s.heap [] := va_S.rf
  have hl := lv_entry ([.ref x, .int 1, .int 1, .int 2]) (n := 5) (Nat.le_of_ble_eq_true rfl)
  rw [lg_entry_eq]
  generalize (lg_sl ([.ref x, .int 1, .int 1, .int 2]) ++ List.replicate (5 - (lg_sl ([.ref x, .int 1, .int 1, .int 2])).length) Slot.unset).toArray = ls at hl ⊢
  have hl : lv_has ls 5 [(0, .ref x), (1, .int 1), (2, .int 1), (3, .int 2)] := hl
  refine lv_iload_n hx hb d_X_state_0 rfl (lv_at hl 2 rfl) ?_
  have hPc := hP.sub (ws' := []) [] rfl
  have hKc := hK.sub (tys' := []) [] rfl
  refine pci (va_runS (As := [.int 1]) (rest := []) ⟨hx, hb, hml, hown, hg⟩ (c_X_isKind l D 1) (va_cwS 1 hg (gS gw_343 gw_344 gw_1 gw_345) rfl rfl rfl (by decide +kernel) ⟨Nat.le_of_ble_eq_true rfl, Nat.le_of_ble_eq_true rfl⟩) ⟨fun a U g mk q => by obtain ⟨q0, qP, qK⟩ := q; exact ⟨q0, qP, va_K.moved (u := U) (U := U.calling g mk a) (Vm.Alike.refl U.vm) qK⟩, fun U hU hW => ⟨rfl, by rw [hU]; exact hPc, va_K.moved hW.alike hKc⟩⟩ rfl rfl hl.1 rfl (lv_room (Nat.le_of_ble_eq_true rfl)) d_X_state_1 (⟨Nat.le_of_ble_eq_true rfl, Nat.le_of_ble_eq_true rfl⟩)) ?_
  refine tpi (y := 1) (by decide) ?_
  refine lv_if_ne (tgt := 17) hx hb d_X_state_4 (by decide) (fun c_1 => ?_) (fun c_1 => ?_)
  · skip
    refine lv_aload_n hx hb d_X_state_17 rfl (lv_at hl 0 rfl) ?_
    refine lv_iload_n hx hb d_X_state_18 rfl (lv_at hl 1 rfl) ?_
    have hPc := hP.sub (ws' := [(x, .inr (4, [.int (nI bi), .int (nI ne), .int (nI li), .int (nI sp), .int (nI q), .ref sw, .ref sr, .ref br, .ref bq, .int lb]))]) [0] rfl
    have hKc := hK.sub (tys' := []) [] rfl
    refine pcr (va_runV (As := [.int 1]) (rest := []) ⟨hx, hb, hml, hown, hg⟩ (c_X_sideOf1 l D x sw sr br bq bi ne li sp q lb) (cwV 1 hg (gV gw_163 gw_165 gs_0 gw_1 gw_166) rfl rfl rfl (by decide +kernel) ⟨Nat.le_of_ble_eq_true rfl, Nat.le_of_ble_eq_true rfl⟩) ⟨fun a U g mk q => by obtain ⟨q0, qP, qK⟩ := q; exact ⟨q0, qP, va_K.moved (u := U) (U := U.calling g mk a) (Vm.Alike.refl U.vm) qK⟩, va_recv hKc hPc (ci := 4) (q0 := 0) rfl rfl, fun U hU hW => ⟨rfl, by rw [hU]; exact hPc, va_K.moved hW.alike hKc⟩⟩ rfl rfl hl.1 rfl (lv_room (Nat.le_of_ble_eq_true rfl)) d_X_state_19 (⟨Nat.le_of_ble_eq_true rfl, Nat.le_of_ble_eq_true rfl⟩)) ?_
    refine lv_iload_n hx hb d_X_state_22 rfl (lv_at hl 2 rfl) ?_
    have hPc := hP.sub (ws' := [(sr, .inr (3, [.ref e0, .ref e1, .int (nI pl), .int (nI rw)]))]) [1] rfl
    have hKc := hK.sub (tys' := []) [] rfl
    refine pcr (va_runV (As := [.int 1]) (rest := []) ⟨hx, hb, hml, hown, hg⟩ (c_S_endsOf1 l D sr e0 e1 pl rw) (cwV 1 hg (gV gw_367 gw_368 gw_369 gw_5 gw_370) rfl rfl rfl (by decide +kernel) ⟨Nat.le_of_ble_eq_true rfl, Nat.le_of_ble_eq_true rfl⟩) ⟨fun a U g mk q => by obtain ⟨q0, qP, qK⟩ := q; exact ⟨q0, qP, va_K.moved (u := U) (U := U.calling g mk a) (Vm.Alike.refl U.vm) qK⟩, va_recv hKc hPc (ci := 3) (q0 := 0) rfl rfl, fun U hU hW => ⟨rfl, by rw [hU]; exact hPc, va_K.moved hW.alike hKc⟩⟩ rfl rfl hl.1 rfl (lv_room (Nat.le_of_ble_eq_true rfl)) d_X_state_23 (⟨Nat.le_of_ble_eq_true rfl, Nat.le_of_ble_eq_true rfl⟩)) ?_
    refine lv_astore (lv' := [(4, .ref e1), (0, .ref x), (1, .int 1), (2, .int 1), (3, .int 2)]) hx hb d_X_state_26 hl (by decide) rfl (fun ls hl => ?_)
    refine lv_iload_n hx hb d_X_state_28 rfl (lv_at hl 4 rfl) ?_
    refine lv_tableIn (off := 43) (tgt := 72) hx hb d_X_state_29 (by decide) (by decide) (by decide) (by decide) ?_
    refine lv_aload hx hb d_X_state_72 (lv_at hl 0 rfl) ?_
    refine va_getN (D := D) (ci := 2) (v := .int (nI ng)) (C := R_E) (T := T_E) (N := 5) hx hb hg in_E hown hK hP 2 rfl rfl 4 (by decide) (va_Nw.use rfl (hE.nw nw_89)) (fun _ h9 => h9) rfl d_X_state_74 ?_
    exact W.iret (v := nI ng) hx hb hr (fun t ht hW => ⟨rfl, ht⟩) (fun q h => by cases h) d_X_state_77
  · skip
    exact absurd c_1 (by decide)
set_option maxHeartbeats 4000000 in
set_option maxRecDepth 100000 in
theorem c_X_state113 (l : Launch) (D : va_G) (x sw sr br bq bi ne li sp q : Nat) (lb : Int32) (e0 e1 pl rw fs sm ct ng tw : Nat) (K : Nat) (hc0 : ct ≤ 64) (hs0 : sm < 2 ^ 30) (hKb : K ≤ 29) (hK1 : sm + ct / 2 ≤ ct * 2 ^ K) (hK2 : ∀ j, j < K → ct * 2 ^ j < sm + ct / 2) : Met l y_X_state (WSY y_X_state b_X_state 5 (some .int)) ({ frames := 1, cells := 0, slots := 0, locals := 22 }) (va_Pc [.ref x, .int 1, .int 1, .int 3] (fun U => va_P D CLS [(x, .inr (4, [.int (nI bi), .int (nI ne), .int (nI li), .int (nI sp), .int (nI q), .ref sw, .ref sr, .ref br, .ref bq, .int lb])), (sr, .inr (3, [.ref e0, .ref e1, .int (nI pl), .int (nI rw)])), (e1, .inr (2, [.int 1, .int (nI fs), .int (nI sm), .int (nI ct), .int (nI ng)]))] U.heap ∧ va_K D CLS [] U ∧ EV (fun _ => False) tw U)) (QR (some (.int (nI K)))) 0 0 (fun _ => False) := by
  refine Met.ofW (cc := b_X_state) (maxL := 5) (ret := (some .int)) (by decide) rfl ?_
  intro p e s m args below meth c s₁ B hml hv
  obtain ⟨rfl, hP, hK, hE⟩ := hv
  have hx := B.exec
  have hb := B.bytes
  have hr := B.returns
  have hts := atoms_spec (ws := WSY y_X_state b_X_state 5 (some .int)) B.pre
  have hg : ∀ w ∈ GW, w.before _ s = true := fun w h => hts w (List.mem_cons_of_mem _ h)
  have hown : s.vm.findClass "LineGolomb" = some m.cls := findClass_of_methodNamed B.named
  have hlocks := B.notSynchronized
  have hS : va_S (fun _ => False) s.heap s.heap [] := va_S.rf
  have hl := lv_entry ([.ref x, .int 1, .int 1, .int 3]) (n := 5) (Nat.le_of_ble_eq_true rfl)
  rw [lg_entry_eq]
  generalize (lg_sl ([.ref x, .int 1, .int 1, .int 3]) ++ List.replicate (5 - (lg_sl ([.ref x, .int 1, .int 1, .int 3])).length) Slot.unset).toArray = ls at hl ⊢
  have hl : lv_has ls 5 [(0, .ref x), (1, .int 1), (2, .int 1), (3, .int 3)] := hl
  refine lv_iload_n hx hb d_X_state_0 rfl (lv_at hl 2 rfl) ?_
  have hPc := hP.sub (ws' := []) [] rfl
  have hKc := hK.sub (tys' := []) [] rfl
  refine pci (va_runS (As := [.int 1]) (rest := []) ⟨hx, hb, hml, hown, hg⟩ (c_X_isKind l D 1) (va_cwS 1 hg (gS gw_343 gw_344 gw_1 gw_345) rfl rfl rfl (by decide +kernel) ⟨Nat.le_of_ble_eq_true rfl, Nat.le_of_ble_eq_true rfl⟩) ⟨fun a U g mk q => by obtain ⟨q0, qP, qK⟩ := q; exact ⟨q0, qP, va_K.moved (u := U) (U := U.calling g mk a) (Vm.Alike.refl U.vm) qK⟩, fun U hU hW => ⟨rfl, by rw [hU]; exact hPc, va_K.moved hW.alike hKc⟩⟩ rfl rfl hl.1 rfl (lv_room (Nat.le_of_ble_eq_true rfl)) d_X_state_1 (⟨Nat.le_of_ble_eq_true rfl, Nat.le_of_ble_eq_true rfl⟩)) ?_
  refine tpi (y := 1) (by decide) ?_
  refine lv_if_ne (tgt := 17) hx hb d_X_state_4 (by decide) (fun c_1 => ?_) (fun c_1 => ?_)
  · skip
    refine lv_aload_n hx hb d_X_state_17 rfl (lv_at hl 0 rfl) ?_
    refine lv_iload_n hx hb d_X_state_18 rfl (lv_at hl 1 rfl) ?_
    have hPc := hP.sub (ws' := [(x, .inr (4, [.int (nI bi), .int (nI ne), .int (nI li), .int (nI sp), .int (nI q), .ref sw, .ref sr, .ref br, .ref bq, .int lb]))]) [0] rfl
    have hKc := hK.sub (tys' := []) [] rfl
    refine pcr (va_runV (As := [.int 1]) (rest := []) ⟨hx, hb, hml, hown, hg⟩ (c_X_sideOf1 l D x sw sr br bq bi ne li sp q lb) (cwV 1 hg (gV gw_163 gw_165 gs_0 gw_1 gw_166) rfl rfl rfl (by decide +kernel) ⟨Nat.le_of_ble_eq_true rfl, Nat.le_of_ble_eq_true rfl⟩) ⟨fun a U g mk q => by obtain ⟨q0, qP, qK⟩ := q; exact ⟨q0, qP, va_K.moved (u := U) (U := U.calling g mk a) (Vm.Alike.refl U.vm) qK⟩, va_recv hKc hPc (ci := 4) (q0 := 0) rfl rfl, fun U hU hW => ⟨rfl, by rw [hU]; exact hPc, va_K.moved hW.alike hKc⟩⟩ rfl rfl hl.1 rfl (lv_room (Nat.le_of_ble_eq_true rfl)) d_X_state_19 (⟨Nat.le_of_ble_eq_true rfl, Nat.le_of_ble_eq_true rfl⟩)) ?_
    refine lv_iload_n hx hb d_X_state_22 rfl (lv_at hl 2 rfl) ?_
    have hPc := hP.sub (ws' := [(sr, .inr (3, [.ref e0, .ref e1, .int (nI pl), .int (nI rw)]))]) [1] rfl
    have hKc := hK.sub (tys' := []) [] rfl
    refine pcr (va_runV (As := [.int 1]) (rest := []) ⟨hx, hb, hml, hown, hg⟩ (c_S_endsOf1 l D sr e0 e1 pl rw) (cwV 1 hg (gV gw_367 gw_368 gw_369 gw_5 gw_370) rfl rfl rfl (by decide +kernel) ⟨Nat.le_of_ble_eq_true rfl, Nat.le_of_ble_eq_true rfl⟩) ⟨fun a U g mk q => by obtain ⟨q0, qP, qK⟩ := q; exact ⟨q0, qP, va_K.moved (u := U) (U := U.calling g mk a) (Vm.Alike.refl U.vm) qK⟩, va_recv hKc hPc (ci := 3) (q0 := 0) rfl rfl, fun U hU hW => ⟨rfl, by rw [hU]; exact hPc, va_K.moved hW.alike hKc⟩⟩ rfl rfl hl.1 rfl (lv_room (Nat.le_of_ble_eq_true rfl)) d_X_state_23 (⟨Nat.le_of_ble_eq_true rfl, Nat.le_of_ble_eq_true rfl⟩)) ?_
    refine lv_astore (lv' := [(4, .ref e1), (0, .ref x), (1, .int 1), (2, .int 1), (3, .int 3)]) hx hb d_X_state_26 hl (by decide) rfl (fun ls hl => ?_)
    refine lv_iload_n hx hb d_X_state_28 rfl (lv_at hl 4 rfl) ?_
    refine lv_tableIn (off := 49) (tgt := 78) hx hb d_X_state_29 (by decide) (by decide) (by decide) (by decide) ?_
    refine lv_aload hx hb d_X_state_78 (lv_at hl 0 rfl) ?_
    have hPc := hP.sub (ws' := [(e1, .inr (2, [.int 1, .int (nI fs), .int (nI sm), .int (nI ct), .int (nI ng)]))]) [2] rfl
    have hKc := hK.sub (tys' := []) [] rfl
    refine pci (va_runV (As := []) (rest := []) ⟨hx, hb, hml, hown, hg⟩ (c_E_shift1 l D e1 fs sm ct ng K hc0 hs0 hKb hK1 hK2) (cwV 0 hg (gV gw_371 gw_372 gw_373 gw_6 gw_374) rfl rfl rfl (by decide +kernel) ⟨Nat.le_of_ble_eq_true rfl, Nat.le_of_ble_eq_true rfl⟩) ⟨fun a U g mk q => by obtain ⟨q0, qP, qK⟩ := q; exact ⟨q0, qP, va_K.moved (u := U) (U := U.calling g mk a) (Vm.Alike.refl U.vm) qK⟩, va_recv hKc hPc (ci := 2) (q0 := 0) rfl rfl, fun U hU hW => ⟨rfl, by rw [hU]; exact hPc, va_K.moved hW.alike hKc⟩⟩ rfl rfl hl.1 rfl (lv_room (Nat.le_of_ble_eq_true rfl)) d_X_state_80 (⟨Nat.le_of_ble_eq_true rfl, Nat.le_of_ble_eq_true rfl⟩)) ?_
    exact W.iret (v := nI K) hx hb hr (fun t ht hW => ⟨rfl, ht⟩) (fun q h => by cases h) d_X_state_83
  · skip
    exact absurd c_1 (by decide)
set_option maxHeartbeats 4000000 in
set_option maxRecDepth 100000 in
theorem c_X_unmap0 (l : Launch) (D : va_G) (x sw sr br bq bi ne li sp q : Nat) (lb : Int32) (N : Nat) (hN : N < 2 ^ 30) (hsz : (N / 2 + (if (¬ N % 2 = 0) then 1 else 0)) ≤ 65536) : Met l y_X_unmap (WSY y_X_unmap b_X_unmap 6 (some .int)) ({ frames := 0, cells := 0, slots := 0, locals := 0 }) (va_Pc [.ref x, .int (nI N), .int 0] (fun U => va_P D CLS [(x, .inr (4, [.int (nI bi), .int (nI ne), .int (nI li), .int (nI sp), .int (nI q), .ref sw, .ref sr, .ref br, .ref bq, .int lb]))] U.heap ∧ va_K D CLS [] U)) (QR (some (.int (if (¬ N % 2 = 0) then -nI (N / 2 + (if (¬ N % 2 = 0) then 1 else 0)) else nI (N / 2 + (if (¬ N % 2 = 0) then 1 else 0)))))) 0 0 (fun _ => False) := by
  refine Met.ofW (cc := b_X_unmap) (maxL := 6) (ret := (some .int)) (by decide) rfl ?_
  intro p e s m args below meth c s₁ B hml hv
  obtain ⟨rfl, hP, hK⟩ := hv
  have hx := B.exec
  have hb := B.bytes
  have hr := B.returns
  have hts := atoms_spec (ws := WSY y_X_unmap b_X_unmap 6 (some .int)) B.pre
  have hg : ∀ w ∈ GW, w.before _ s = true := fun w h => hts w (List.mem_cons_of_mem _ h)
  have hown : s.vm.findClass "LineGolomb" = some m.cls := findClass_of_methodNamed B.named
  have hlocks := B.notSynchronized
  have hS : va_S (fun _ => False) s.heap s.heap [] := va_S.rf
  have hl := lv_entry ([.ref x, .int (nI N), .int 0]) (n := 6) (Nat.le_of_ble_eq_true rfl)
  rw [lg_entry_eq]
  generalize (lg_sl ([.ref x, .int (nI N), .int 0]) ++ List.replicate (6 - (lg_sl ([.ref x, .int (nI N), .int 0])).length) Slot.unset).toArray = ls at hl ⊢
  have hl : lv_has ls 6 [(0, .ref x), (1, .int (nI N)), (2, .int 0)] := hl
  refine lv_iload_n hx hb d_X_unmap_0 rfl (lv_at hl 1 rfl) ?_
  refine lv_iconst (v := 2) hx hb d_X_unmap_1 (by decide) ?_
  refine lv_irem hx hb d_X_unmap_2 (by decide) ?_
  refine tpi (y := nI (N % 2)) (rem2 (by omega)) ?_
  refine lv_if_eq (tgt := 10) hx hb d_X_unmap_3 (by decide) (fun c_1 => ?_) (fun c_1 => ?_)
  · skip
    have he : N % 2 = 0 := (nI_eq (b := 0) (by omega) (by omega)).mp c_1
    refine lv_iconst (v := 0) hx hb d_X_unmap_10 (by decide) ?_
    refine lv_istore_n (lv' := [(3, .int 0), (0, .ref x), (1, .int (nI N)), (2, .int 0)]) hx hb d_X_unmap_11 rfl hl (by decide) rfl (fun ls hl => ?_)
    refine lv_iload_n hx hb d_X_unmap_12 rfl (lv_at hl 0 rfl) ?_
    refine lv_iload_n hx hb d_X_unmap_13 rfl (lv_at hl 3 rfl) ?_
    refine lv_icmp_eq (tgt := 21) hx hb d_X_unmap_14 (by decide) (fun c_2 => ?_) (fun c_2 => ?_)
    · skip
      have hsz0 : (N / 2 + (if (¬ N % 2 = 0) then 1 else 0)) = N / 2 + 0 := by rw [if_neg (fun z => z he)]
      refine lv_iconst (v := 0) hx hb d_X_unmap_21 (by decide) ?_
      refine lv_istore (lv' := [(4, .int 0), (3, .int 0), (0, .ref x), (1, .int (nI N)), (2, .int 0)]) hx hb d_X_unmap_22 hl (by decide) rfl (fun ls hl => ?_)
      refine lv_iload_n hx hb d_X_unmap_24 rfl (lv_at hl 3 rfl) ?_
      refine lv_iconst (v := 2) hx hb d_X_unmap_25 (by decide) ?_
      refine lv_idiv hx hb d_X_unmap_26 (by decide) ?_
      refine tpi (y := nI (N / 2)) (div2 (by omega)) ?_
      refine lv_iload hx hb d_X_unmap_27 (lv_at hl 0 rfl) ?_
      refine lv_if_eq (tgt := 36) hx hb d_X_unmap_29 (by decide) (fun c_3 => ?_) (fun c_3 => ?_)
      · skip
        refine lv_iconst (v := 0) hx hb d_X_unmap_36 (by decide) ?_
        refine lv_iadd hx hb d_X_unmap_37 ?_
        refine tpi (y := nI (N / 2 + (if (¬ N % 2 = 0) then 1 else 0))) (by rw [hsz0]; exact nI_add _ 0) ?_
        refine lv_istore (lv' := [(5, .int (nI (N / 2 + (if (¬ N % 2 = 0) then 1 else 0)))), (4, .int 0), (3, .int 0), (0, .ref x), (1, .int (nI N)), (2, .int 0)]) hx hb d_X_unmap_38 hl (by decide) rfl (fun ls hl => ?_)
        refine lv_iload_n hx hb d_X_unmap_40 rfl (lv_at hl 4 rfl) ?_
        refine lv_if_lt (tgt := 51) hx hb d_X_unmap_41 (by decide) (fun c_4 => ?_) (fun c_4 => ?_)
        · skip
          exact absurd c_4 (nI_pos (by omega))
        · skip
          refine lv_iload hx hb d_X_unmap_44 (lv_at hl 0 rfl) ?_
          refine lv_ldc (v := 65536) hx hb hown (hg _ gw_490) d_X_unmap_46 ?_
          refine lv_icmp_le (tgt := 61) hx hb d_X_unmap_48 (by decide) (fun c_5 => ?_) (fun c_5 => ?_)
          · skip
            refine lv_iload hx hb d_X_unmap_61 (lv_at hl 1 rfl) ?_
            refine lv_if_eq (tgt := 72) hx hb d_X_unmap_63 (by decide) (fun c_6 => ?_) (fun c_6 => ?_)
            · skip
              refine lv_iload hx hb d_X_unmap_72 (lv_at hl 0 rfl) ?_
              refine tpi (y := if (¬ N % 2 = 0) then -nI (N / 2 + (if (¬ N % 2 = 0) then 1 else 0)) else nI (N / 2 + (if (¬ N % 2 = 0) then 1 else 0))) ((if_neg (fun z => z he)).symm) ?_
              exact W.iret (v := if (¬ N % 2 = 0) then -nI (N / 2 + (if (¬ N % 2 = 0) then 1 else 0)) else nI (N / 2 + (if (¬ N % 2 = 0) then 1 else 0))) hx hb hr (fun t ht hW => ⟨rfl, ht⟩) (fun q h => by cases h) d_X_unmap_74
            · skip
              exact absurd rfl c_6
          · skip
            exact absurd (nI_le hsz (by omega)) c_5
      · skip
        exact absurd rfl c_3
    · skip
      exact absurd rfl c_2
  · skip
    have he : ¬ N % 2 = 0 := fun z => c_1 (by rw [z]; rfl)
    refine lv_iconst (v := 1) hx hb d_X_unmap_6 (by decide) ?_
    refine lv_goto (tgt := 11) hx hb d_X_unmap_7 (by decide) ?_
    refine lv_istore_n (lv' := [(3, .int 1), (0, .ref x), (1, .int (nI N)), (2, .int 0)]) hx hb d_X_unmap_11 rfl hl (by decide) rfl (fun ls hl => ?_)
    refine lv_iload_n hx hb d_X_unmap_12 rfl (lv_at hl 0 rfl) ?_
    refine lv_iload_n hx hb d_X_unmap_13 rfl (lv_at hl 3 rfl) ?_
    refine lv_icmp_eq (tgt := 21) hx hb d_X_unmap_14 (by decide) (fun c_7 => ?_) (fun c_7 => ?_)
    · skip
      exact absurd c_7 (by decide)
    · skip
      have hsz0 : (N / 2 + (if (¬ N % 2 = 0) then 1 else 0)) = N / 2 + 1 := by rw [if_pos he]
      refine lv_iconst (v := 1) hx hb d_X_unmap_17 (by decide) ?_
      refine lv_goto (tgt := 22) hx hb d_X_unmap_18 (by decide) ?_
      refine lv_istore (lv' := [(4, .int 1), (3, .int 1), (0, .ref x), (1, .int (nI N)), (2, .int 0)]) hx hb d_X_unmap_22 hl (by decide) rfl (fun ls hl => ?_)
      refine lv_iload_n hx hb d_X_unmap_24 rfl (lv_at hl 3 rfl) ?_
      refine lv_iconst (v := 2) hx hb d_X_unmap_25 (by decide) ?_
      refine lv_idiv hx hb d_X_unmap_26 (by decide) ?_
      refine tpi (y := nI (N / 2)) (div2 (by omega)) ?_
      refine lv_iload hx hb d_X_unmap_27 (lv_at hl 0 rfl) ?_
      refine lv_if_eq (tgt := 36) hx hb d_X_unmap_29 (by decide) (fun c_8 => ?_) (fun c_8 => ?_)
      · skip
        exact absurd c_8 (by decide)
      · skip
        refine lv_iconst (v := 1) hx hb d_X_unmap_32 (by decide) ?_
        refine lv_goto (tgt := 37) hx hb d_X_unmap_33 (by decide) ?_
        refine lv_iadd hx hb d_X_unmap_37 ?_
        refine tpi (y := nI (N / 2 + (if (¬ N % 2 = 0) then 1 else 0))) (by rw [hsz0]; exact nI_add _ 1) ?_
        refine lv_istore (lv' := [(5, .int (nI (N / 2 + (if (¬ N % 2 = 0) then 1 else 0)))), (4, .int 1), (3, .int 1), (0, .ref x), (1, .int (nI N)), (2, .int 0)]) hx hb d_X_unmap_38 hl (by decide) rfl (fun ls hl => ?_)
        refine lv_iload_n hx hb d_X_unmap_40 rfl (lv_at hl 4 rfl) ?_
        refine lv_if_lt (tgt := 51) hx hb d_X_unmap_41 (by decide) (fun c_9 => ?_) (fun c_9 => ?_)
        · skip
          exact absurd c_9 (nI_pos (by omega))
        · skip
          refine lv_iload hx hb d_X_unmap_44 (lv_at hl 0 rfl) ?_
          refine lv_ldc (v := 65536) hx hb hown (hg _ gw_490) d_X_unmap_46 ?_
          refine lv_icmp_le (tgt := 61) hx hb d_X_unmap_48 (by decide) (fun c_10 => ?_) (fun c_10 => ?_)
          · skip
            refine lv_iload hx hb d_X_unmap_61 (lv_at hl 1 rfl) ?_
            refine lv_if_eq (tgt := 72) hx hb d_X_unmap_63 (by decide) (fun c_11 => ?_) (fun c_11 => ?_)
            · skip
              exact absurd c_11 (by decide)
            · skip
              refine lv_iload hx hb d_X_unmap_66 (lv_at hl 0 rfl) ?_
              refine lv_ineg hx hb d_X_unmap_68 ?_
              refine lv_goto (tgt := 74) hx hb d_X_unmap_69 (by decide) ?_
              refine tpi (y := if (¬ N % 2 = 0) then -nI (N / 2 + (if (¬ N % 2 = 0) then 1 else 0)) else nI (N / 2 + (if (¬ N % 2 = 0) then 1 else 0))) ((if_pos he).symm) ?_
              exact W.iret (v := if (¬ N % 2 = 0) then -nI (N / 2 + (if (¬ N % 2 = 0) then 1 else 0)) else nI (N / 2 + (if (¬ N % 2 = 0) then 1 else 0))) hx hb hr (fun t ht hW => ⟨rfl, ht⟩) (fun q h => by cases h) d_X_unmap_74
          · skip
            exact absurd (nI_le hsz (by omega)) c_10
set_option maxHeartbeats 4000000 in
set_option maxRecDepth 100000 in
theorem c_X_unmap1 (l : Launch) (D : va_G) (x sw sr br bq bi ne li sp q : Nat) (lb : Int32) (N : Nat) (hN : N < 2 ^ 30) (hsz : (N / 2 + (if (N % 2 = 0) then 1 else 0)) ≤ 65536) : Met l y_X_unmap (WSY y_X_unmap b_X_unmap 6 (some .int)) ({ frames := 0, cells := 0, slots := 0, locals := 0 }) (va_Pc [.ref x, .int (nI N), .int 1] (fun U => va_P D CLS [(x, .inr (4, [.int (nI bi), .int (nI ne), .int (nI li), .int (nI sp), .int (nI q), .ref sw, .ref sr, .ref br, .ref bq, .int lb]))] U.heap ∧ va_K D CLS [] U)) (QR (some (.int (if (N % 2 = 0) then -nI (N / 2 + (if (N % 2 = 0) then 1 else 0)) else nI (N / 2 + (if (N % 2 = 0) then 1 else 0)))))) 0 0 (fun _ => False) := by
  refine Met.ofW (cc := b_X_unmap) (maxL := 6) (ret := (some .int)) (by decide) rfl ?_
  intro p e s m args below meth c s₁ B hml hv
  obtain ⟨rfl, hP, hK⟩ := hv
  have hx := B.exec
  have hb := B.bytes
  have hr := B.returns
  have hts := atoms_spec (ws := WSY y_X_unmap b_X_unmap 6 (some .int)) B.pre
  have hg : ∀ w ∈ GW, w.before _ s = true := fun w h => hts w (List.mem_cons_of_mem _ h)
  have hown : s.vm.findClass "LineGolomb" = some m.cls := findClass_of_methodNamed B.named
  have hlocks := B.notSynchronized
  have hS : va_S (fun _ => False) s.heap s.heap [] := va_S.rf
  have hl := lv_entry ([.ref x, .int (nI N), .int 1]) (n := 6) (Nat.le_of_ble_eq_true rfl)
  rw [lg_entry_eq]
  generalize (lg_sl ([.ref x, .int (nI N), .int 1]) ++ List.replicate (6 - (lg_sl ([.ref x, .int (nI N), .int 1])).length) Slot.unset).toArray = ls at hl ⊢
  have hl : lv_has ls 6 [(0, .ref x), (1, .int (nI N)), (2, .int 1)] := hl
  refine lv_iload_n hx hb d_X_unmap_0 rfl (lv_at hl 1 rfl) ?_
  refine lv_iconst (v := 2) hx hb d_X_unmap_1 (by decide) ?_
  refine lv_irem hx hb d_X_unmap_2 (by decide) ?_
  refine tpi (y := nI (N % 2)) (rem2 (by omega)) ?_
  refine lv_if_eq (tgt := 10) hx hb d_X_unmap_3 (by decide) (fun c_1 => ?_) (fun c_1 => ?_)
  · skip
    have he : N % 2 = 0 := (nI_eq (b := 0) (by omega) (by omega)).mp c_1
    refine lv_iconst (v := 0) hx hb d_X_unmap_10 (by decide) ?_
    refine lv_istore_n (lv' := [(3, .int 0), (0, .ref x), (1, .int (nI N)), (2, .int 1)]) hx hb d_X_unmap_11 rfl hl (by decide) rfl (fun ls hl => ?_)
    refine lv_iload_n hx hb d_X_unmap_12 rfl (lv_at hl 0 rfl) ?_
    refine lv_iload_n hx hb d_X_unmap_13 rfl (lv_at hl 3 rfl) ?_
    refine lv_icmp_eq (tgt := 21) hx hb d_X_unmap_14 (by decide) (fun c_2 => ?_) (fun c_2 => ?_)
    · skip
      exact absurd c_2 (by decide)
    · skip
      have hsz0 : (N / 2 + (if (N % 2 = 0) then 1 else 0)) = N / 2 + 1 := by rw [if_pos he]
      refine lv_iconst (v := 1) hx hb d_X_unmap_17 (by decide) ?_
      refine lv_goto (tgt := 22) hx hb d_X_unmap_18 (by decide) ?_
      refine lv_istore (lv' := [(4, .int 1), (3, .int 0), (0, .ref x), (1, .int (nI N)), (2, .int 1)]) hx hb d_X_unmap_22 hl (by decide) rfl (fun ls hl => ?_)
      refine lv_iload_n hx hb d_X_unmap_24 rfl (lv_at hl 3 rfl) ?_
      refine lv_iconst (v := 2) hx hb d_X_unmap_25 (by decide) ?_
      refine lv_idiv hx hb d_X_unmap_26 (by decide) ?_
      refine tpi (y := nI (N / 2)) (div2 (by omega)) ?_
      refine lv_iload hx hb d_X_unmap_27 (lv_at hl 0 rfl) ?_
      refine lv_if_eq (tgt := 36) hx hb d_X_unmap_29 (by decide) (fun c_3 => ?_) (fun c_3 => ?_)
      · skip
        exact absurd c_3 (by decide)
      · skip
        refine lv_iconst (v := 1) hx hb d_X_unmap_32 (by decide) ?_
        refine lv_goto (tgt := 37) hx hb d_X_unmap_33 (by decide) ?_
        refine lv_iadd hx hb d_X_unmap_37 ?_
        refine tpi (y := nI (N / 2 + (if (N % 2 = 0) then 1 else 0))) (by rw [hsz0]; exact nI_add _ 1) ?_
        refine lv_istore (lv' := [(5, .int (nI (N / 2 + (if (N % 2 = 0) then 1 else 0)))), (4, .int 1), (3, .int 0), (0, .ref x), (1, .int (nI N)), (2, .int 1)]) hx hb d_X_unmap_38 hl (by decide) rfl (fun ls hl => ?_)
        refine lv_iload_n hx hb d_X_unmap_40 rfl (lv_at hl 4 rfl) ?_
        refine lv_if_lt (tgt := 51) hx hb d_X_unmap_41 (by decide) (fun c_4 => ?_) (fun c_4 => ?_)
        · skip
          exact absurd c_4 (nI_pos (by omega))
        · skip
          refine lv_iload hx hb d_X_unmap_44 (lv_at hl 0 rfl) ?_
          refine lv_ldc (v := 65536) hx hb hown (hg _ gw_490) d_X_unmap_46 ?_
          refine lv_icmp_le (tgt := 61) hx hb d_X_unmap_48 (by decide) (fun c_5 => ?_) (fun c_5 => ?_)
          · skip
            refine lv_iload hx hb d_X_unmap_61 (lv_at hl 1 rfl) ?_
            refine lv_if_eq (tgt := 72) hx hb d_X_unmap_63 (by decide) (fun c_6 => ?_) (fun c_6 => ?_)
            · skip
              exact absurd c_6 (by decide)
            · skip
              refine lv_iload hx hb d_X_unmap_66 (lv_at hl 0 rfl) ?_
              refine lv_ineg hx hb d_X_unmap_68 ?_
              refine lv_goto (tgt := 74) hx hb d_X_unmap_69 (by decide) ?_
              refine tpi (y := if (N % 2 = 0) then -nI (N / 2 + (if (N % 2 = 0) then 1 else 0)) else nI (N / 2 + (if (N % 2 = 0) then 1 else 0))) ((if_pos he).symm) ?_
              exact W.iret (v := if (N % 2 = 0) then -nI (N / 2 + (if (N % 2 = 0) then 1 else 0)) else nI (N / 2 + (if (N % 2 = 0) then 1 else 0))) hx hb hr (fun t ht hW => ⟨rfl, ht⟩) (fun q h => by cases h) d_X_unmap_74
          · skip
            exact absurd (nI_le hsz (by omega)) c_5
  · skip
    have he : ¬ N % 2 = 0 := fun z => c_1 (by rw [z]; rfl)
    refine lv_iconst (v := 1) hx hb d_X_unmap_6 (by decide) ?_
    refine lv_goto (tgt := 11) hx hb d_X_unmap_7 (by decide) ?_
    refine lv_istore_n (lv' := [(3, .int 1), (0, .ref x), (1, .int (nI N)), (2, .int 1)]) hx hb d_X_unmap_11 rfl hl (by decide) rfl (fun ls hl => ?_)
    refine lv_iload_n hx hb d_X_unmap_12 rfl (lv_at hl 0 rfl) ?_
    refine lv_iload_n hx hb d_X_unmap_13 rfl (lv_at hl 3 rfl) ?_
    refine lv_icmp_eq (tgt := 21) hx hb d_X_unmap_14 (by decide) (fun c_7 => ?_) (fun c_7 => ?_)
    · skip
      have hsz0 : (N / 2 + (if (N % 2 = 0) then 1 else 0)) = N / 2 + 0 := by rw [if_neg (fun z => he z)]
      refine lv_iconst (v := 0) hx hb d_X_unmap_21 (by decide) ?_
      refine lv_istore (lv' := [(4, .int 0), (3, .int 1), (0, .ref x), (1, .int (nI N)), (2, .int 1)]) hx hb d_X_unmap_22 hl (by decide) rfl (fun ls hl => ?_)
      refine lv_iload_n hx hb d_X_unmap_24 rfl (lv_at hl 3 rfl) ?_
      refine lv_iconst (v := 2) hx hb d_X_unmap_25 (by decide) ?_
      refine lv_idiv hx hb d_X_unmap_26 (by decide) ?_
      refine tpi (y := nI (N / 2)) (div2 (by omega)) ?_
      refine lv_iload hx hb d_X_unmap_27 (lv_at hl 0 rfl) ?_
      refine lv_if_eq (tgt := 36) hx hb d_X_unmap_29 (by decide) (fun c_8 => ?_) (fun c_8 => ?_)
      · skip
        refine lv_iconst (v := 0) hx hb d_X_unmap_36 (by decide) ?_
        refine lv_iadd hx hb d_X_unmap_37 ?_
        refine tpi (y := nI (N / 2 + (if (N % 2 = 0) then 1 else 0))) (by rw [hsz0]; exact nI_add _ 0) ?_
        refine lv_istore (lv' := [(5, .int (nI (N / 2 + (if (N % 2 = 0) then 1 else 0)))), (4, .int 0), (3, .int 1), (0, .ref x), (1, .int (nI N)), (2, .int 1)]) hx hb d_X_unmap_38 hl (by decide) rfl (fun ls hl => ?_)
        refine lv_iload_n hx hb d_X_unmap_40 rfl (lv_at hl 4 rfl) ?_
        refine lv_if_lt (tgt := 51) hx hb d_X_unmap_41 (by decide) (fun c_9 => ?_) (fun c_9 => ?_)
        · skip
          exact absurd c_9 (nI_pos (by omega))
        · skip
          refine lv_iload hx hb d_X_unmap_44 (lv_at hl 0 rfl) ?_
          refine lv_ldc (v := 65536) hx hb hown (hg _ gw_490) d_X_unmap_46 ?_
          refine lv_icmp_le (tgt := 61) hx hb d_X_unmap_48 (by decide) (fun c_10 => ?_) (fun c_10 => ?_)
          · skip
            refine lv_iload hx hb d_X_unmap_61 (lv_at hl 1 rfl) ?_
            refine lv_if_eq (tgt := 72) hx hb d_X_unmap_63 (by decide) (fun c_11 => ?_) (fun c_11 => ?_)
            · skip
              refine lv_iload hx hb d_X_unmap_72 (lv_at hl 0 rfl) ?_
              refine tpi (y := if (N % 2 = 0) then -nI (N / 2 + (if (N % 2 = 0) then 1 else 0)) else nI (N / 2 + (if (N % 2 = 0) then 1 else 0))) ((if_neg (fun z => he z)).symm) ?_
              exact W.iret (v := if (N % 2 = 0) then -nI (N / 2 + (if (N % 2 = 0) then 1 else 0)) else nI (N / 2 + (if (N % 2 = 0) then 1 else 0))) hx hb hr (fun t ht hW => ⟨rfl, ht⟩) (fun q h => by cases h) d_X_unmap_74
            · skip
              exact absurd rfl c_11
          · skip
            exact absurd (nI_le hsz (by omega)) c_10
      · skip
        exact absurd rfl c_8
    · skip
      exact absurd rfl c_7
