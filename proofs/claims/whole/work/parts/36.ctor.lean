/-! the constructors -/
/-- the nearest number of a .. b -/
def clp (v : Int32) (a b : Nat) : Nat := (max (a : Int) (min (b : Int) v.toInt)).toNat
theorem clp_b {v : Int32} {a b : Nat} (h : a ≤ b) : a ≤ clp v a b ∧ clp v a b ≤ b := by
  unfold clp; omega
theorem clpI {v : Int32} {a b : Nat} (h : a ≤ b) : ((clp v a b : Nat) : Int) = max (a : Int) (min (b : Int) v.toInt) := by
  unfold clp; omega
theorem clpE {v x : Int32} {a b : Nat} (h : a ≤ b) (hb : b < 2 ^ 30) (hx : x.toInt = max (a : Int) (min (b : Int) v.toInt)) : x = nI (clp v a b) := by
  rw [eqT, hx, nI_toInt (by have := (clp_b (v := v) h).2; omega), clpI h]
theorem clpN (v : Int32) {a b : Nat} (h : a ≤ b) (hb : b < 2 ^ 30) : (if nI a < (if v < nI b then v else nI b) then (if v < nI b then v else nI b) else nI a) = nI (clp v a b) := by
  apply clpE h hb
  have ha : (nI a).toInt = a := nI_toInt (by omega)
  have hbb : (nI b).toInt = b := nI_toInt (by omega)
  by_cases c1 : v < nI b
  · have d1 := ltT.mp c1
    rw [if_pos c1]
    by_cases c2 : nI a < v
    · have d2 := ltT.mp c2
      rw [if_pos c2]; omega
    · have d2 : ¬ (nI a).toInt < v.toInt := fun z => c2 (ltT.mpr z)
      rw [if_neg c2]; omega
  · have d1 : ¬ v.toInt < (nI b).toInt := fun z => c1 (ltT.mpr z)
    rw [if_neg c1]
    by_cases c2 : nI a < nI b
    · have d2 := ltT.mp c2
      rw [if_pos c2]; omega
    · have d2 : ¬ (nI a).toInt < (nI b).toInt := fun z => c2 (ltT.mpr z)
      rw [if_neg c2]; omega
theorem clpW (v : Int32) {a b : Nat} (h : a ≤ b) (hb : b < 2 ^ 30) : (if v < nI a then nI a else if nI b < v then nI b else v) = nI (clp v a b) := by
  apply clpE h hb
  have ha : (nI a).toInt = a := nI_toInt (by omega)
  have hbb : (nI b).toInt = b := nI_toInt (by omega)
  by_cases c1 : v < nI a
  · have d1 := ltT.mp c1
    rw [if_pos c1]; omega
  · have d1 : ¬ v.toInt < (nI a).toInt := fun z => c1 (ltT.mpr z)
    rw [if_neg c1]
    by_cases c2 : nI b < v
    · have d2 := ltT.mp c2
      rw [if_pos c2]; omega
    · have d2 : ¬ (nI b).toInt < v.toInt := fun z => c2 (ltT.mpr z)
      rw [if_neg c2]; omega
theorem spn_b {bi ne sp : Nat} (hb : 2 ≤ bi) (hb2 : bi ≤ 16) (hne : ne ≤ (2 ^ bi - 1) / 2) (h : sp = (2 ^ bi - 1 + 2 * ne) / (2 * ne + 1) + 1) : 2 ≤ sp ∧ sp ≤ 65536 := by
  have h1 : 2 ^ bi ≤ 2 ^ 16 := Nat.pow_le_pow_right (by decide) hb2
  have h2 : 2 ^ 2 ≤ 2 ^ bi := Nat.pow_le_pow_right (by decide) hb
  have h3 : (2 ^ bi - 1 + 2 * ne) / (2 * ne + 1) ≤ 2 ^ bi - 1 := by
    apply Nat.div_le_of_le_mul
    rw [Nat.add_mul, Nat.one_mul, Nat.add_comm]
    have : 2 * ne * 1 ≤ 2 * ne * (2 ^ bi - 1) := Nat.mul_le_mul_left _ (by omega)
    omega
  have h4 : 1 ≤ (2 ^ bi - 1 + 2 * ne) / (2 * ne + 1) := by
    rw [Nat.le_div_iff_mul_le (by omega)]; omega
  omega
theorem mxfs {a : Nat} (h : a < 2 ^ 30) : (if nI 2 < nI a then nI a else nI 2) = nI (if a < 2 then 2 else a) := by
  by_cases h1 : 2 < a
  · rw [if_pos ((nI_ltI (by omega) (by omega)).mpr h1), if_neg (by omega)]
  · rw [if_neg (fun z => h1 ((nI_ltI (by omega) (by omega)).mp z))]
    by_cases h2 : a < 2
    · rw [if_pos h2]
    · rw [if_neg h2, show a = 2 by omega]
theorem pk_dv {a d : Nat} (h : a < 2 ^ 31) (hd : 0 < d) (hd2 : d < 2 ^ 31) : nI a / nI d = nI (a / d) := pk_div h hd hd2
set_option maxHeartbeats 4000000 in
set_option maxRecDepth 100000 in
theorem c_B_init (l : Launch) (D : va_G) (sz : Nat) (br : Nat) : Met l y_B_init (WSY y_B_init b_B_init 1 none) ({ frames := 1, cells := 1, slots := 6000, locals := 12 }) (va_Pc [.ref br] (fun U => U.heap.size = sz ∧ va_P D CLS [(br, .inr (1, [.null, .int (nI 0)]))] U.heap ∧ va_K D CLS [] U ∧ va_D (fun _ => True) [(br, .inr (1, [.null, .int (nI 0)]))])) (va_Qv (S := Unit) (fun _ => True) (fun _ t => ∃ (ra : Nat) (cB : ClassId), va_P D CLS [(br, .inr (1, [.ref ra, .int (nI 0)])), (ra, .inl (cB, 6000, .inl (fun _ => 0)))] t.heap ∧ va_K D CLS [(cB, .byte)] t ∧ va_D (va_A [(br, .inr (1, [.null, .int (nI 0)]))] sz) [(br, .inr (1, [.ref ra, .int (nI 0)])), (ra, .inl (cB, 6000, .inl (fun _ => 0)))]) (va_A [(br, .inr (1, [.null, .int (nI 0)]))] sz)) 1 6000 (va_A [(br, .inr (1, [.null, .int (nI 0)]))] sz) := by
  refine Met.ofW (cc := b_B_init) (maxL := 1) (ret := none) (by decide) rfl ?_
  intro p e s m args below meth c s₁ B hml hv
  obtain ⟨rfl, hsz, hP, hK, hD0⟩ := hv
  have hx := B.exec
  have hb := B.bytes
  have hr := B.returns
  have hts := atoms_spec (ws := WSY y_B_init b_B_init 1 none) B.pre
  have hg : ∀ w ∈ GW, w.before _ s = true := fun w h => hts w (List.mem_cons_of_mem _ h)
  have hown : s.vm.findClass "LineGolomb$BitRow" = some m.cls := findClass_of_methodNamed B.named
  have hlocks := B.notSynchronized
  have hin : meth.name = "<init>" := (name_of_methodNamed B.named B.method).1
  subst hsz
  have hD := hD0.self (sz := s.heap.size)
  generalize hAe : va_A [(br, .inr (1, [.null, .int (nI 0)]))] s.heap.size = A at hD ⊢
  have hA : ∀ q : Nat, s.heap.size ≤ q → A q := fun q h => by rw [← hAe]; exact Or.inr h
  have hS : va_S A s.heap s.heap [] := va_S.rf
  have hP : va_P D CLS [(br, .inr (1, [.null, .int (nI 0)]))] s.heap := hP
  have hl := lv_entry ([.ref br]) (n := 1) (Nat.le_of_ble_eq_true rfl)
  rw [lg_entry_eq]
  generalize (lg_sl ([.ref br]) ++ List.replicate (1 - (lg_sl ([.ref br])).length) Slot.unset).toArray = ls at hl ⊢
  have hl : lv_has ls 1 [(0, .ref br)] := hl
  refine lv_aload_n hx hb d_B_init_0 rfl (lv_at hl 0 rfl) ?_
  refine W.objInit hx hb hown (hg _ gw_27) (hg _ gw_20) (hg _ gw_21) rfl (by rw [hml]; exact hl.1) rfl d_B_init_1 (Nat.le_of_ble_eq_true rfl) (Nat.le_of_ble_eq_true rfl) ?_
  refine W.eq (g2 := F0 m 4 ls []) rfl ?_
  refine lv_aload_n hx hb d_B_init_4 rfl (lv_at hl 0 rfl) ?_
  refine lv_sipush (v := 6000) hx hb d_B_init_5 (by decide) ?_
  refine va_newa (atype := .byte) (a0 := (6000, .inl (fun _ => 0))) (N' := 6000) hx hb (hg _ gw_36) (ty := .byte) rfl hK hP hD hS hA (fun _ => rfl) (by decide) (by decide) (by decide) (Nat.le_of_ble_eq_true rfl) (Nat.le_of_ble_eq_true rfl) d_B_init_8 (fun ra cB_ H hK hP hD hS => ?_)
  obtain ⟨cB, hcA_cB⟩ : ∃ z, z = cB_ := ⟨_, rfl⟩
  have hK : va_K D CLS [(cB_, .byte)] s := hK
  rw [← hcA_cB] at hK hP hD
  have hP : va_P D CLS [(br, .inr (1, [.null, .int (nI 0)])), (ra, .inl (cB, 6000, .inl (fun _ => 0)))] H := hP
  have hD : va_D A [(br, .inr (1, [.null, .int (nI 0)])), (ra, .inl (cB, 6000, .inl (fun _ => 0)))] := hD
  refine va_putF (D := D) (ci := 1) (v := .ref ra) (ty := .array .byte) (C := R_B) (T := T_B) (N := 2) hx hb hg in_B ty_B tok_B nm_B hown hK hP hD hS 0 rfl rfl 0 (by decide) (hg _ gw_28) (fun _ h9 => h9) rfl hin rfl (by decide +kernel) (rfl) (rfl) (Nat.le_of_ble_eq_true rfl) d_B_init_10 (fun H locs hP hD hS => ?_)
  have hP : va_P D CLS [(br, .inr (1, [.ref ra, .int (nI 0)])), (ra, .inl (cB, 6000, .inl (fun _ => 0)))] H := hP
  have hD : va_D A [(br, .inr (1, [.ref ra, .int (nI 0)])), (ra, .inl (cB, 6000, .inl (fun _ => 0)))] := hD
  have hP9 := hP.sub (ws' := [(br, .inr (1, [.ref ra, .int (nI 0)])), (ra, .inl (cB, 6000, .inl (fun _ => 0)))]) [0, 1] rfl
  have hD9 := hD.sub (ws' := [(br, .inr (1, [.ref ra, .int (nI 0)])), (ra, .inl (cB, 6000, .inl (fun _ => 0)))]) [0, 1] (by decide) rfl
  have hK9 := hK.sub (tys' := [(cB, .byte)]) [0] rfl
  refine W.widen (k := 1) (n := 6000) (Nat.le_of_ble_eq_true rfl) (Nat.le_of_ble_eq_true rfl) ?_
  exact W.vret hx hb hr (fun t ht hW => ⟨⟨(), rfl, trivial, ra, cB, by rw [ht]; exact hP9, va_K.moved hW.alike hK9, hD9⟩, hS.F ht⟩) hS.2.2 d_B_init_13
set_option maxHeartbeats 4000000 in
set_option maxRecDepth 100000 in
theorem c_Q_init (l : Launch) (D : va_G) (sz : Nat) (bq : Nat) : Met l y_Q_init (WSY y_Q_init b_Q_init 1 none) ({ frames := 1, cells := 1, slots := 1000, locals := 12 }) (va_Pc [.ref bq] (fun U => U.heap.size = sz ∧ va_P D CLS [(bq, .inr (0, [.null, .int (nI 0), .int (nI 0)]))] U.heap ∧ va_K D CLS [] U ∧ va_D (fun _ => True) [(bq, .inr (0, [.null, .int (nI 0), .int (nI 0)]))])) (va_Qv (S := Unit) (fun _ => True) (fun _ t => ∃ (qa : Nat) (cB : ClassId), va_P D CLS [(bq, .inr (0, [.ref qa, .int (nI 0), .int (nI 0)])), (qa, .inl (cB, 1000, .inl (fun _ => 0)))] t.heap ∧ va_K D CLS [(cB, .byte)] t ∧ va_D (va_A [(bq, .inr (0, [.null, .int (nI 0), .int (nI 0)]))] sz) [(bq, .inr (0, [.ref qa, .int (nI 0), .int (nI 0)])), (qa, .inl (cB, 1000, .inl (fun _ => 0)))]) (va_A [(bq, .inr (0, [.null, .int (nI 0), .int (nI 0)]))] sz)) 1 1000 (va_A [(bq, .inr (0, [.null, .int (nI 0), .int (nI 0)]))] sz) := by
  refine Met.ofW (cc := b_Q_init) (maxL := 1) (ret := none) (by decide) rfl ?_
  intro p e s m args below meth c s₁ B hml hv
  obtain ⟨rfl, hsz, hP, hK, hD0⟩ := hv
  have hx := B.exec
  have hb := B.bytes
  have hr := B.returns
  have hts := atoms_spec (ws := WSY y_Q_init b_Q_init 1 none) B.pre
  have hg : ∀ w ∈ GW, w.before _ s = true := fun w h => hts w (List.mem_cons_of_mem _ h)
  have hown : s.vm.findClass "LineGolomb$BitQueue" = some m.cls := findClass_of_methodNamed B.named
  have hlocks := B.notSynchronized
  have hin : meth.name = "<init>" := (name_of_methodNamed B.named B.method).1
  subst hsz
  have hD := hD0.self (sz := s.heap.size)
  generalize hAe : va_A [(bq, .inr (0, [.null, .int (nI 0), .int (nI 0)]))] s.heap.size = A at hD ⊢
  have hA : ∀ q : Nat, s.heap.size ≤ q → A q := fun q h => by rw [← hAe]; exact Or.inr h
  have hS : va_S A s.heap s.heap [] := va_S.rf
  have hP : va_P D CLS [(bq, .inr (0, [.null, .int (nI 0), .int (nI 0)]))] s.heap := hP
  have hl := lv_entry ([.ref bq]) (n := 1) (Nat.le_of_ble_eq_true rfl)
  rw [lg_entry_eq]
  generalize (lg_sl ([.ref bq]) ++ List.replicate (1 - (lg_sl ([.ref bq])).length) Slot.unset).toArray = ls at hl ⊢
  have hl : lv_has ls 1 [(0, .ref bq)] := hl
  refine lv_aload_n hx hb d_Q_init_0 rfl (lv_at hl 0 rfl) ?_
  refine W.objInit hx hb hown (hg _ gw_42) (hg _ gw_20) (hg _ gw_21) rfl (by rw [hml]; exact hl.1) rfl d_Q_init_1 (Nat.le_of_ble_eq_true rfl) (Nat.le_of_ble_eq_true rfl) ?_
  refine W.eq (g2 := F0 m 4 ls []) rfl ?_
  refine lv_aload_n hx hb d_Q_init_4 rfl (lv_at hl 0 rfl) ?_
  refine lv_sipush (v := 1000) hx hb d_Q_init_5 (by decide) ?_
  refine va_newa (atype := .byte) (a0 := (1000, .inl (fun _ => 0))) (N' := 1000) hx hb (hg _ gw_36) (ty := .byte) rfl hK hP hD hS hA (fun _ => rfl) (by decide) (by decide) (by decide) (Nat.le_of_ble_eq_true rfl) (Nat.le_of_ble_eq_true rfl) d_Q_init_8 (fun qa cB_ H hK hP hD hS => ?_)
  obtain ⟨cB, hcA_cB⟩ : ∃ z, z = cB_ := ⟨_, rfl⟩
  have hK : va_K D CLS [(cB_, .byte)] s := hK
  rw [← hcA_cB] at hK hP hD
  have hP : va_P D CLS [(bq, .inr (0, [.null, .int (nI 0), .int (nI 0)])), (qa, .inl (cB, 1000, .inl (fun _ => 0)))] H := hP
  have hD : va_D A [(bq, .inr (0, [.null, .int (nI 0), .int (nI 0)])), (qa, .inl (cB, 1000, .inl (fun _ => 0)))] := hD
  refine va_putF (D := D) (ci := 0) (v := .ref qa) (ty := .array .byte) (C := R_Q) (T := T_Q) (N := 3) hx hb hg in_Q ty_Q tok_Q nm_Q hown hK hP hD hS 0 rfl rfl 0 (by decide) (hg _ gw_43) (fun _ h9 => h9) rfl hin rfl (by decide +kernel) (rfl) (rfl) (Nat.le_of_ble_eq_true rfl) d_Q_init_10 (fun H locs hP hD hS => ?_)
  have hP : va_P D CLS [(bq, .inr (0, [.ref qa, .int (nI 0), .int (nI 0)])), (qa, .inl (cB, 1000, .inl (fun _ => 0)))] H := hP
  have hD : va_D A [(bq, .inr (0, [.ref qa, .int (nI 0), .int (nI 0)])), (qa, .inl (cB, 1000, .inl (fun _ => 0)))] := hD
  have hP9 := hP.sub (ws' := [(bq, .inr (0, [.ref qa, .int (nI 0), .int (nI 0)])), (qa, .inl (cB, 1000, .inl (fun _ => 0)))]) [0, 1] rfl
  have hD9 := hD.sub (ws' := [(bq, .inr (0, [.ref qa, .int (nI 0), .int (nI 0)])), (qa, .inl (cB, 1000, .inl (fun _ => 0)))]) [0, 1] (by decide) rfl
  have hK9 := hK.sub (tys' := [(cB, .byte)]) [0] rfl
  refine W.widen (k := 1) (n := 1000) (Nat.le_of_ble_eq_true rfl) (Nat.le_of_ble_eq_true rfl) ?_
  exact W.vret hx hb hr (fun t ht hW => ⟨⟨(), rfl, trivial, qa, cB, by rw [ht]; exact hP9, va_K.moved hW.alike hK9, hD9⟩, hS.F ht⟩) hS.2.2 d_Q_init_13
set_option maxHeartbeats 4000000 in
set_option maxRecDepth 100000 in
theorem c_E_init0 (l : Launch) (D : va_G) (sz : Nat) (h0 fs : Nat) : Met l y_E_init (WSY y_E_init b_E_init 3 none) ({ frames := 1, cells := 0, slots := 0, locals := 24 }) (va_Pc [.ref h0, .int 0, .int (nI fs)] (fun U => U.heap.size = sz ∧ va_P D CLS [(h0, .inr (2, [.int (nI 0), .int (nI 0), .int (nI 0), .int (nI 0), .int (nI 0)]))] U.heap ∧ va_K D CLS [] U ∧ va_D (fun _ => True) [(h0, .inr (2, [.int (nI 0), .int (nI 0), .int (nI 0), .int (nI 0), .int (nI 0)]))])) (va_Qv (S := Unit) (fun _ => True) (fun _ t => va_P D CLS [(h0, .inr (2, [.int 0, .int (nI fs), .int (nI fs), .int (nI 1), .int (nI 0)]))] t.heap ∧ va_K D CLS [] t ∧ va_D (va_A [(h0, .inr (2, [.int (nI 0), .int (nI 0), .int (nI 0), .int (nI 0), .int (nI 0)]))] sz) [(h0, .inr (2, [.int 0, .int (nI fs), .int (nI fs), .int (nI 1), .int (nI 0)]))]) (va_A [(h0, .inr (2, [.int (nI 0), .int (nI 0), .int (nI 0), .int (nI 0), .int (nI 0)]))] sz)) 0 0 (va_A [(h0, .inr (2, [.int (nI 0), .int (nI 0), .int (nI 0), .int (nI 0), .int (nI 0)]))] sz) := by
  refine Met.ofW (cc := b_E_init) (maxL := 3) (ret := none) (by decide) rfl ?_
  intro p e s m args below meth c s₁ B hml hv
  obtain ⟨rfl, hsz, hP, hK, hD0⟩ := hv
  have hx := B.exec
  have hb := B.bytes
  have hr := B.returns
  have hts := atoms_spec (ws := WSY y_E_init b_E_init 3 none) B.pre
  have hg : ∀ w ∈ GW, w.before _ s = true := fun w h => hts w (List.mem_cons_of_mem _ h)
  have hown : s.vm.findClass "LineGolomb$Ends" = some m.cls := findClass_of_methodNamed B.named
  have hlocks := B.notSynchronized
  have hin : meth.name = "<init>" := (name_of_methodNamed B.named B.method).1
  subst hsz
  have hD := hD0.self (sz := s.heap.size)
  generalize hAe : va_A [(h0, .inr (2, [.int (nI 0), .int (nI 0), .int (nI 0), .int (nI 0), .int (nI 0)]))] s.heap.size = A at hD ⊢
  have hA : ∀ q : Nat, s.heap.size ≤ q → A q := fun q h => by rw [← hAe]; exact Or.inr h
  have hS : va_S A s.heap s.heap [] := va_S.rf
  have hP : va_P D CLS [(h0, .inr (2, [.int (nI 0), .int (nI 0), .int (nI 0), .int (nI 0), .int (nI 0)]))] s.heap := hP
  have hl := lv_entry ([.ref h0, .int 0, .int (nI fs)]) (n := 3) (Nat.le_of_ble_eq_true rfl)
  rw [lg_entry_eq]
  generalize (lg_sl ([.ref h0, .int 0, .int (nI fs)]) ++ List.replicate (3 - (lg_sl ([.ref h0, .int 0, .int (nI fs)])).length) Slot.unset).toArray = ls at hl ⊢
  have hl : lv_has ls 3 [(0, .ref h0), (1, .int 0), (2, .int (nI fs))] := hl
  refine lv_aload_n hx hb d_E_init_0 rfl (lv_at hl 0 rfl) ?_
  refine W.objInit hx hb hown (hg _ gw_77) (hg _ gw_20) (hg _ gw_21) rfl (by rw [hml]; exact hl.1) rfl d_E_init_1 (Nat.le_of_ble_eq_true rfl) (Nat.le_of_ble_eq_true rfl) ?_
  refine W.eq (g2 := F0 m 4 ls []) rfl ?_
  refine lv_aload_n hx hb d_E_init_4 rfl (lv_at hl 0 rfl) ?_
  refine lv_iload_n hx hb d_E_init_5 rfl (lv_at hl 1 rfl) ?_
  refine va_putF (D := D) (ci := 2) (v := .int 0) (ty := .int) (C := R_E) (T := T_E) (N := 5) hx hb hg in_E ty_E tok_E nm_E hown hK hP hD hS 0 rfl rfl 0 (by decide) (hg _ gw_82) (fun _ h9 => h9) rfl hin rfl (by decide +kernel) (rfl) (rfl) (Nat.le_of_ble_eq_true rfl) d_E_init_6 (fun H locs hP hD hS => ?_)
  have hP : va_P D CLS [(h0, .inr (2, [.int 0, .int (nI 0), .int (nI 0), .int (nI 0), .int (nI 0)]))] H := hP
  have hD : va_D A [(h0, .inr (2, [.int 0, .int (nI 0), .int (nI 0), .int (nI 0), .int (nI 0)]))] := hD
  refine lv_aload_n hx hb d_E_init_9 rfl (lv_at hl 0 rfl) ?_
  refine lv_iload_n hx hb d_E_init_10 rfl (lv_at hl 2 rfl) ?_
  refine va_putF (D := D) (ci := 2) (v := .int (nI fs)) (ty := .int) (C := R_E) (T := T_E) (N := 5) hx hb hg in_E ty_E tok_E nm_E hown hK hP hD hS 0 rfl rfl 1 (by decide) (hg _ gw_83) (fun _ h9 => h9) rfl hin rfl (by decide +kernel) (rfl) (rfl) (Nat.le_of_ble_eq_true rfl) d_E_init_11 (fun H locs hP hD hS => ?_)
  have hP : va_P D CLS [(h0, .inr (2, [.int 0, .int (nI fs), .int (nI 0), .int (nI 0), .int (nI 0)]))] H := hP
  have hD : va_D A [(h0, .inr (2, [.int 0, .int (nI fs), .int (nI 0), .int (nI 0), .int (nI 0)]))] := hD
  refine lv_aload_n hx hb d_E_init_14 rfl (lv_at hl 0 rfl) ?_
  have hPc := hP.sub (ws' := [(h0, .inr (2, [.int 0, .int (nI fs), .int (nI 0), .int (nI 0), .int (nI 0)]))]) [0] rfl
  have hDc := hD.sub (ws' := [(h0, .inr (2, [.int 0, .int (nI fs), .int (nI 0), .int (nI 0), .int (nI 0)]))]) [0] (by decide) rfl
  have hKc := hK.sub (tys' := []) [] rfl
  refine mcv (va_runV (As := []) (rest := []) ⟨hx, hb, hml, hown, hg⟩ (c_E_restart0 l D h0 fs 0 0 0) (cwV 0 hg (gV gw_78 gw_79 gw_80 gw_6 gw_81) rfl rfl rfl (by decide +kernel) ⟨Nat.le_of_ble_eq_true rfl, Nat.le_of_ble_eq_true rfl⟩) ⟨fun a U g mk q => by obtain ⟨q0, qP, qK, qD⟩ := q; exact ⟨q0, qP, va_K.moved (u := U) (U := U.calling g mk a) (Vm.Alike.refl U.vm) qK, qD⟩, va_recv hKc hPc (ci := 2) (q0 := 0) rfl rfl, fun U hU hW => ⟨rfl, by rw [hU]; exact hPc, va_K.moved hW.alike hKc, hDc.weaken (fun _ _ _ _ => trivial)⟩⟩ rfl rfl hl.1 rfl (lv_room (Nat.le_of_ble_eq_true rfl)) d_E_init_15 (⟨Nat.le_of_ble_eq_true rfl, Nat.le_of_ble_eq_true rfl⟩)) hS hP hD [0] rfl rfl rfl (fun H locs hP hD hS => ?_)
  have hP : va_P D CLS [(h0, .inr (2, [.int 0, .int (nI fs), .int (nI fs), .int (nI 1), .int (nI 0)]))] H := hP
  have hD : va_D A [(h0, .inr (2, [.int 0, .int (nI fs), .int (nI fs), .int (nI 1), .int (nI 0)]))] := hD
  have hP9 := hP.sub (ws' := [(h0, .inr (2, [.int 0, .int (nI fs), .int (nI fs), .int (nI 1), .int (nI 0)]))]) [0] rfl
  have hD9 := hD.sub (ws' := [(h0, .inr (2, [.int 0, .int (nI fs), .int (nI fs), .int (nI 1), .int (nI 0)]))]) [0] (by decide) rfl
  have hK9 := hK.sub (tys' := []) [] rfl
  refine W.widen (k := 0) (n := 0) (Nat.le_of_ble_eq_true rfl) (Nat.le_of_ble_eq_true rfl) ?_
  exact W.vret hx hb hr (fun t ht hW => ⟨⟨(), rfl, trivial, by rw [ht]; exact hP9, va_K.moved hW.alike hK9, hD9⟩, hS.F ht⟩) hS.2.2 d_E_init_18
set_option maxHeartbeats 4000000 in
set_option maxRecDepth 100000 in
theorem c_E_init1 (l : Launch) (D : va_G) (sz : Nat) (h0 fs : Nat) : Met l y_E_init (WSY y_E_init b_E_init 3 none) ({ frames := 1, cells := 0, slots := 0, locals := 24 }) (va_Pc [.ref h0, .int 1, .int (nI fs)] (fun U => U.heap.size = sz ∧ va_P D CLS [(h0, .inr (2, [.int (nI 0), .int (nI 0), .int (nI 0), .int (nI 0), .int (nI 0)]))] U.heap ∧ va_K D CLS [] U ∧ va_D (fun _ => True) [(h0, .inr (2, [.int (nI 0), .int (nI 0), .int (nI 0), .int (nI 0), .int (nI 0)]))])) (va_Qv (S := Unit) (fun _ => True) (fun _ t => va_P D CLS [(h0, .inr (2, [.int 1, .int (nI fs), .int (nI fs), .int (nI 1), .int (nI 0)]))] t.heap ∧ va_K D CLS [] t ∧ va_D (va_A [(h0, .inr (2, [.int (nI 0), .int (nI 0), .int (nI 0), .int (nI 0), .int (nI 0)]))] sz) [(h0, .inr (2, [.int 1, .int (nI fs), .int (nI fs), .int (nI 1), .int (nI 0)]))]) (va_A [(h0, .inr (2, [.int (nI 0), .int (nI 0), .int (nI 0), .int (nI 0), .int (nI 0)]))] sz)) 0 0 (va_A [(h0, .inr (2, [.int (nI 0), .int (nI 0), .int (nI 0), .int (nI 0), .int (nI 0)]))] sz) := by
  refine Met.ofW (cc := b_E_init) (maxL := 3) (ret := none) (by decide) rfl ?_
  intro p e s m args below meth c s₁ B hml hv
  obtain ⟨rfl, hsz, hP, hK, hD0⟩ := hv
  have hx := B.exec
  have hb := B.bytes
  have hr := B.returns
  have hts := atoms_spec (ws := WSY y_E_init b_E_init 3 none) B.pre
  have hg : ∀ w ∈ GW, w.before _ s = true := fun w h => hts w (List.mem_cons_of_mem _ h)
  have hown : s.vm.findClass "LineGolomb$Ends" = some m.cls := findClass_of_methodNamed B.named
  have hlocks := B.notSynchronized
  have hin : meth.name = "<init>" := (name_of_methodNamed B.named B.method).1
  subst hsz
  have hD := hD0.self (sz := s.heap.size)
  generalize hAe : va_A [(h0, .inr (2, [.int (nI 0), .int (nI 0), .int (nI 0), .int (nI 0), .int (nI 0)]))] s.heap.size = A at hD ⊢
  have hA : ∀ q : Nat, s.heap.size ≤ q → A q := fun q h => by rw [← hAe]; exact Or.inr h
  have hS : va_S A s.heap s.heap [] := va_S.rf
  have hP : va_P D CLS [(h0, .inr (2, [.int (nI 0), .int (nI 0), .int (nI 0), .int (nI 0), .int (nI 0)]))] s.heap := hP
  have hl := lv_entry ([.ref h0, .int 1, .int (nI fs)]) (n := 3) (Nat.le_of_ble_eq_true rfl)
  rw [lg_entry_eq]
  generalize (lg_sl ([.ref h0, .int 1, .int (nI fs)]) ++ List.replicate (3 - (lg_sl ([.ref h0, .int 1, .int (nI fs)])).length) Slot.unset).toArray = ls at hl ⊢
  have hl : lv_has ls 3 [(0, .ref h0), (1, .int 1), (2, .int (nI fs))] := hl
  refine lv_aload_n hx hb d_E_init_0 rfl (lv_at hl 0 rfl) ?_
  refine W.objInit hx hb hown (hg _ gw_77) (hg _ gw_20) (hg _ gw_21) rfl (by rw [hml]; exact hl.1) rfl d_E_init_1 (Nat.le_of_ble_eq_true rfl) (Nat.le_of_ble_eq_true rfl) ?_
  refine W.eq (g2 := F0 m 4 ls []) rfl ?_
  refine lv_aload_n hx hb d_E_init_4 rfl (lv_at hl 0 rfl) ?_
  refine lv_iload_n hx hb d_E_init_5 rfl (lv_at hl 1 rfl) ?_
  refine va_putF (D := D) (ci := 2) (v := .int 1) (ty := .int) (C := R_E) (T := T_E) (N := 5) hx hb hg in_E ty_E tok_E nm_E hown hK hP hD hS 0 rfl rfl 0 (by decide) (hg _ gw_82) (fun _ h9 => h9) rfl hin rfl (by decide +kernel) (rfl) (rfl) (Nat.le_of_ble_eq_true rfl) d_E_init_6 (fun H locs hP hD hS => ?_)
  have hP : va_P D CLS [(h0, .inr (2, [.int 1, .int (nI 0), .int (nI 0), .int (nI 0), .int (nI 0)]))] H := hP
  have hD : va_D A [(h0, .inr (2, [.int 1, .int (nI 0), .int (nI 0), .int (nI 0), .int (nI 0)]))] := hD
  refine lv_aload_n hx hb d_E_init_9 rfl (lv_at hl 0 rfl) ?_
  refine lv_iload_n hx hb d_E_init_10 rfl (lv_at hl 2 rfl) ?_
  refine va_putF (D := D) (ci := 2) (v := .int (nI fs)) (ty := .int) (C := R_E) (T := T_E) (N := 5) hx hb hg in_E ty_E tok_E nm_E hown hK hP hD hS 0 rfl rfl 1 (by decide) (hg _ gw_83) (fun _ h9 => h9) rfl hin rfl (by decide +kernel) (rfl) (rfl) (Nat.le_of_ble_eq_true rfl) d_E_init_11 (fun H locs hP hD hS => ?_)
  have hP : va_P D CLS [(h0, .inr (2, [.int 1, .int (nI fs), .int (nI 0), .int (nI 0), .int (nI 0)]))] H := hP
  have hD : va_D A [(h0, .inr (2, [.int 1, .int (nI fs), .int (nI 0), .int (nI 0), .int (nI 0)]))] := hD
  refine lv_aload_n hx hb d_E_init_14 rfl (lv_at hl 0 rfl) ?_
  have hPc := hP.sub (ws' := [(h0, .inr (2, [.int 1, .int (nI fs), .int (nI 0), .int (nI 0), .int (nI 0)]))]) [0] rfl
  have hDc := hD.sub (ws' := [(h0, .inr (2, [.int 1, .int (nI fs), .int (nI 0), .int (nI 0), .int (nI 0)]))]) [0] (by decide) rfl
  have hKc := hK.sub (tys' := []) [] rfl
  refine mcv (va_runV (As := []) (rest := []) ⟨hx, hb, hml, hown, hg⟩ (c_E_restart1 l D h0 fs 0 0 0) (cwV 0 hg (gV gw_78 gw_79 gw_80 gw_6 gw_81) rfl rfl rfl (by decide +kernel) ⟨Nat.le_of_ble_eq_true rfl, Nat.le_of_ble_eq_true rfl⟩) ⟨fun a U g mk q => by obtain ⟨q0, qP, qK, qD⟩ := q; exact ⟨q0, qP, va_K.moved (u := U) (U := U.calling g mk a) (Vm.Alike.refl U.vm) qK, qD⟩, va_recv hKc hPc (ci := 2) (q0 := 0) rfl rfl, fun U hU hW => ⟨rfl, by rw [hU]; exact hPc, va_K.moved hW.alike hKc, hDc.weaken (fun _ _ _ _ => trivial)⟩⟩ rfl rfl hl.1 rfl (lv_room (Nat.le_of_ble_eq_true rfl)) d_E_init_15 (⟨Nat.le_of_ble_eq_true rfl, Nat.le_of_ble_eq_true rfl⟩)) hS hP hD [0] rfl rfl rfl (fun H locs hP hD hS => ?_)
  have hP : va_P D CLS [(h0, .inr (2, [.int 1, .int (nI fs), .int (nI fs), .int (nI 1), .int (nI 0)]))] H := hP
  have hD : va_D A [(h0, .inr (2, [.int 1, .int (nI fs), .int (nI fs), .int (nI 1), .int (nI 0)]))] := hD
  have hP9 := hP.sub (ws' := [(h0, .inr (2, [.int 1, .int (nI fs), .int (nI fs), .int (nI 1), .int (nI 0)]))]) [0] rfl
  have hD9 := hD.sub (ws' := [(h0, .inr (2, [.int 1, .int (nI fs), .int (nI fs), .int (nI 1), .int (nI 0)]))]) [0] (by decide) rfl
  have hK9 := hK.sub (tys' := []) [] rfl
  refine W.widen (k := 0) (n := 0) (Nat.le_of_ble_eq_true rfl) (Nat.le_of_ble_eq_true rfl) ?_
  exact W.vret hx hb hr (fun t ht hW => ⟨⟨(), rfl, trivial, by rw [ht]; exact hP9, va_K.moved hW.alike hK9, hD9⟩, hS.F ht⟩) hS.2.2 d_E_init_18
set_option maxHeartbeats 4000000 in
set_option maxRecDepth 100000 in
theorem c_S_init (l : Launch) (D : va_G) (sz : Nat) (sd fs : Nat) : Met l y_S_init (WSY y_S_init b_S_init 2 none) ({ frames := 2, cells := 2, slots := 10, locals := 50 }) (va_Pc [.ref sd, .int (nI fs)] (fun U => U.heap.size = sz ∧ va_P D CLS [(sd, .inr (3, [.null, .null, .int (nI 0), .int (nI 0)]))] U.heap ∧ va_K D CLS [] U ∧ va_D (fun _ => True) [(sd, .inr (3, [.null, .null, .int (nI 0), .int (nI 0)]))])) (va_Qv (S := Unit) (fun _ => True) (fun _ t => ∃ (e0 : Nat) (e1 : Nat), va_P D CLS [(sd, .inr (3, [.ref e0, .ref e1, .int (nI 0), .int (nI 0)])), (e0, .inr (2, [.int 0, .int (nI fs), .int (nI fs), .int (nI 1), .int (nI 0)])), (e1, .inr (2, [.int 1, .int (nI fs), .int (nI fs), .int (nI 1), .int (nI 0)]))] t.heap ∧ va_K D CLS [] t ∧ va_D (va_A [(sd, .inr (3, [.null, .null, .int (nI 0), .int (nI 0)]))] sz) [(sd, .inr (3, [.ref e0, .ref e1, .int (nI 0), .int (nI 0)])), (e0, .inr (2, [.int 0, .int (nI fs), .int (nI fs), .int (nI 1), .int (nI 0)])), (e1, .inr (2, [.int 1, .int (nI fs), .int (nI fs), .int (nI 1), .int (nI 0)]))]) (va_A [(sd, .inr (3, [.null, .null, .int (nI 0), .int (nI 0)]))] sz)) 2 10 (va_A [(sd, .inr (3, [.null, .null, .int (nI 0), .int (nI 0)]))] sz) := by
  refine Met.ofW (cc := b_S_init) (maxL := 2) (ret := none) (by decide) rfl ?_
  intro p e s m args below meth c s₁ B hml hv
  obtain ⟨rfl, hsz, hP, hK, hD0⟩ := hv
  have hx := B.exec
  have hb := B.bytes
  have hr := B.returns
  have hts := atoms_spec (ws := WSY y_S_init b_S_init 2 none) B.pre
  have hg : ∀ w ∈ GW, w.before _ s = true := fun w h => hts w (List.mem_cons_of_mem _ h)
  have hown : s.vm.findClass "LineGolomb$Side" = some m.cls := findClass_of_methodNamed B.named
  have hlocks := B.notSynchronized
  have hin : meth.name = "<init>" := (name_of_methodNamed B.named B.method).1
  subst hsz
  have hD := hD0.self (sz := s.heap.size)
  generalize hAe : va_A [(sd, .inr (3, [.null, .null, .int (nI 0), .int (nI 0)]))] s.heap.size = A at hD ⊢
  have hA : ∀ q : Nat, s.heap.size ≤ q → A q := fun q h => by rw [← hAe]; exact Or.inr h
  have hS : va_S A s.heap s.heap [] := va_S.rf
  have hP : va_P D CLS [(sd, .inr (3, [.null, .null, .int (nI 0), .int (nI 0)]))] s.heap := hP
  have hl := lv_entry ([.ref sd, .int (nI fs)]) (n := 2) (Nat.le_of_ble_eq_true rfl)
  rw [lg_entry_eq]
  generalize (lg_sl ([.ref sd, .int (nI fs)]) ++ List.replicate (2 - (lg_sl ([.ref sd, .int (nI fs)])).length) Slot.unset).toArray = ls at hl ⊢
  have hl : lv_has ls 2 [(0, .ref sd), (1, .int (nI fs))] := hl
  refine lv_aload_n hx hb d_S_init_0 rfl (lv_at hl 0 rfl) ?_
  refine W.objInit hx hb hown (hg _ gw_71) (hg _ gw_20) (hg _ gw_21) rfl (by rw [hml]; exact hl.1) rfl d_S_init_1 (Nat.le_of_ble_eq_true rfl) (Nat.le_of_ble_eq_true rfl) ?_
  refine W.eq (g2 := F0 m 4 ls []) rfl ?_
  refine lv_aload_n hx hb d_S_init_4 rfl (lv_at hl 0 rfl) ?_
  refine va_new (ci := 2) (fs := [.int (nI 0), .int (nI 0), .int (nI 0), .int (nI 0), .int (nI 0)]) (C := R_E) (T := T_E) (N := 5) hx hb hg in_E ty_E tok_E hown (hg _ gw_72) (hg _ gw_73) (hg _ gw_6) hK hP hD hS hA rfl (fun j hj => by rcases (show j = 0 ∨ j = 1 ∨ j = 2 ∨ j = 3 ∨ j = 4 by omega) with rfl | rfl | rfl | rfl | rfl <;> rfl) (Nat.le_of_ble_eq_true rfl) (Nat.le_of_ble_eq_true rfl) d_S_init_5 (fun e0 H hP hD hS => ?_)
  have hP : va_P D CLS [(sd, .inr (3, [.null, .null, .int (nI 0), .int (nI 0)])), (e0, .inr (2, [.int (nI 0), .int (nI 0), .int (nI 0), .int (nI 0), .int (nI 0)]))] H := hP
  have hD : va_D A [(sd, .inr (3, [.null, .null, .int (nI 0), .int (nI 0)])), (e0, .inr (2, [.int (nI 0), .int (nI 0), .int (nI 0), .int (nI 0), .int (nI 0)]))] := hD
  refine lv_dup hx hb d_S_init_8 rfl ?_
  refine lv_iconst (v := 0) hx hb d_S_init_9 (by decide) ?_
  refine lv_iload_n hx hb d_S_init_10 rfl (lv_at hl 1 rfl) ?_
  have hPc := hP.sub (ws' := [(e0, .inr (2, [.int (nI 0), .int (nI 0), .int (nI 0), .int (nI 0), .int (nI 0)]))]) [1] rfl
  have hDc := hD.sub (ws' := [(e0, .inr (2, [.int (nI 0), .int (nI 0), .int (nI 0), .int (nI 0), .int (nI 0)]))]) [1] (by decide) rfl
  have hKc := hK.sub (tys' := []) [] rfl
  have hFc := va_free (wc := [(e0, .inr (2, [.int (nI 0), .int (nI 0), .int (nI 0), .int (nI 0), .int (nI 0)]))]) hD hS hA [1] rfl
  refine va_callv (va_runI (As := [.int 0, .int (nI fs)]) (rest := [.ref e0, .ref sd]) ⟨hx, hb, hml, hown, hg⟩ (c_E_init0 l D H.size e0 fs) (cwI 2 hg (gI gw_76) rfl rfl rfl (hg _ gw_6) (hg _ gw_74) (hg _ gw_75) rfl (by decide +kernel) ⟨Nat.le_of_ble_eq_true rfl, Nat.le_of_ble_eq_true rfl⟩) ⟨fun a U g mk q => by obtain ⟨q0, q1, qP, qK, qD⟩ := q; exact ⟨q0, q1, qP, va_K.moved (u := U) (U := U.calling g mk a) (Vm.Alike.refl U.vm) qK, qD⟩, fun U hU hW => ⟨rfl, by rw [hU], by rw [hU]; exact hPc, va_K.moved hW.alike hKc, hDc.weaken (fun _ _ _ _ => trivial)⟩⟩ rfl rfl hl.1 rfl (lv_room (Nat.le_of_ble_eq_true rfl)) d_S_init_11 ⟨Nat.le_of_ble_eq_true rfl, Nat.le_of_ble_eq_true rfl⟩) hS (fun q _ h => hFc q h) hFc (fun u9 t9 H1 locs ht hvm hw hB hz1 hk1 hS => ?_)
  obtain ⟨hP1, hK1, hD1⟩ := hB
  rw [ht] at hP1
  have hK1 := va_K.moved hvm.symm hK1
  obtain ⟨hP, hD⟩ := va_join (wr := [(sd, .inr (3, [.null, .null, .int (nI 0), .int (nI 0)]))]) (w1 := [(e0, .inr (2, [.int 0, .int (nI fs), .int (nI fs), .int (nI 1), .int (nI 0)]))]) hP hD [1] [0] rfl rfl (by decide) (by decide) hk1 hFc hP1 hD1
  have hK := hK.app hK1
  generalize H1 = H at hP hS ⊢
  have hP : va_P D CLS [(sd, .inr (3, [.null, .null, .int (nI 0), .int (nI 0)])), (e0, .inr (2, [.int 0, .int (nI fs), .int (nI fs), .int (nI 1), .int (nI 0)]))] H := hP
  have hD : va_D A [(sd, .inr (3, [.null, .null, .int (nI 0), .int (nI 0)])), (e0, .inr (2, [.int 0, .int (nI fs), .int (nI fs), .int (nI 1), .int (nI 0)]))] := hD
  have hK : va_K D CLS [] s := hK
  refine va_putF (D := D) (ci := 3) (v := .ref e0) (ty := .object "LineGolomb$Ends") (C := R_S) (T := T_S) (N := 4) hx hb hg in_S ty_S tok_S nm_S hown hK hP hD hS 0 rfl rfl 0 (by decide) (hg _ gw_101) (fun _ h9 => h9) rfl hin rfl (by decide +kernel) (rfl) (rfl) (Nat.le_of_ble_eq_true rfl) d_S_init_14 (fun H locs hP hD hS => ?_)
  have hP : va_P D CLS [(sd, .inr (3, [.ref e0, .null, .int (nI 0), .int (nI 0)])), (e0, .inr (2, [.int 0, .int (nI fs), .int (nI fs), .int (nI 1), .int (nI 0)]))] H := hP
  have hD : va_D A [(sd, .inr (3, [.ref e0, .null, .int (nI 0), .int (nI 0)])), (e0, .inr (2, [.int 0, .int (nI fs), .int (nI fs), .int (nI 1), .int (nI 0)]))] := hD
  refine lv_aload_n hx hb d_S_init_17 rfl (lv_at hl 0 rfl) ?_
  refine va_new (ci := 2) (fs := [.int (nI 0), .int (nI 0), .int (nI 0), .int (nI 0), .int (nI 0)]) (C := R_E) (T := T_E) (N := 5) hx hb hg in_E ty_E tok_E hown (hg _ gw_72) (hg _ gw_73) (hg _ gw_6) hK hP hD hS hA rfl (fun j hj => by rcases (show j = 0 ∨ j = 1 ∨ j = 2 ∨ j = 3 ∨ j = 4 by omega) with rfl | rfl | rfl | rfl | rfl <;> rfl) (Nat.le_of_ble_eq_true rfl) (Nat.le_of_ble_eq_true rfl) d_S_init_18 (fun e1 H hP hD hS => ?_)
  have hP : va_P D CLS [(sd, .inr (3, [.ref e0, .null, .int (nI 0), .int (nI 0)])), (e0, .inr (2, [.int 0, .int (nI fs), .int (nI fs), .int (nI 1), .int (nI 0)])), (e1, .inr (2, [.int (nI 0), .int (nI 0), .int (nI 0), .int (nI 0), .int (nI 0)]))] H := hP
  have hD : va_D A [(sd, .inr (3, [.ref e0, .null, .int (nI 0), .int (nI 0)])), (e0, .inr (2, [.int 0, .int (nI fs), .int (nI fs), .int (nI 1), .int (nI 0)])), (e1, .inr (2, [.int (nI 0), .int (nI 0), .int (nI 0), .int (nI 0), .int (nI 0)]))] := hD
  refine lv_dup hx hb d_S_init_21 rfl ?_
  refine lv_iconst (v := 1) hx hb d_S_init_22 (by decide) ?_
  refine lv_iload_n hx hb d_S_init_23 rfl (lv_at hl 1 rfl) ?_
  have hPc := hP.sub (ws' := [(e1, .inr (2, [.int (nI 0), .int (nI 0), .int (nI 0), .int (nI 0), .int (nI 0)]))]) [2] rfl
  have hDc := hD.sub (ws' := [(e1, .inr (2, [.int (nI 0), .int (nI 0), .int (nI 0), .int (nI 0), .int (nI 0)]))]) [2] (by decide) rfl
  have hKc := hK.sub (tys' := []) [] rfl
  have hFc := va_free (wc := [(e1, .inr (2, [.int (nI 0), .int (nI 0), .int (nI 0), .int (nI 0), .int (nI 0)]))]) hD hS hA [2] rfl
  refine va_callv (va_runI (As := [.int 1, .int (nI fs)]) (rest := [.ref e1, .ref sd]) ⟨hx, hb, hml, hown, hg⟩ (c_E_init1 l D H.size e1 fs) (cwI 2 hg (gI gw_76) rfl rfl rfl (hg _ gw_6) (hg _ gw_74) (hg _ gw_75) rfl (by decide +kernel) ⟨Nat.le_of_ble_eq_true rfl, Nat.le_of_ble_eq_true rfl⟩) ⟨fun a U g mk q => by obtain ⟨q0, q1, qP, qK, qD⟩ := q; exact ⟨q0, q1, qP, va_K.moved (u := U) (U := U.calling g mk a) (Vm.Alike.refl U.vm) qK, qD⟩, fun U hU hW => ⟨rfl, by rw [hU], by rw [hU]; exact hPc, va_K.moved hW.alike hKc, hDc.weaken (fun _ _ _ _ => trivial)⟩⟩ rfl rfl hl.1 rfl (lv_room (Nat.le_of_ble_eq_true rfl)) d_S_init_24 ⟨Nat.le_of_ble_eq_true rfl, Nat.le_of_ble_eq_true rfl⟩) hS (fun q _ h => hFc q h) hFc (fun u9 t9 H1 locs ht hvm hw hB hz1 hk1 hS => ?_)
  obtain ⟨hP1, hK1, hD1⟩ := hB
  rw [ht] at hP1
  have hK1 := va_K.moved hvm.symm hK1
  obtain ⟨hP, hD⟩ := va_join (wr := [(sd, .inr (3, [.ref e0, .null, .int (nI 0), .int (nI 0)])), (e0, .inr (2, [.int 0, .int (nI fs), .int (nI fs), .int (nI 1), .int (nI 0)]))]) (w1 := [(e1, .inr (2, [.int 1, .int (nI fs), .int (nI fs), .int (nI 1), .int (nI 0)]))]) hP hD [2] [0, 1] rfl rfl (by decide) (by decide) hk1 hFc hP1 hD1
  have hK := hK.app hK1
  generalize H1 = H at hP hS ⊢
  have hP : va_P D CLS [(sd, .inr (3, [.ref e0, .null, .int (nI 0), .int (nI 0)])), (e0, .inr (2, [.int 0, .int (nI fs), .int (nI fs), .int (nI 1), .int (nI 0)])), (e1, .inr (2, [.int 1, .int (nI fs), .int (nI fs), .int (nI 1), .int (nI 0)]))] H := hP
  have hD : va_D A [(sd, .inr (3, [.ref e0, .null, .int (nI 0), .int (nI 0)])), (e0, .inr (2, [.int 0, .int (nI fs), .int (nI fs), .int (nI 1), .int (nI 0)])), (e1, .inr (2, [.int 1, .int (nI fs), .int (nI fs), .int (nI 1), .int (nI 0)]))] := hD
  have hK : va_K D CLS [] s := hK
  refine va_putF (D := D) (ci := 3) (v := .ref e1) (ty := .object "LineGolomb$Ends") (C := R_S) (T := T_S) (N := 4) hx hb hg in_S ty_S tok_S nm_S hown hK hP hD hS 0 rfl rfl 1 (by decide) (hg _ gw_102) (fun _ h9 => h9) rfl hin rfl (by decide +kernel) (rfl) (rfl) (Nat.le_of_ble_eq_true rfl) d_S_init_27 (fun H locs hP hD hS => ?_)
  have hP : va_P D CLS [(sd, .inr (3, [.ref e0, .ref e1, .int (nI 0), .int (nI 0)])), (e0, .inr (2, [.int 0, .int (nI fs), .int (nI fs), .int (nI 1), .int (nI 0)])), (e1, .inr (2, [.int 1, .int (nI fs), .int (nI fs), .int (nI 1), .int (nI 0)]))] H := hP
  have hD : va_D A [(sd, .inr (3, [.ref e0, .ref e1, .int (nI 0), .int (nI 0)])), (e0, .inr (2, [.int 0, .int (nI fs), .int (nI fs), .int (nI 1), .int (nI 0)])), (e1, .inr (2, [.int 1, .int (nI fs), .int (nI fs), .int (nI 1), .int (nI 0)]))] := hD
  have hP9 := hP.sub (ws' := [(sd, .inr (3, [.ref e0, .ref e1, .int (nI 0), .int (nI 0)])), (e0, .inr (2, [.int 0, .int (nI fs), .int (nI fs), .int (nI 1), .int (nI 0)])), (e1, .inr (2, [.int 1, .int (nI fs), .int (nI fs), .int (nI 1), .int (nI 0)]))]) [0, 1, 2] rfl
  have hD9 := hD.sub (ws' := [(sd, .inr (3, [.ref e0, .ref e1, .int (nI 0), .int (nI 0)])), (e0, .inr (2, [.int 0, .int (nI fs), .int (nI fs), .int (nI 1), .int (nI 0)])), (e1, .inr (2, [.int 1, .int (nI fs), .int (nI fs), .int (nI 1), .int (nI 0)]))]) [0, 1, 2] (by decide) rfl
  have hK9 := hK.sub (tys' := []) [] rfl
  refine W.widen (k := 2) (n := 10) (Nat.le_of_ble_eq_true rfl) (Nat.le_of_ble_eq_true rfl) ?_
  exact W.vret hx hb hr (fun t ht hW => ⟨⟨(), rfl, trivial, e0, e1, by rw [ht]; exact hP9, va_K.moved hW.alike hK9, hD9⟩, hS.F ht⟩) hS.2.2 d_S_init_30
set_option maxHeartbeats 4000000 in
set_option maxRecDepth 100000 in
theorem c_X_init (l : Launch) (D : va_G) (sz : Nat) (x bi ne li sp q fs : Nat) (p0 p1 p2 : Int32) (hbi : bi = clp p0 2 16) (hne : ne = clp p1 0 (min 255 ((2 ^ bi - 1) / 2))) (hsp : sp = (2 ^ bi - 1 + 2 * ne) / (2 * ne + 1) + 1) (hq : q ≤ 16) (hq1 : sp ≤ 2 ^ q) (hq2 : ∀ j, j < q → 2 ^ j < sp) (hli : li = clp p2 (q + 18) 200) (hfs : fs = (if (sp + 32) / 64 < 2 then 2 else (sp + 32) / 64)) : Met l y_X_init (WSY y_X_init b_X_init 6 none) ({ frames := 3, cells := 10, slots := 7033, locals := 90 }) (va_Pc [.ref x, .int p0, .int p1, .int p2] (fun U => U.heap.size = sz ∧ va_P D CLS [(x, .inr (4, [.int (nI 0), .int (nI 0), .int (nI 0), .int (nI 0), .int (nI 0), .null, .null, .null, .null, .int (nI 0)]))] U.heap ∧ va_K D CLS [] U ∧ va_D (fun _ => True) [(x, .inr (4, [.int (nI 0), .int (nI 0), .int (nI 0), .int (nI 0), .int (nI 0), .null, .null, .null, .null, .int (nI 0)]))] ∧ EVn U)) (va_Qv (S := Unit) (fun _ => True) (fun _ t => ∃ (sw : Nat) (e00 : Nat) (e01 : Nat) (sr : Nat) (e10 : Nat) (e11 : Nat) (br : Nat) (ra : Nat) (bq : Nat) (qa : Nat) (cB : ClassId), va_P D CLS [(x, .inr (4, [.int (nI bi), .int (nI ne), .int (nI li), .int (nI sp), .int (nI q), .ref sw, .ref sr, .ref br, .ref bq, .int (nI 0)])), (sw, .inr (3, [.ref e00, .ref e01, .int (nI 0), .int (nI 0)])), (e00, .inr (2, [.int 0, .int (nI fs), .int (nI fs), .int (nI 1), .int (nI 0)])), (e01, .inr (2, [.int 1, .int (nI fs), .int (nI fs), .int (nI 1), .int (nI 0)])), (sr, .inr (3, [.ref e10, .ref e11, .int (nI 0), .int (nI 0)])), (e10, .inr (2, [.int 0, .int (nI fs), .int (nI fs), .int (nI 1), .int (nI 0)])), (e11, .inr (2, [.int 1, .int (nI fs), .int (nI fs), .int (nI 1), .int (nI 0)])), (br, .inr (1, [.ref ra, .int (nI 0)])), (ra, .inl (cB, 6000, .inl (fun _ => 0))), (bq, .inr (0, [.ref qa, .int (nI 0), .int (nI 0)])), (qa, .inl (cB, 1000, .inl (fun _ => 0)))] t.heap ∧ va_K D CLS [(cB, .byte)] t ∧ va_D (va_A [(x, .inr (4, [.int (nI 0), .int (nI 0), .int (nI 0), .int (nI 0), .int (nI 0), .null, .null, .null, .null, .int (nI 0)]))] sz) [(x, .inr (4, [.int (nI bi), .int (nI ne), .int (nI li), .int (nI sp), .int (nI q), .ref sw, .ref sr, .ref br, .ref bq, .int (nI 0)])), (sw, .inr (3, [.ref e00, .ref e01, .int (nI 0), .int (nI 0)])), (e00, .inr (2, [.int 0, .int (nI fs), .int (nI fs), .int (nI 1), .int (nI 0)])), (e01, .inr (2, [.int 1, .int (nI fs), .int (nI fs), .int (nI 1), .int (nI 0)])), (sr, .inr (3, [.ref e10, .ref e11, .int (nI 0), .int (nI 0)])), (e10, .inr (2, [.int 0, .int (nI fs), .int (nI fs), .int (nI 1), .int (nI 0)])), (e11, .inr (2, [.int 1, .int (nI fs), .int (nI fs), .int (nI 1), .int (nI 0)])), (br, .inr (1, [.ref ra, .int (nI 0)])), (ra, .inl (cB, 6000, .inl (fun _ => 0))), (bq, .inr (0, [.ref qa, .int (nI 0), .int (nI 0)])), (qa, .inl (cB, 1000, .inl (fun _ => 0)))]) (va_A [(x, .inr (4, [.int (nI 0), .int (nI 0), .int (nI 0), .int (nI 0), .int (nI 0), .null, .null, .null, .null, .int (nI 0)]))] sz)) 10 7033 (va_A [(x, .inr (4, [.int (nI 0), .int (nI 0), .int (nI 0), .int (nI 0), .int (nI 0), .null, .null, .null, .null, .int (nI 0)]))] sz) := by
  refine Met.ofW (cc := b_X_init) (maxL := 6) (ret := none) (by decide) rfl ?_
  intro p e s m args below meth c s₁ B hml hv
  obtain ⟨rfl, hsz, hP, hK, hD0, hN⟩ := hv
  have hx := B.exec
  have hb := B.bytes
  have hr := B.returns
  have hts := atoms_spec (ws := WSY y_X_init b_X_init 6 none) B.pre
  have hg : ∀ w ∈ GW, w.before _ s = true := fun w h => hts w (List.mem_cons_of_mem _ h)
  have hown : s.vm.findClass "LineGolomb" = some m.cls := findClass_of_methodNamed B.named
  have hlocks := B.notSynchronized
  have hin : meth.name = "<init>" := (name_of_methodNamed B.named B.method).1
  subst hsz
  have hD := hD0.self (sz := s.heap.size)
  generalize hAe : va_A [(x, .inr (4, [.int (nI 0), .int (nI 0), .int (nI 0), .int (nI 0), .int (nI 0), .null, .null, .null, .null, .int (nI 0)]))] s.heap.size = A at hD ⊢
  have hA : ∀ q : Nat, s.heap.size ≤ q → A q := fun q h => by rw [← hAe]; exact Or.inr h
  have hS : va_S A s.heap s.heap [] := va_S.rf
  have hP : va_P D CLS [(x, .inr (4, [.int (nI 0), .int (nI 0), .int (nI 0), .int (nI 0), .int (nI 0), .null, .null, .null, .null, .int (nI 0)]))] s.heap := hP
  have hl := lv_entry ([.ref x, .int p0, .int p1, .int p2]) (n := 6) (Nat.le_of_ble_eq_true rfl)
  rw [lg_entry_eq]
  generalize (lg_sl ([.ref x, .int p0, .int p1, .int p2]) ++ List.replicate (6 - (lg_sl ([.ref x, .int p0, .int p1, .int p2])).length) Slot.unset).toArray = ls at hl ⊢
  have hl : lv_has ls 6 [(0, .ref x), (1, .int p0), (2, .int p1), (3, .int p2)] := hl
  refine lv_aload_n hx hb d_X_init_0 rfl (lv_at hl 0 rfl) ?_
  refine W.objInit hx hb hown (hg _ gw_19) (hg _ gw_20) (hg _ gw_21) rfl (by rw [hml]; exact hl.1) rfl d_X_init_1 (Nat.le_of_ble_eq_true rfl) (Nat.le_of_ble_eq_true rfl) ?_
  refine W.eq (g2 := F0 m 4 ls []) rfl ?_
  have hbb := clp_b (v := p0) (a := 2) (b := 16) (by decide)
  rw [← hbi] at hbb
  have hnb := clp_b (v := p1) (a := 0) (b := min 255 ((2 ^ bi - 1) / 2)) (Nat.zero_le _)
  rw [← hne] at hnb
  have hsb := spn_b hbb.1 hbb.2 (by omega) hsp
  have hp16 : 2 ^ bi ≤ 2 ^ 16 := Nat.pow_le_pow_right (by decide) hbb.2
  have hp2 : 2 ^ 2 ≤ 2 ^ bi := Nat.pow_le_pow_right (by decide) hbb.1
  refine lv_aload_n hx hb d_X_init_4 rfl (lv_at hl 0 rfl) ?_
  refine va_new (ci := 1) (fs := [.null, .int (nI 0)]) (C := R_B) (T := T_B) (N := 2) hx hb hg in_B ty_B tok_B hown (hg _ gw_22) (hg _ gw_23) (hg _ gw_2) hK hP hD hS hA rfl (fun j hj => by rcases (show j = 0 ∨ j = 1 by omega) with rfl | rfl <;> rfl) (Nat.le_of_ble_eq_true rfl) (Nat.le_of_ble_eq_true rfl) d_X_init_5 (fun br H hP hD hS => ?_)
  have hP : va_P D CLS [(x, .inr (4, [.int (nI 0), .int (nI 0), .int (nI 0), .int (nI 0), .int (nI 0), .null, .null, .null, .null, .int (nI 0)])), (br, .inr (1, [.null, .int (nI 0)]))] H := hP
  have hD : va_D A [(x, .inr (4, [.int (nI 0), .int (nI 0), .int (nI 0), .int (nI 0), .int (nI 0), .null, .null, .null, .null, .int (nI 0)])), (br, .inr (1, [.null, .int (nI 0)]))] := hD
  refine lv_dup hx hb d_X_init_8 rfl ?_
  have hPc := hP.sub (ws' := [(br, .inr (1, [.null, .int (nI 0)]))]) [1] rfl
  have hDc := hD.sub (ws' := [(br, .inr (1, [.null, .int (nI 0)]))]) [1] (by decide) rfl
  have hKc := hK.sub (tys' := []) [] rfl
  have hFc := va_free (wc := [(br, .inr (1, [.null, .int (nI 0)]))]) hD hS hA [1] rfl
  refine va_callv (va_runIN (As := []) (rest := [.ref br, .ref x]) ⟨hx, hb, hml, hown, hg⟩ (c_B_init l D H.size br) ⟨va_cnB 0 hg (gI gw_26) rfl rfl rfl (hN _ nw_24) (hg _ gw_2) (by decide +kernel) ⟨Nat.le_of_ble_eq_true rfl, Nat.le_of_ble_eq_true rfl⟩, rfl, (hg _ gw_25)⟩ ⟨fun a U g mk q => by obtain ⟨q0, q1, qP, qK, qD⟩ := q; exact ⟨q0, q1, qP, va_K.moved (u := U) (U := U.calling g mk a) (Vm.Alike.refl U.vm) qK, qD⟩, fun U hU hW => ⟨rfl, by rw [hU], by rw [hU]; exact hPc, va_K.moved hW.alike hKc, hDc.weaken (fun _ _ _ _ => trivial)⟩⟩ rfl rfl hl.1 rfl (lv_room (Nat.le_of_ble_eq_true rfl)) d_X_init_9 ⟨Nat.le_of_ble_eq_true rfl, Nat.le_of_ble_eq_true rfl⟩) hS (fun q _ h => hFc q h) hFc (fun u9 t9 H1 locs ht hvm hw hB hz1 hk1 hS => ?_)
  obtain ⟨ra, cB, hP1, hK1, hD1⟩ := hB
  rw [ht] at hP1
  have hK1 := va_K.moved hvm.symm hK1
  obtain ⟨hP, hD⟩ := va_join (wr := [(x, .inr (4, [.int (nI 0), .int (nI 0), .int (nI 0), .int (nI 0), .int (nI 0), .null, .null, .null, .null, .int (nI 0)]))]) (w1 := [(br, .inr (1, [.ref ra, .int (nI 0)])), (ra, .inl (cB, 6000, .inl (fun _ => 0)))]) hP hD [1] [0] rfl rfl (by decide) (by decide) hk1 hFc hP1 hD1
  have hK := hK.app hK1
  generalize H1 = H at hP hS ⊢
  have hP : va_P D CLS [(x, .inr (4, [.int (nI 0), .int (nI 0), .int (nI 0), .int (nI 0), .int (nI 0), .null, .null, .null, .null, .int (nI 0)])), (br, .inr (1, [.ref ra, .int (nI 0)])), (ra, .inl (cB, 6000, .inl (fun _ => 0)))] H := hP
  have hD : va_D A [(x, .inr (4, [.int (nI 0), .int (nI 0), .int (nI 0), .int (nI 0), .int (nI 0), .null, .null, .null, .null, .int (nI 0)])), (br, .inr (1, [.ref ra, .int (nI 0)])), (ra, .inl (cB, 6000, .inl (fun _ => 0)))] := hD
  have hK : va_K D CLS [(cB, .byte)] s := hK
  refine va_putF (D := D) (ci := 4) (v := .ref br) (ty := .object "LineGolomb$BitRow") (C := R_X) (T := T_X) (N := 10) hx hb hg in_X ty_X tok_X nm_X hown hK hP hD hS 0 rfl rfl 7 (by decide) (hg _ gw_123) (fun _ h9 => h9) rfl hin rfl (by decide +kernel) (rfl) (rfl) (Nat.le_of_ble_eq_true rfl) d_X_init_12 (fun H locs hP hD hS => ?_)
  have hP : va_P D CLS [(x, .inr (4, [.int (nI 0), .int (nI 0), .int (nI 0), .int (nI 0), .int (nI 0), .null, .null, .ref br, .null, .int (nI 0)])), (br, .inr (1, [.ref ra, .int (nI 0)])), (ra, .inl (cB, 6000, .inl (fun _ => 0)))] H := hP
  have hD : va_D A [(x, .inr (4, [.int (nI 0), .int (nI 0), .int (nI 0), .int (nI 0), .int (nI 0), .null, .null, .ref br, .null, .int (nI 0)])), (br, .inr (1, [.ref ra, .int (nI 0)])), (ra, .inl (cB, 6000, .inl (fun _ => 0)))] := hD
  refine lv_aload_n hx hb d_X_init_15 rfl (lv_at hl 0 rfl) ?_
  refine va_new (ci := 0) (fs := [.null, .int (nI 0), .int (nI 0)]) (C := R_Q) (T := T_Q) (N := 3) hx hb hg in_Q ty_Q tok_Q hown (hg _ gw_37) (hg _ gw_38) (hg _ gw_3) hK hP hD hS hA rfl (fun j hj => by rcases (show j = 0 ∨ j = 1 ∨ j = 2 by omega) with rfl | rfl | rfl <;> rfl) (Nat.le_of_ble_eq_true rfl) (Nat.le_of_ble_eq_true rfl) d_X_init_16 (fun bq H hP hD hS => ?_)
  have hP : va_P D CLS [(x, .inr (4, [.int (nI 0), .int (nI 0), .int (nI 0), .int (nI 0), .int (nI 0), .null, .null, .ref br, .null, .int (nI 0)])), (br, .inr (1, [.ref ra, .int (nI 0)])), (ra, .inl (cB, 6000, .inl (fun _ => 0))), (bq, .inr (0, [.null, .int (nI 0), .int (nI 0)]))] H := hP
  have hD : va_D A [(x, .inr (4, [.int (nI 0), .int (nI 0), .int (nI 0), .int (nI 0), .int (nI 0), .null, .null, .ref br, .null, .int (nI 0)])), (br, .inr (1, [.ref ra, .int (nI 0)])), (ra, .inl (cB, 6000, .inl (fun _ => 0))), (bq, .inr (0, [.null, .int (nI 0), .int (nI 0)]))] := hD
  refine lv_dup hx hb d_X_init_19 rfl ?_
  have hPc := hP.sub (ws' := [(bq, .inr (0, [.null, .int (nI 0), .int (nI 0)]))]) [3] rfl
  have hDc := hD.sub (ws' := [(bq, .inr (0, [.null, .int (nI 0), .int (nI 0)]))]) [3] (by decide) rfl
  have hKc := hK.sub (tys' := []) [] rfl
  have hFc := va_free (wc := [(bq, .inr (0, [.null, .int (nI 0), .int (nI 0)]))]) hD hS hA [3] rfl
  refine va_callv (va_runIN (As := []) (rest := [.ref bq, .ref x]) ⟨hx, hb, hml, hown, hg⟩ (c_Q_init l D H.size bq) ⟨va_cnB 0 hg (gI gw_41) rfl rfl rfl (hN _ nw_39) (hg _ gw_3) (by decide +kernel) ⟨Nat.le_of_ble_eq_true rfl, Nat.le_of_ble_eq_true rfl⟩, rfl, (hg _ gw_40)⟩ ⟨fun a U g mk q => by obtain ⟨q0, q1, qP, qK, qD⟩ := q; exact ⟨q0, q1, qP, va_K.moved (u := U) (U := U.calling g mk a) (Vm.Alike.refl U.vm) qK, qD⟩, fun U hU hW => ⟨rfl, by rw [hU], by rw [hU]; exact hPc, va_K.moved hW.alike hKc, hDc.weaken (fun _ _ _ _ => trivial)⟩⟩ rfl rfl hl.1 rfl (lv_room (Nat.le_of_ble_eq_true rfl)) d_X_init_20 ⟨Nat.le_of_ble_eq_true rfl, Nat.le_of_ble_eq_true rfl⟩) hS (fun q _ h => hFc q h) hFc (fun u9 t9 H1 locs ht hvm hw hB hz1 hk1 hS => ?_)
  obtain ⟨qa, cB2, hP1, hK1, hD1⟩ := hB
  rw [ht] at hP1
  have hK1 := va_K.moved hvm.symm hK1
  obtain ⟨hP, hD⟩ := va_join (wr := [(x, .inr (4, [.int (nI 0), .int (nI 0), .int (nI 0), .int (nI 0), .int (nI 0), .null, .null, .ref br, .null, .int (nI 0)])), (br, .inr (1, [.ref ra, .int (nI 0)])), (ra, .inl (cB, 6000, .inl (fun _ => 0)))]) (w1 := [(bq, .inr (0, [.ref qa, .int (nI 0), .int (nI 0)])), (qa, .inl (cB2, 1000, .inl (fun _ => 0)))]) hP hD [3] [0, 1, 2] rfl rfl (by decide) (by decide) hk1 hFc hP1 hD1
  have hK := hK.app hK1
  generalize H1 = H at hP hS ⊢
  have hP : va_P D CLS [(x, .inr (4, [.int (nI 0), .int (nI 0), .int (nI 0), .int (nI 0), .int (nI 0), .null, .null, .ref br, .null, .int (nI 0)])), (br, .inr (1, [.ref ra, .int (nI 0)])), (ra, .inl (cB, 6000, .inl (fun _ => 0))), (bq, .inr (0, [.ref qa, .int (nI 0), .int (nI 0)])), (qa, .inl (cB2, 1000, .inl (fun _ => 0)))] H := hP
  have hD : va_D A [(x, .inr (4, [.int (nI 0), .int (nI 0), .int (nI 0), .int (nI 0), .int (nI 0), .null, .null, .ref br, .null, .int (nI 0)])), (br, .inr (1, [.ref ra, .int (nI 0)])), (ra, .inl (cB, 6000, .inl (fun _ => 0))), (bq, .inr (0, [.ref qa, .int (nI 0), .int (nI 0)])), (qa, .inl (cB2, 1000, .inl (fun _ => 0)))] := hD
  have hK : va_K D CLS [(cB, .byte), (cB2, .byte)] s := hK
  obtain rfl : cB = cB2 := Option.some.inj ((hK.2 0 (cB, .byte) rfl).2.symm.trans (hK.2 1 (cB2, .byte) rfl).2)
  have hK := hK.sub (tys' := [(cB, .byte)]) [0] rfl
  have hP : va_P D CLS [(x, .inr (4, [.int (nI 0), .int (nI 0), .int (nI 0), .int (nI 0), .int (nI 0), .null, .null, .ref br, .null, .int (nI 0)])), (br, .inr (1, [.ref ra, .int (nI 0)])), (ra, .inl (cB, 6000, .inl (fun _ => 0))), (bq, .inr (0, [.ref qa, .int (nI 0), .int (nI 0)])), (qa, .inl (cB, 1000, .inl (fun _ => 0)))] H := hP
  have hD : va_D A [(x, .inr (4, [.int (nI 0), .int (nI 0), .int (nI 0), .int (nI 0), .int (nI 0), .null, .null, .ref br, .null, .int (nI 0)])), (br, .inr (1, [.ref ra, .int (nI 0)])), (ra, .inl (cB, 6000, .inl (fun _ => 0))), (bq, .inr (0, [.ref qa, .int (nI 0), .int (nI 0)])), (qa, .inl (cB, 1000, .inl (fun _ => 0)))] := hD
  refine va_putF (D := D) (ci := 4) (v := .ref bq) (ty := .object "LineGolomb$BitQueue") (C := R_X) (T := T_X) (N := 10) hx hb hg in_X ty_X tok_X nm_X hown hK hP hD hS 0 rfl rfl 8 (by decide) (hg _ gw_124) (fun _ h9 => h9) rfl hin rfl (by decide +kernel) (rfl) (rfl) (Nat.le_of_ble_eq_true rfl) d_X_init_23 (fun H locs hP hD hS => ?_)
  have hP : va_P D CLS [(x, .inr (4, [.int (nI 0), .int (nI 0), .int (nI 0), .int (nI 0), .int (nI 0), .null, .null, .ref br, .ref bq, .int (nI 0)])), (br, .inr (1, [.ref ra, .int (nI 0)])), (ra, .inl (cB, 6000, .inl (fun _ => 0))), (bq, .inr (0, [.ref qa, .int (nI 0), .int (nI 0)])), (qa, .inl (cB, 1000, .inl (fun _ => 0)))] H := hP
  have hD : va_D A [(x, .inr (4, [.int (nI 0), .int (nI 0), .int (nI 0), .int (nI 0), .int (nI 0), .null, .null, .ref br, .ref bq, .int (nI 0)])), (br, .inr (1, [.ref ra, .int (nI 0)])), (ra, .inl (cB, 6000, .inl (fun _ => 0))), (bq, .inr (0, [.ref qa, .int (nI 0), .int (nI 0)])), (qa, .inl (cB, 1000, .inl (fun _ => 0)))] := hD
  refine lv_aload_n hx hb d_X_init_26 rfl (lv_at hl 0 rfl) ?_
  refine lv_iload_n hx hb d_X_init_27 rfl (lv_at hl 1 rfl) ?_
  refine lv_iconst (v := 2) hx hb d_X_init_28 (by decide) ?_
  refine lv_bipush (v := 16) hx hb d_X_init_29 (by decide) ?_
  have hPc := hP.sub (ws' := []) [] rfl
  have hKc := hK.sub (tys' := []) [] rfl
  refine pci (va_runS (As := [.int p0, .int 2, .int 16]) (rest := [.ref x]) ⟨hx, hb, hml, hown, hg⟩ (c_X_nearest l D p0 2 16) (va_cwS 3 hg (gS gw_54 gw_55 gw_1 gw_56) rfl rfl rfl (by decide +kernel) ⟨Nat.le_of_ble_eq_true rfl, Nat.le_of_ble_eq_true rfl⟩) ⟨fun a U g mk q => by obtain ⟨q0, qP, qK⟩ := q; exact ⟨q0, qP, va_K.moved (u := U) (U := U.calling g mk a) (Vm.Alike.refl U.vm) qK⟩, fun U hU hW => ⟨rfl, by rw [hU]; exact hPc, va_K.moved hW.alike hKc⟩⟩ rfl rfl hl.1 rfl (lv_room (Nat.le_of_ble_eq_true rfl)) d_X_init_31 (⟨Nat.le_of_ble_eq_true rfl, Nat.le_of_ble_eq_true rfl⟩)) ?_
  refine tpi (y := nI bi) (by rw [hbi]; exact clpN p0 (a := 2) (b := 16) (by decide) (by decide)) ?_
  refine va_putF (D := D) (ci := 4) (v := .int (nI bi)) (ty := .int) (C := R_X) (T := T_X) (N := 10) hx hb hg in_X ty_X tok_X nm_X hown hK hP hD hS 0 rfl rfl 0 (by decide) (hg _ gw_116) (fun _ h9 => h9) rfl hin rfl (by decide +kernel) (rfl) (rfl) (Nat.le_of_ble_eq_true rfl) d_X_init_34 (fun H locs hP hD hS => ?_)
  have hP : va_P D CLS [(x, .inr (4, [.int (nI bi), .int (nI 0), .int (nI 0), .int (nI 0), .int (nI 0), .null, .null, .ref br, .ref bq, .int (nI 0)])), (br, .inr (1, [.ref ra, .int (nI 0)])), (ra, .inl (cB, 6000, .inl (fun _ => 0))), (bq, .inr (0, [.ref qa, .int (nI 0), .int (nI 0)])), (qa, .inl (cB, 1000, .inl (fun _ => 0)))] H := hP
  have hD : va_D A [(x, .inr (4, [.int (nI bi), .int (nI 0), .int (nI 0), .int (nI 0), .int (nI 0), .null, .null, .ref br, .ref bq, .int (nI 0)])), (br, .inr (1, [.ref ra, .int (nI 0)])), (ra, .inl (cB, 6000, .inl (fun _ => 0))), (bq, .inr (0, [.ref qa, .int (nI 0), .int (nI 0)])), (qa, .inl (cB, 1000, .inl (fun _ => 0)))] := hD
  refine lv_iconst (v := 1) hx hb d_X_init_37 (by decide) ?_
  refine lv_aload_n hx hb d_X_init_38 rfl (lv_at hl 0 rfl) ?_
  refine va_get (D := D) (ci := 4) (v := .int (nI bi)) (C := R_X) (T := T_X) (N := 10) hx hb hg in_X hown hK hP 0 rfl rfl 0 (by decide) (hg _ gw_116) (fun _ h9 => h9) rfl d_X_init_39 ?_
  refine lv_ishl hx hb d_X_init_42 ?_
  refine tpi (y := nI (2 ^ bi)) (sh1 (by omega)) ?_
  refine lv_iconst (v := 1) hx hb d_X_init_43 (by decide) ?_
  refine lv_isub hx hb d_X_init_44 ?_
  refine tpi (y := nI (2 ^ bi - 1)) (pk_sub (b := 1) (by omega)) ?_
  refine lv_istore (lv' := [(4, .int (nI (2 ^ bi - 1))), (0, .ref x), (1, .int p0), (2, .int p1), (3, .int p2)]) hx hb d_X_init_45 hl (by decide) rfl (fun ls hl => ?_)
  refine lv_aload_n hx hb d_X_init_47 rfl (lv_at hl 1 rfl) ?_
  refine lv_iload_n hx hb d_X_init_48 rfl (lv_at hl 3 rfl) ?_
  refine lv_iconst (v := 0) hx hb d_X_init_49 (by decide) ?_
  refine lv_sipush (v := 255) hx hb d_X_init_50 (by decide) ?_
  refine lv_iload hx hb d_X_init_53 (lv_at hl 0 rfl) ?_
  refine lv_iconst (v := 2) hx hb d_X_init_55 (by decide) ?_
  refine lv_idiv hx hb d_X_init_56 (by decide) ?_
  refine tpi (y := nI ((2 ^ bi - 1) / 2)) (div2 (by omega)) ?_
  refine va_mmin hx hb (hml.trans hl.1.symm) hown (hg _ gw_57) (hg _ gw_58) (hg _ gw_4) (hg _ gw_59) (Nat.le_of_ble_eq_true rfl) (Nat.le_of_ble_eq_true rfl) (Nat.le_of_ble_eq_true rfl) (Nat.le_of_ble_eq_true rfl) d_X_init_57 ?_
  refine tpi (y := nI (min 255 ((2 ^ bi - 1) / 2))) (minI (a := 255) (by omega) (by omega)) ?_
  have hPc := hP.sub (ws' := []) [] rfl
  have hKc := hK.sub (tys' := []) [] rfl
  refine pci (va_runS (As := [.int p1, .int 0, .int (nI (min 255 ((2 ^ bi - 1) / 2)))]) (rest := [.ref x]) ⟨hx, hb, hml, hown, hg⟩ (c_X_nearest l D p1 0 (nI (min 255 ((2 ^ bi - 1) / 2)))) (va_cwS 3 hg (gS gw_54 gw_55 gw_1 gw_56) rfl rfl rfl (by decide +kernel) ⟨Nat.le_of_ble_eq_true rfl, Nat.le_of_ble_eq_true rfl⟩) ⟨fun a U g mk q => by obtain ⟨q0, qP, qK⟩ := q; exact ⟨q0, qP, va_K.moved (u := U) (U := U.calling g mk a) (Vm.Alike.refl U.vm) qK⟩, fun U hU hW => ⟨rfl, by rw [hU]; exact hPc, va_K.moved hW.alike hKc⟩⟩ rfl rfl hl.1 rfl (lv_room (Nat.le_of_ble_eq_true rfl)) d_X_init_60 (⟨Nat.le_of_ble_eq_true rfl, Nat.le_of_ble_eq_true rfl⟩)) ?_
  refine tpi (y := nI ne) (by rw [hne]; exact clpN p1 (a := 0) (Nat.zero_le _) (by omega)) ?_
  refine va_putF (D := D) (ci := 4) (v := .int (nI ne)) (ty := .int) (C := R_X) (T := T_X) (N := 10) hx hb hg in_X ty_X tok_X nm_X hown hK hP hD hS 0 rfl rfl 1 (by decide) (hg _ gw_117) (fun _ h9 => h9) rfl hin rfl (by decide +kernel) (rfl) (rfl) (Nat.le_of_ble_eq_true rfl) d_X_init_63 (fun H locs hP hD hS => ?_)
  have hP : va_P D CLS [(x, .inr (4, [.int (nI bi), .int (nI ne), .int (nI 0), .int (nI 0), .int (nI 0), .null, .null, .ref br, .ref bq, .int (nI 0)])), (br, .inr (1, [.ref ra, .int (nI 0)])), (ra, .inl (cB, 6000, .inl (fun _ => 0))), (bq, .inr (0, [.ref qa, .int (nI 0), .int (nI 0)])), (qa, .inl (cB, 1000, .inl (fun _ => 0)))] H := hP
  have hD : va_D A [(x, .inr (4, [.int (nI bi), .int (nI ne), .int (nI 0), .int (nI 0), .int (nI 0), .null, .null, .ref br, .ref bq, .int (nI 0)])), (br, .inr (1, [.ref ra, .int (nI 0)])), (ra, .inl (cB, 6000, .inl (fun _ => 0))), (bq, .inr (0, [.ref qa, .int (nI 0), .int (nI 0)])), (qa, .inl (cB, 1000, .inl (fun _ => 0)))] := hD
  refine lv_aload_n hx hb d_X_init_66 rfl (lv_at hl 1 rfl) ?_
  refine lv_iload hx hb d_X_init_67 (lv_at hl 0 rfl) ?_
  refine lv_iconst (v := 2) hx hb d_X_init_69 (by decide) ?_
  refine lv_aload_n hx hb d_X_init_70 rfl (lv_at hl 1 rfl) ?_
  refine va_get (D := D) (ci := 4) (v := .int (nI ne)) (C := R_X) (T := T_X) (N := 10) hx hb hg in_X hown hK hP 0 rfl rfl 1 (by decide) (hg _ gw_117) (fun _ h9 => h9) rfl d_X_init_71 ?_
  refine lv_imul hx hb d_X_init_74 ?_
  refine tpi (y := nI (2 * ne)) (mul2 ne) ?_
  refine lv_iadd hx hb d_X_init_75 ?_
  refine tpi (y := nI (2 ^ bi - 1 + 2 * ne)) (nI_add _ _) ?_
  refine lv_iconst (v := 2) hx hb d_X_init_76 (by decide) ?_
  refine lv_aload_n hx hb d_X_init_77 rfl (lv_at hl 1 rfl) ?_
  refine va_get (D := D) (ci := 4) (v := .int (nI ne)) (C := R_X) (T := T_X) (N := 10) hx hb hg in_X hown hK hP 0 rfl rfl 1 (by decide) (hg _ gw_117) (fun _ h9 => h9) rfl d_X_init_78 ?_
  refine lv_imul hx hb d_X_init_81 ?_
  refine tpi (y := nI (2 * ne)) (mul2 ne) ?_
  refine lv_iconst (v := 1) hx hb d_X_init_82 (by decide) ?_
  refine lv_iadd hx hb d_X_init_83 ?_
  refine tpi (y := nI (2 * ne + 1)) (nI_1 _) ?_
  refine lv_idiv hx hb d_X_init_84 (nI_ne0 (by omega) (by omega)) ?_
  refine tpi (y := nI ((2 ^ bi - 1 + 2 * ne) / (2 * ne + 1))) (pk_dv (by omega) (by omega) (by omega)) ?_
  refine lv_iconst (v := 1) hx hb d_X_init_85 (by decide) ?_
  refine lv_iadd hx hb d_X_init_86 ?_
  refine tpi (y := nI sp) (by rw [hsp]; exact nI_1 _) ?_
  refine va_putF (D := D) (ci := 4) (v := .int (nI sp)) (ty := .int) (C := R_X) (T := T_X) (N := 10) hx hb hg in_X ty_X tok_X nm_X hown hK hP hD hS 0 rfl rfl 3 (by decide) (hg _ gw_119) (fun _ h9 => h9) rfl hin rfl (by decide +kernel) (rfl) (rfl) (Nat.le_of_ble_eq_true rfl) d_X_init_87 (fun H locs hP hD hS => ?_)
  have hP : va_P D CLS [(x, .inr (4, [.int (nI bi), .int (nI ne), .int (nI 0), .int (nI sp), .int (nI 0), .null, .null, .ref br, .ref bq, .int (nI 0)])), (br, .inr (1, [.ref ra, .int (nI 0)])), (ra, .inl (cB, 6000, .inl (fun _ => 0))), (bq, .inr (0, [.ref qa, .int (nI 0), .int (nI 0)])), (qa, .inl (cB, 1000, .inl (fun _ => 0)))] H := hP
  have hD : va_D A [(x, .inr (4, [.int (nI bi), .int (nI ne), .int (nI 0), .int (nI sp), .int (nI 0), .null, .null, .ref br, .ref bq, .int (nI 0)])), (br, .inr (1, [.ref ra, .int (nI 0)])), (ra, .inl (cB, 6000, .inl (fun _ => 0))), (bq, .inr (0, [.ref qa, .int (nI 0), .int (nI 0)])), (qa, .inl (cB, 1000, .inl (fun _ => 0)))] := hD
  refine lv_aload_n hx hb d_X_init_90 rfl (lv_at hl 1 rfl) ?_
  refine lv_aload_n hx hb d_X_init_91 rfl (lv_at hl 1 rfl) ?_
  refine va_get (D := D) (ci := 4) (v := .int (nI sp)) (C := R_X) (T := T_X) (N := 10) hx hb hg in_X hown hK hP 0 rfl rfl 3 (by decide) (hg _ gw_119) (fun _ h9 => h9) rfl d_X_init_92 ?_
  have hPc := hP.sub (ws' := []) [] rfl
  have hKc := hK.sub (tys' := []) [] rfl
  refine pci (va_runS (As := [.int (nI sp)]) (rest := [.ref x]) ⟨hx, hb, hml, hown, hg⟩ (c_X_bitsFor l D sp q (by omega) (by omega) hq1 hq2) (va_cwS 1 hg (gS gw_63 gw_64 gw_1 gw_65) rfl rfl rfl (by decide +kernel) ⟨Nat.le_of_ble_eq_true rfl, Nat.le_of_ble_eq_true rfl⟩) ⟨fun a U g mk q => by obtain ⟨q0, qP, qK⟩ := q; exact ⟨q0, qP, va_K.moved (u := U) (U := U.calling g mk a) (Vm.Alike.refl U.vm) qK⟩, fun U hU hW => ⟨rfl, by rw [hU]; exact hPc, va_K.moved hW.alike hKc⟩⟩ rfl rfl hl.1 rfl (lv_room (Nat.le_of_ble_eq_true rfl)) d_X_init_95 (⟨Nat.le_of_ble_eq_true rfl, Nat.le_of_ble_eq_true rfl⟩)) ?_
  refine va_putF (D := D) (ci := 4) (v := .int (nI q)) (ty := .int) (C := R_X) (T := T_X) (N := 10) hx hb hg in_X ty_X tok_X nm_X hown hK hP hD hS 0 rfl rfl 4 (by decide) (hg _ gw_120) (fun _ h9 => h9) rfl hin rfl (by decide +kernel) (rfl) (rfl) (Nat.le_of_ble_eq_true rfl) d_X_init_98 (fun H locs hP hD hS => ?_)
  have hP : va_P D CLS [(x, .inr (4, [.int (nI bi), .int (nI ne), .int (nI 0), .int (nI sp), .int (nI q), .null, .null, .ref br, .ref bq, .int (nI 0)])), (br, .inr (1, [.ref ra, .int (nI 0)])), (ra, .inl (cB, 6000, .inl (fun _ => 0))), (bq, .inr (0, [.ref qa, .int (nI 0), .int (nI 0)])), (qa, .inl (cB, 1000, .inl (fun _ => 0)))] H := hP
  have hD : va_D A [(x, .inr (4, [.int (nI bi), .int (nI ne), .int (nI 0), .int (nI sp), .int (nI q), .null, .null, .ref br, .ref bq, .int (nI 0)])), (br, .inr (1, [.ref ra, .int (nI 0)])), (ra, .inl (cB, 6000, .inl (fun _ => 0))), (bq, .inr (0, [.ref qa, .int (nI 0), .int (nI 0)])), (qa, .inl (cB, 1000, .inl (fun _ => 0)))] := hD
  refine lv_aload_n hx hb d_X_init_101 rfl (lv_at hl 1 rfl) ?_
  refine lv_iload_n hx hb d_X_init_102 rfl (lv_at hl 4 rfl) ?_
  refine lv_aload_n hx hb d_X_init_103 rfl (lv_at hl 1 rfl) ?_
  refine va_get (D := D) (ci := 4) (v := .int (nI q)) (C := R_X) (T := T_X) (N := 10) hx hb hg in_X hown hK hP 0 rfl rfl 4 (by decide) (hg _ gw_120) (fun _ h9 => h9) rfl d_X_init_104 ?_
  refine lv_bipush (v := 18) hx hb d_X_init_107 (by decide) ?_
  refine lv_iadd hx hb d_X_init_109 ?_
  refine tpi (y := nI (q + 18)) (nI_add q 18) ?_
  refine lv_sipush (v := 200) hx hb d_X_init_110 (by decide) ?_
  have hPc := hP.sub (ws' := []) [] rfl
  have hKc := hK.sub (tys' := []) [] rfl
  refine pci (va_runS (As := [.int p2, .int (nI (q + 18)), .int 200]) (rest := [.ref x]) ⟨hx, hb, hml, hown, hg⟩ (c_X_nearest l D p2 (nI (q + 18)) 200) (va_cwS 3 hg (gS gw_54 gw_55 gw_1 gw_56) rfl rfl rfl (by decide +kernel) ⟨Nat.le_of_ble_eq_true rfl, Nat.le_of_ble_eq_true rfl⟩) ⟨fun a U g mk q => by obtain ⟨q0, qP, qK⟩ := q; exact ⟨q0, qP, va_K.moved (u := U) (U := U.calling g mk a) (Vm.Alike.refl U.vm) qK⟩, fun U hU hW => ⟨rfl, by rw [hU]; exact hPc, va_K.moved hW.alike hKc⟩⟩ rfl rfl hl.1 rfl (lv_room (Nat.le_of_ble_eq_true rfl)) d_X_init_113 (⟨Nat.le_of_ble_eq_true rfl, Nat.le_of_ble_eq_true rfl⟩)) ?_
  refine tpi (y := nI li) (by rw [hli]; exact clpN p2 (b := 200) (by omega) (by decide)) ?_
  refine va_putF (D := D) (ci := 4) (v := .int (nI li)) (ty := .int) (C := R_X) (T := T_X) (N := 10) hx hb hg in_X ty_X tok_X nm_X hown hK hP hD hS 0 rfl rfl 2 (by decide) (hg _ gw_118) (fun _ h9 => h9) rfl hin rfl (by decide +kernel) (rfl) (rfl) (Nat.le_of_ble_eq_true rfl) d_X_init_116 (fun H locs hP hD hS => ?_)
  have hP : va_P D CLS [(x, .inr (4, [.int (nI bi), .int (nI ne), .int (nI li), .int (nI sp), .int (nI q), .null, .null, .ref br, .ref bq, .int (nI 0)])), (br, .inr (1, [.ref ra, .int (nI 0)])), (ra, .inl (cB, 6000, .inl (fun _ => 0))), (bq, .inr (0, [.ref qa, .int (nI 0), .int (nI 0)])), (qa, .inl (cB, 1000, .inl (fun _ => 0)))] H := hP
  have hD : va_D A [(x, .inr (4, [.int (nI bi), .int (nI ne), .int (nI li), .int (nI sp), .int (nI q), .null, .null, .ref br, .ref bq, .int (nI 0)])), (br, .inr (1, [.ref ra, .int (nI 0)])), (ra, .inl (cB, 6000, .inl (fun _ => 0))), (bq, .inr (0, [.ref qa, .int (nI 0), .int (nI 0)])), (qa, .inl (cB, 1000, .inl (fun _ => 0)))] := hD
  refine lv_iconst (v := 2) hx hb d_X_init_119 (by decide) ?_
  refine lv_aload_n hx hb d_X_init_120 rfl (lv_at hl 1 rfl) ?_
  refine va_get (D := D) (ci := 4) (v := .int (nI sp)) (C := R_X) (T := T_X) (N := 10) hx hb hg in_X hown hK hP 0 rfl rfl 3 (by decide) (hg _ gw_119) (fun _ h9 => h9) rfl d_X_init_121 ?_
  refine lv_bipush (v := 32) hx hb d_X_init_124 (by decide) ?_
  refine lv_iadd hx hb d_X_init_126 ?_
  refine tpi (y := nI (sp + 32)) (nI_add sp 32) ?_
  refine lv_bipush (v := 64) hx hb d_X_init_127 (by decide) ?_
  refine lv_idiv hx hb d_X_init_129 (by decide) ?_
  refine tpi (y := nI ((sp + 32) / 64)) (pk_div (d := 64) (by omega) (by decide) (by decide)) ?_
  refine va_mmax hx hb (hml.trans hl.1.symm) hown (hg _ gw_60) (hg _ gw_61) (hg _ gw_4) (hg _ gw_62) (Nat.le_of_ble_eq_true rfl) (Nat.le_of_ble_eq_true rfl) (Nat.le_of_ble_eq_true rfl) (Nat.le_of_ble_eq_true rfl) d_X_init_130 ?_
  refine tpi (y := nI fs) (by rw [hfs]; exact mxfs (by omega)) ?_
  refine lv_istore (lv' := [(5, .int (nI fs)), (4, .int (nI (2 ^ bi - 1))), (0, .ref x), (1, .int p0), (2, .int p1), (3, .int p2)]) hx hb d_X_init_133 hl (by decide) rfl (fun ls hl => ?_)
  refine lv_aload_n hx hb d_X_init_135 rfl (lv_at hl 2 rfl) ?_
  refine va_new (ci := 3) (fs := [.null, .null, .int (nI 0), .int (nI 0)]) (C := R_S) (T := T_S) (N := 4) hx hb hg in_S ty_S tok_S hown (hg _ gw_66) (hg _ gw_67) (hg _ gw_5) hK hP hD hS hA rfl (fun j hj => by rcases (show j = 0 ∨ j = 1 ∨ j = 2 ∨ j = 3 by omega) with rfl | rfl | rfl | rfl <;> rfl) (Nat.le_of_ble_eq_true rfl) (Nat.le_of_ble_eq_true rfl) d_X_init_136 (fun sw H hP hD hS => ?_)
  have hP : va_P D CLS [(x, .inr (4, [.int (nI bi), .int (nI ne), .int (nI li), .int (nI sp), .int (nI q), .null, .null, .ref br, .ref bq, .int (nI 0)])), (br, .inr (1, [.ref ra, .int (nI 0)])), (ra, .inl (cB, 6000, .inl (fun _ => 0))), (bq, .inr (0, [.ref qa, .int (nI 0), .int (nI 0)])), (qa, .inl (cB, 1000, .inl (fun _ => 0))), (sw, .inr (3, [.null, .null, .int (nI 0), .int (nI 0)]))] H := hP
  have hD : va_D A [(x, .inr (4, [.int (nI bi), .int (nI ne), .int (nI li), .int (nI sp), .int (nI q), .null, .null, .ref br, .ref bq, .int (nI 0)])), (br, .inr (1, [.ref ra, .int (nI 0)])), (ra, .inl (cB, 6000, .inl (fun _ => 0))), (bq, .inr (0, [.ref qa, .int (nI 0), .int (nI 0)])), (qa, .inl (cB, 1000, .inl (fun _ => 0))), (sw, .inr (3, [.null, .null, .int (nI 0), .int (nI 0)]))] := hD
  refine lv_dup hx hb d_X_init_139 rfl ?_
  refine lv_iload hx hb d_X_init_140 (lv_at hl 0 rfl) ?_
  have hPc := hP.sub (ws' := [(sw, .inr (3, [.null, .null, .int (nI 0), .int (nI 0)]))]) [5] rfl
  have hDc := hD.sub (ws' := [(sw, .inr (3, [.null, .null, .int (nI 0), .int (nI 0)]))]) [5] (by decide) rfl
  have hKc := hK.sub (tys' := []) [] rfl
  have hFc := va_free (wc := [(sw, .inr (3, [.null, .null, .int (nI 0), .int (nI 0)]))]) hD hS hA [5] rfl
  refine va_callv (va_runI (As := [.int (nI fs)]) (rest := [.ref sw, .ref x]) ⟨hx, hb, hml, hown, hg⟩ (c_S_init l D H.size sw fs) (cwI 1 hg (gI gw_70) rfl rfl rfl (hg _ gw_5) (hg _ gw_68) (hg _ gw_69) rfl (by decide +kernel) ⟨Nat.le_of_ble_eq_true rfl, Nat.le_of_ble_eq_true rfl⟩) ⟨fun a U g mk q => by obtain ⟨q0, q1, qP, qK, qD⟩ := q; exact ⟨q0, q1, qP, va_K.moved (u := U) (U := U.calling g mk a) (Vm.Alike.refl U.vm) qK, qD⟩, fun U hU hW => ⟨rfl, by rw [hU], by rw [hU]; exact hPc, va_K.moved hW.alike hKc, hDc.weaken (fun _ _ _ _ => trivial)⟩⟩ rfl rfl hl.1 rfl (lv_room (Nat.le_of_ble_eq_true rfl)) d_X_init_142 ⟨Nat.le_of_ble_eq_true rfl, Nat.le_of_ble_eq_true rfl⟩) hS (fun q _ h => hFc q h) hFc (fun u9 t9 H1 locs ht hvm hw hB hz1 hk1 hS => ?_)
  obtain ⟨e00, e01, hP1, hK1, hD1⟩ := hB
  rw [ht] at hP1
  have hK1 := va_K.moved hvm.symm hK1
  obtain ⟨hP, hD⟩ := va_join (wr := [(x, .inr (4, [.int (nI bi), .int (nI ne), .int (nI li), .int (nI sp), .int (nI q), .null, .null, .ref br, .ref bq, .int (nI 0)])), (br, .inr (1, [.ref ra, .int (nI 0)])), (ra, .inl (cB, 6000, .inl (fun _ => 0))), (bq, .inr (0, [.ref qa, .int (nI 0), .int (nI 0)])), (qa, .inl (cB, 1000, .inl (fun _ => 0)))]) (w1 := [(sw, .inr (3, [.ref e00, .ref e01, .int (nI 0), .int (nI 0)])), (e00, .inr (2, [.int 0, .int (nI fs), .int (nI fs), .int (nI 1), .int (nI 0)])), (e01, .inr (2, [.int 1, .int (nI fs), .int (nI fs), .int (nI 1), .int (nI 0)]))]) hP hD [5] [0, 1, 2, 3, 4] rfl rfl (by decide) (by decide) hk1 hFc hP1 hD1
  have hK := hK.app hK1
  generalize H1 = H at hP hS ⊢
  have hP : va_P D CLS [(x, .inr (4, [.int (nI bi), .int (nI ne), .int (nI li), .int (nI sp), .int (nI q), .null, .null, .ref br, .ref bq, .int (nI 0)])), (br, .inr (1, [.ref ra, .int (nI 0)])), (ra, .inl (cB, 6000, .inl (fun _ => 0))), (bq, .inr (0, [.ref qa, .int (nI 0), .int (nI 0)])), (qa, .inl (cB, 1000, .inl (fun _ => 0))), (sw, .inr (3, [.ref e00, .ref e01, .int (nI 0), .int (nI 0)])), (e00, .inr (2, [.int 0, .int (nI fs), .int (nI fs), .int (nI 1), .int (nI 0)])), (e01, .inr (2, [.int 1, .int (nI fs), .int (nI fs), .int (nI 1), .int (nI 0)]))] H := hP
  have hD : va_D A [(x, .inr (4, [.int (nI bi), .int (nI ne), .int (nI li), .int (nI sp), .int (nI q), .null, .null, .ref br, .ref bq, .int (nI 0)])), (br, .inr (1, [.ref ra, .int (nI 0)])), (ra, .inl (cB, 6000, .inl (fun _ => 0))), (bq, .inr (0, [.ref qa, .int (nI 0), .int (nI 0)])), (qa, .inl (cB, 1000, .inl (fun _ => 0))), (sw, .inr (3, [.ref e00, .ref e01, .int (nI 0), .int (nI 0)])), (e00, .inr (2, [.int 0, .int (nI fs), .int (nI fs), .int (nI 1), .int (nI 0)])), (e01, .inr (2, [.int 1, .int (nI fs), .int (nI fs), .int (nI 1), .int (nI 0)]))] := hD
  have hK : va_K D CLS [(cB, .byte)] s := hK
  refine va_putF (D := D) (ci := 4) (v := .ref sw) (ty := .object "LineGolomb$Side") (C := R_X) (T := T_X) (N := 10) hx hb hg in_X ty_X tok_X nm_X hown hK hP hD hS 0 rfl rfl 5 (by decide) (hg _ gw_121) (fun _ h9 => h9) rfl hin rfl (by decide +kernel) (rfl) (rfl) (Nat.le_of_ble_eq_true rfl) d_X_init_145 (fun H locs hP hD hS => ?_)
  have hP : va_P D CLS [(x, .inr (4, [.int (nI bi), .int (nI ne), .int (nI li), .int (nI sp), .int (nI q), .ref sw, .null, .ref br, .ref bq, .int (nI 0)])), (br, .inr (1, [.ref ra, .int (nI 0)])), (ra, .inl (cB, 6000, .inl (fun _ => 0))), (bq, .inr (0, [.ref qa, .int (nI 0), .int (nI 0)])), (qa, .inl (cB, 1000, .inl (fun _ => 0))), (sw, .inr (3, [.ref e00, .ref e01, .int (nI 0), .int (nI 0)])), (e00, .inr (2, [.int 0, .int (nI fs), .int (nI fs), .int (nI 1), .int (nI 0)])), (e01, .inr (2, [.int 1, .int (nI fs), .int (nI fs), .int (nI 1), .int (nI 0)]))] H := hP
  have hD : va_D A [(x, .inr (4, [.int (nI bi), .int (nI ne), .int (nI li), .int (nI sp), .int (nI q), .ref sw, .null, .ref br, .ref bq, .int (nI 0)])), (br, .inr (1, [.ref ra, .int (nI 0)])), (ra, .inl (cB, 6000, .inl (fun _ => 0))), (bq, .inr (0, [.ref qa, .int (nI 0), .int (nI 0)])), (qa, .inl (cB, 1000, .inl (fun _ => 0))), (sw, .inr (3, [.ref e00, .ref e01, .int (nI 0), .int (nI 0)])), (e00, .inr (2, [.int 0, .int (nI fs), .int (nI fs), .int (nI 1), .int (nI 0)])), (e01, .inr (2, [.int 1, .int (nI fs), .int (nI fs), .int (nI 1), .int (nI 0)]))] := hD
  refine lv_aload_n hx hb d_X_init_148 rfl (lv_at hl 2 rfl) ?_
  refine va_new (ci := 3) (fs := [.null, .null, .int (nI 0), .int (nI 0)]) (C := R_S) (T := T_S) (N := 4) hx hb hg in_S ty_S tok_S hown (hg _ gw_66) (hg _ gw_67) (hg _ gw_5) hK hP hD hS hA rfl (fun j hj => by rcases (show j = 0 ∨ j = 1 ∨ j = 2 ∨ j = 3 by omega) with rfl | rfl | rfl | rfl <;> rfl) (Nat.le_of_ble_eq_true rfl) (Nat.le_of_ble_eq_true rfl) d_X_init_149 (fun sr H hP hD hS => ?_)
  have hP : va_P D CLS [(x, .inr (4, [.int (nI bi), .int (nI ne), .int (nI li), .int (nI sp), .int (nI q), .ref sw, .null, .ref br, .ref bq, .int (nI 0)])), (br, .inr (1, [.ref ra, .int (nI 0)])), (ra, .inl (cB, 6000, .inl (fun _ => 0))), (bq, .inr (0, [.ref qa, .int (nI 0), .int (nI 0)])), (qa, .inl (cB, 1000, .inl (fun _ => 0))), (sw, .inr (3, [.ref e00, .ref e01, .int (nI 0), .int (nI 0)])), (e00, .inr (2, [.int 0, .int (nI fs), .int (nI fs), .int (nI 1), .int (nI 0)])), (e01, .inr (2, [.int 1, .int (nI fs), .int (nI fs), .int (nI 1), .int (nI 0)])), (sr, .inr (3, [.null, .null, .int (nI 0), .int (nI 0)]))] H := hP
  have hD : va_D A [(x, .inr (4, [.int (nI bi), .int (nI ne), .int (nI li), .int (nI sp), .int (nI q), .ref sw, .null, .ref br, .ref bq, .int (nI 0)])), (br, .inr (1, [.ref ra, .int (nI 0)])), (ra, .inl (cB, 6000, .inl (fun _ => 0))), (bq, .inr (0, [.ref qa, .int (nI 0), .int (nI 0)])), (qa, .inl (cB, 1000, .inl (fun _ => 0))), (sw, .inr (3, [.ref e00, .ref e01, .int (nI 0), .int (nI 0)])), (e00, .inr (2, [.int 0, .int (nI fs), .int (nI fs), .int (nI 1), .int (nI 0)])), (e01, .inr (2, [.int 1, .int (nI fs), .int (nI fs), .int (nI 1), .int (nI 0)])), (sr, .inr (3, [.null, .null, .int (nI 0), .int (nI 0)]))] := hD
  refine lv_dup hx hb d_X_init_152 rfl ?_
  refine lv_iload hx hb d_X_init_153 (lv_at hl 0 rfl) ?_
  have hPc := hP.sub (ws' := [(sr, .inr (3, [.null, .null, .int (nI 0), .int (nI 0)]))]) [8] rfl
  have hDc := hD.sub (ws' := [(sr, .inr (3, [.null, .null, .int (nI 0), .int (nI 0)]))]) [8] (by decide) rfl
  have hKc := hK.sub (tys' := []) [] rfl
  have hFc := va_free (wc := [(sr, .inr (3, [.null, .null, .int (nI 0), .int (nI 0)]))]) hD hS hA [8] rfl
  refine va_callv (va_runI (As := [.int (nI fs)]) (rest := [.ref sr, .ref x]) ⟨hx, hb, hml, hown, hg⟩ (c_S_init l D H.size sr fs) (cwI 1 hg (gI gw_70) rfl rfl rfl (hg _ gw_5) (hg _ gw_68) (hg _ gw_69) rfl (by decide +kernel) ⟨Nat.le_of_ble_eq_true rfl, Nat.le_of_ble_eq_true rfl⟩) ⟨fun a U g mk q => by obtain ⟨q0, q1, qP, qK, qD⟩ := q; exact ⟨q0, q1, qP, va_K.moved (u := U) (U := U.calling g mk a) (Vm.Alike.refl U.vm) qK, qD⟩, fun U hU hW => ⟨rfl, by rw [hU], by rw [hU]; exact hPc, va_K.moved hW.alike hKc, hDc.weaken (fun _ _ _ _ => trivial)⟩⟩ rfl rfl hl.1 rfl (lv_room (Nat.le_of_ble_eq_true rfl)) d_X_init_155 ⟨Nat.le_of_ble_eq_true rfl, Nat.le_of_ble_eq_true rfl⟩) hS (fun q _ h => hFc q h) hFc (fun u9 t9 H1 locs ht hvm hw hB hz1 hk1 hS => ?_)
  obtain ⟨e10, e11, hP1, hK1, hD1⟩ := hB
  rw [ht] at hP1
  have hK1 := va_K.moved hvm.symm hK1
  obtain ⟨hP, hD⟩ := va_join (wr := [(x, .inr (4, [.int (nI bi), .int (nI ne), .int (nI li), .int (nI sp), .int (nI q), .ref sw, .null, .ref br, .ref bq, .int (nI 0)])), (br, .inr (1, [.ref ra, .int (nI 0)])), (ra, .inl (cB, 6000, .inl (fun _ => 0))), (bq, .inr (0, [.ref qa, .int (nI 0), .int (nI 0)])), (qa, .inl (cB, 1000, .inl (fun _ => 0))), (sw, .inr (3, [.ref e00, .ref e01, .int (nI 0), .int (nI 0)])), (e00, .inr (2, [.int 0, .int (nI fs), .int (nI fs), .int (nI 1), .int (nI 0)])), (e01, .inr (2, [.int 1, .int (nI fs), .int (nI fs), .int (nI 1), .int (nI 0)]))]) (w1 := [(sr, .inr (3, [.ref e10, .ref e11, .int (nI 0), .int (nI 0)])), (e10, .inr (2, [.int 0, .int (nI fs), .int (nI fs), .int (nI 1), .int (nI 0)])), (e11, .inr (2, [.int 1, .int (nI fs), .int (nI fs), .int (nI 1), .int (nI 0)]))]) hP hD [8] [0, 1, 2, 3, 4, 5, 6, 7] rfl rfl (by decide) (by decide) hk1 hFc hP1 hD1
  have hK := hK.app hK1
  generalize H1 = H at hP hS ⊢
  have hP : va_P D CLS [(x, .inr (4, [.int (nI bi), .int (nI ne), .int (nI li), .int (nI sp), .int (nI q), .ref sw, .null, .ref br, .ref bq, .int (nI 0)])), (br, .inr (1, [.ref ra, .int (nI 0)])), (ra, .inl (cB, 6000, .inl (fun _ => 0))), (bq, .inr (0, [.ref qa, .int (nI 0), .int (nI 0)])), (qa, .inl (cB, 1000, .inl (fun _ => 0))), (sw, .inr (3, [.ref e00, .ref e01, .int (nI 0), .int (nI 0)])), (e00, .inr (2, [.int 0, .int (nI fs), .int (nI fs), .int (nI 1), .int (nI 0)])), (e01, .inr (2, [.int 1, .int (nI fs), .int (nI fs), .int (nI 1), .int (nI 0)])), (sr, .inr (3, [.ref e10, .ref e11, .int (nI 0), .int (nI 0)])), (e10, .inr (2, [.int 0, .int (nI fs), .int (nI fs), .int (nI 1), .int (nI 0)])), (e11, .inr (2, [.int 1, .int (nI fs), .int (nI fs), .int (nI 1), .int (nI 0)]))] H := hP
  have hD : va_D A [(x, .inr (4, [.int (nI bi), .int (nI ne), .int (nI li), .int (nI sp), .int (nI q), .ref sw, .null, .ref br, .ref bq, .int (nI 0)])), (br, .inr (1, [.ref ra, .int (nI 0)])), (ra, .inl (cB, 6000, .inl (fun _ => 0))), (bq, .inr (0, [.ref qa, .int (nI 0), .int (nI 0)])), (qa, .inl (cB, 1000, .inl (fun _ => 0))), (sw, .inr (3, [.ref e00, .ref e01, .int (nI 0), .int (nI 0)])), (e00, .inr (2, [.int 0, .int (nI fs), .int (nI fs), .int (nI 1), .int (nI 0)])), (e01, .inr (2, [.int 1, .int (nI fs), .int (nI fs), .int (nI 1), .int (nI 0)])), (sr, .inr (3, [.ref e10, .ref e11, .int (nI 0), .int (nI 0)])), (e10, .inr (2, [.int 0, .int (nI fs), .int (nI fs), .int (nI 1), .int (nI 0)])), (e11, .inr (2, [.int 1, .int (nI fs), .int (nI fs), .int (nI 1), .int (nI 0)]))] := hD
  have hK : va_K D CLS [(cB, .byte)] s := hK
  refine va_putF (D := D) (ci := 4) (v := .ref sr) (ty := .object "LineGolomb$Side") (C := R_X) (T := T_X) (N := 10) hx hb hg in_X ty_X tok_X nm_X hown hK hP hD hS 0 rfl rfl 6 (by decide) (hg _ gw_122) (fun _ h9 => h9) rfl hin rfl (by decide +kernel) (rfl) (rfl) (Nat.le_of_ble_eq_true rfl) d_X_init_158 (fun H locs hP hD hS => ?_)
  have hP : va_P D CLS [(x, .inr (4, [.int (nI bi), .int (nI ne), .int (nI li), .int (nI sp), .int (nI q), .ref sw, .ref sr, .ref br, .ref bq, .int (nI 0)])), (br, .inr (1, [.ref ra, .int (nI 0)])), (ra, .inl (cB, 6000, .inl (fun _ => 0))), (bq, .inr (0, [.ref qa, .int (nI 0), .int (nI 0)])), (qa, .inl (cB, 1000, .inl (fun _ => 0))), (sw, .inr (3, [.ref e00, .ref e01, .int (nI 0), .int (nI 0)])), (e00, .inr (2, [.int 0, .int (nI fs), .int (nI fs), .int (nI 1), .int (nI 0)])), (e01, .inr (2, [.int 1, .int (nI fs), .int (nI fs), .int (nI 1), .int (nI 0)])), (sr, .inr (3, [.ref e10, .ref e11, .int (nI 0), .int (nI 0)])), (e10, .inr (2, [.int 0, .int (nI fs), .int (nI fs), .int (nI 1), .int (nI 0)])), (e11, .inr (2, [.int 1, .int (nI fs), .int (nI fs), .int (nI 1), .int (nI 0)]))] H := hP
  have hD : va_D A [(x, .inr (4, [.int (nI bi), .int (nI ne), .int (nI li), .int (nI sp), .int (nI q), .ref sw, .ref sr, .ref br, .ref bq, .int (nI 0)])), (br, .inr (1, [.ref ra, .int (nI 0)])), (ra, .inl (cB, 6000, .inl (fun _ => 0))), (bq, .inr (0, [.ref qa, .int (nI 0), .int (nI 0)])), (qa, .inl (cB, 1000, .inl (fun _ => 0))), (sw, .inr (3, [.ref e00, .ref e01, .int (nI 0), .int (nI 0)])), (e00, .inr (2, [.int 0, .int (nI fs), .int (nI fs), .int (nI 1), .int (nI 0)])), (e01, .inr (2, [.int 1, .int (nI fs), .int (nI fs), .int (nI 1), .int (nI 0)])), (sr, .inr (3, [.ref e10, .ref e11, .int (nI 0), .int (nI 0)])), (e10, .inr (2, [.int 0, .int (nI fs), .int (nI fs), .int (nI 1), .int (nI 0)])), (e11, .inr (2, [.int 1, .int (nI fs), .int (nI fs), .int (nI 1), .int (nI 0)]))] := hD
  have hP9 := hP.sub (ws' := [(x, .inr (4, [.int (nI bi), .int (nI ne), .int (nI li), .int (nI sp), .int (nI q), .ref sw, .ref sr, .ref br, .ref bq, .int (nI 0)])), (sw, .inr (3, [.ref e00, .ref e01, .int (nI 0), .int (nI 0)])), (e00, .inr (2, [.int 0, .int (nI fs), .int (nI fs), .int (nI 1), .int (nI 0)])), (e01, .inr (2, [.int 1, .int (nI fs), .int (nI fs), .int (nI 1), .int (nI 0)])), (sr, .inr (3, [.ref e10, .ref e11, .int (nI 0), .int (nI 0)])), (e10, .inr (2, [.int 0, .int (nI fs), .int (nI fs), .int (nI 1), .int (nI 0)])), (e11, .inr (2, [.int 1, .int (nI fs), .int (nI fs), .int (nI 1), .int (nI 0)])), (br, .inr (1, [.ref ra, .int (nI 0)])), (ra, .inl (cB, 6000, .inl (fun _ => 0))), (bq, .inr (0, [.ref qa, .int (nI 0), .int (nI 0)])), (qa, .inl (cB, 1000, .inl (fun _ => 0)))]) [0, 5, 6, 7, 8, 9, 10, 1, 2, 3, 4] rfl
  have hD9 := hD.sub (ws' := [(x, .inr (4, [.int (nI bi), .int (nI ne), .int (nI li), .int (nI sp), .int (nI q), .ref sw, .ref sr, .ref br, .ref bq, .int (nI 0)])), (sw, .inr (3, [.ref e00, .ref e01, .int (nI 0), .int (nI 0)])), (e00, .inr (2, [.int 0, .int (nI fs), .int (nI fs), .int (nI 1), .int (nI 0)])), (e01, .inr (2, [.int 1, .int (nI fs), .int (nI fs), .int (nI 1), .int (nI 0)])), (sr, .inr (3, [.ref e10, .ref e11, .int (nI 0), .int (nI 0)])), (e10, .inr (2, [.int 0, .int (nI fs), .int (nI fs), .int (nI 1), .int (nI 0)])), (e11, .inr (2, [.int 1, .int (nI fs), .int (nI fs), .int (nI 1), .int (nI 0)])), (br, .inr (1, [.ref ra, .int (nI 0)])), (ra, .inl (cB, 6000, .inl (fun _ => 0))), (bq, .inr (0, [.ref qa, .int (nI 0), .int (nI 0)])), (qa, .inl (cB, 1000, .inl (fun _ => 0)))]) [0, 5, 6, 7, 8, 9, 10, 1, 2, 3, 4] (by decide) rfl
  have hK9 := hK.sub (tys' := [(cB, .byte)]) [0] rfl
  refine W.widen (k := 10) (n := 7033) (Nat.le_of_ble_eq_true rfl) (Nat.le_of_ble_eq_true rfl) ?_
  exact W.vret hx hb hr (fun t ht hW => ⟨⟨(), rfl, trivial, sw, e00, e01, sr, e10, e11, br, ra, bq, qa, cB, by rw [ht]; exact hP9, va_K.moved hW.alike hK9, hD9⟩, hS.F ht⟩) hS.2.2 d_X_init_161
set_option maxHeartbeats 4000000 in
set_option maxRecDepth 100000 in
theorem c_M_init (l : Launch) (D : va_G) (sz : Nat) (y bi ne li sp q : Nat) (p0 p1 p2 : Int32) (hbi : bi = clp p0 2 16) (hne : ne = clp p1 0 (min 255 ((2 ^ bi - 1) / 2))) (hsp : sp = (2 ^ bi - 1 + 2 * ne) / (2 * ne + 1) + 1) (hq : q ≤ 16) (hq1 : sp ≤ 2 ^ q) (hq2 : ∀ j, j < q → 2 ^ j < sp) (hli : li = clp p2 (q + 18) 200) : Met l y_M_init (WSY y_M_init b_M_init 6 none) ({ frames := 2, cells := 8, slots := 7416, locals := 60 }) (va_Pc [.ref y, .int p0, .int p1, .int p2] (fun U => U.heap.size = sz ∧ va_P D CLS [(y, .inr (5, [.int (nI 0), .int (nI 0), .int (nI 0), .int (nI 0), .int (nI 0), .int (nI 0), .null, .null, .null, .null, .null, .int (nI 0), .int (nI 0), .null, .int (nI 0), .null, .int (nI 0), .null, .int (nI 0), .int (nI 0)]))] U.heap ∧ va_K D CLS [] U ∧ va_D (fun _ => True) [(y, .inr (5, [.int (nI 0), .int (nI 0), .int (nI 0), .int (nI 0), .int (nI 0), .int (nI 0), .null, .null, .null, .null, .null, .int (nI 0), .int (nI 0), .null, .int (nI 0), .null, .int (nI 0), .null, .int (nI 0), .int (nI 0)]))])) (va_Qv (S := Unit) (fun _ => True) (fun _ t => ∃ (ms : Nat) (mw : Nat) (mu : Nat) (mc : Nat) (mn : Nat) (mr : Nat) (mq : Nat) (md : Nat) (cI : ClassId) (cB : ClassId), va_P D CLS [(y, .inr (5, [.int (nI 0), .int (nI bi), .int (nI ne), .int (nI li), .int (nI sp), .int (nI q), .ref ms, .ref mw, .ref mu, .ref mc, .ref mn, .int 0, .int (nI 0), .ref mr, .int (nI 0), .ref mq, .int (nI 0), .ref md, .int (nI 0), .int (nI 0)])), (ms, .inl (cI, 2, .inl (upd (upd (fun _ => 0) 0 0) 1 0))), (mw, .inl (cI, 2, .inl (upd (upd (fun _ => 0) 0 0) 1 0))), (mu, .inl (cI, 4, .inl (upd (upd (upd (upd (fun _ => 0) 0 (nI (if (sp + 32) / 64 < 2 then 2 else (sp + 32) / 64))) 1 (nI (if (sp + 32) / 64 < 2 then 2 else (sp + 32) / 64))) 2 (nI (if (sp + 32) / 64 < 2 then 2 else (sp + 32) / 64))) 3 (nI (if (sp + 32) / 64 < 2 then 2 else (sp + 32) / 64))))), (mc, .inl (cI, 4, .inl (upd (upd (upd (upd (fun _ => 0) 0 1) 1 1) 2 1) 3 1))), (mn, .inl (cI, 4, .inl (upd (upd (upd (upd (fun _ => 0) 0 0) 1 0) 2 0) 3 0))), (mr, .inl (cB, 6000, .inl (fun _ => 0))), (mq, .inl (cB, 1000, .inl (fun _ => 0))), (md, .inl (cB, 400, .inl (fun _ => 0)))] t.heap ∧ va_K D CLS [(cI, .int), (cB, .byte)] t ∧ va_D (va_A [(y, .inr (5, [.int (nI 0), .int (nI 0), .int (nI 0), .int (nI 0), .int (nI 0), .int (nI 0), .null, .null, .null, .null, .null, .int (nI 0), .int (nI 0), .null, .int (nI 0), .null, .int (nI 0), .null, .int (nI 0), .int (nI 0)]))] sz) [(y, .inr (5, [.int (nI 0), .int (nI bi), .int (nI ne), .int (nI li), .int (nI sp), .int (nI q), .ref ms, .ref mw, .ref mu, .ref mc, .ref mn, .int 0, .int (nI 0), .ref mr, .int (nI 0), .ref mq, .int (nI 0), .ref md, .int (nI 0), .int (nI 0)])), (ms, .inl (cI, 2, .inl (upd (upd (fun _ => 0) 0 0) 1 0))), (mw, .inl (cI, 2, .inl (upd (upd (fun _ => 0) 0 0) 1 0))), (mu, .inl (cI, 4, .inl (upd (upd (upd (upd (fun _ => 0) 0 (nI (if (sp + 32) / 64 < 2 then 2 else (sp + 32) / 64))) 1 (nI (if (sp + 32) / 64 < 2 then 2 else (sp + 32) / 64))) 2 (nI (if (sp + 32) / 64 < 2 then 2 else (sp + 32) / 64))) 3 (nI (if (sp + 32) / 64 < 2 then 2 else (sp + 32) / 64))))), (mc, .inl (cI, 4, .inl (upd (upd (upd (upd (fun _ => 0) 0 1) 1 1) 2 1) 3 1))), (mn, .inl (cI, 4, .inl (upd (upd (upd (upd (fun _ => 0) 0 0) 1 0) 2 0) 3 0))), (mr, .inl (cB, 6000, .inl (fun _ => 0))), (mq, .inl (cB, 1000, .inl (fun _ => 0))), (md, .inl (cB, 400, .inl (fun _ => 0)))]) (va_A [(y, .inr (5, [.int (nI 0), .int (nI 0), .int (nI 0), .int (nI 0), .int (nI 0), .int (nI 0), .null, .null, .null, .null, .null, .int (nI 0), .int (nI 0), .null, .int (nI 0), .null, .int (nI 0), .null, .int (nI 0), .int (nI 0)]))] sz)) 8 7416 (va_A [(y, .inr (5, [.int (nI 0), .int (nI 0), .int (nI 0), .int (nI 0), .int (nI 0), .int (nI 0), .null, .null, .null, .null, .null, .int (nI 0), .int (nI 0), .null, .int (nI 0), .null, .int (nI 0), .null, .int (nI 0), .int (nI 0)]))] sz) := by
  refine Met.ofW (cc := b_M_init) (maxL := 6) (ret := none) (by decide) rfl ?_
  intro p e s m args below meth c s₁ B hml hv
  obtain ⟨rfl, hsz, hP, hK, hD0⟩ := hv
  have hx := B.exec
  have hb := B.bytes
  have hr := B.returns
  have hts := atoms_spec (ws := WSY y_M_init b_M_init 6 none) B.pre
  have hg : ∀ w ∈ GW, w.before _ s = true := fun w h => hts w (List.mem_cons_of_mem _ h)
  have hown : s.vm.findClass "LineGolombModel" = some m.cls := findClass_of_methodNamed B.named
  have hlocks := B.notSynchronized
  have hin : meth.name = "<init>" := (name_of_methodNamed B.named B.method).1
  subst hsz
  have hD := hD0.self (sz := s.heap.size)
  generalize hAe : va_A [(y, .inr (5, [.int (nI 0), .int (nI 0), .int (nI 0), .int (nI 0), .int (nI 0), .int (nI 0), .null, .null, .null, .null, .null, .int (nI 0), .int (nI 0), .null, .int (nI 0), .null, .int (nI 0), .null, .int (nI 0), .int (nI 0)]))] s.heap.size = A at hD ⊢
  have hA : ∀ q : Nat, s.heap.size ≤ q → A q := fun q h => by rw [← hAe]; exact Or.inr h
  have hS : va_S A s.heap s.heap [] := va_S.rf
  have hP : va_P D CLS [(y, .inr (5, [.int (nI 0), .int (nI 0), .int (nI 0), .int (nI 0), .int (nI 0), .int (nI 0), .null, .null, .null, .null, .null, .int (nI 0), .int (nI 0), .null, .int (nI 0), .null, .int (nI 0), .null, .int (nI 0), .int (nI 0)]))] s.heap := hP
  have hl := lv_entry ([.ref y, .int p0, .int p1, .int p2]) (n := 6) (Nat.le_of_ble_eq_true rfl)
  rw [lg_entry_eq]
  generalize (lg_sl ([.ref y, .int p0, .int p1, .int p2]) ++ List.replicate (6 - (lg_sl ([.ref y, .int p0, .int p1, .int p2])).length) Slot.unset).toArray = ls at hl ⊢
  have hl : lv_has ls 6 [(0, .ref y), (1, .int p0), (2, .int p1), (3, .int p2)] := hl
  refine lv_aload_n hx hb d_M_init_0 rfl (lv_at hl 0 rfl) ?_
  refine W.objInit hx hb hown (hg _ gw_513) (hg _ gw_20) (hg _ gw_21) rfl (by rw [hml]; exact hl.1) rfl d_M_init_1 (Nat.le_of_ble_eq_true rfl) (Nat.le_of_ble_eq_true rfl) ?_
  refine W.eq (g2 := F0 m 4 ls []) rfl ?_
  have hbb := clp_b (v := p0) (a := 2) (b := 16) (by decide)
  rw [← hbi] at hbb
  have hnb := clp_b (v := p1) (a := 0) (b := min 255 ((2 ^ bi - 1) / 2)) (Nat.zero_le _)
  rw [← hne] at hnb
  have hsb := spn_b hbb.1 hbb.2 (by omega) hsp
  have hp16 : 2 ^ bi ≤ 2 ^ 16 := Nat.pow_le_pow_right (by decide) hbb.2
  have hp2 : 2 ^ 2 ≤ 2 ^ bi := Nat.pow_le_pow_right (by decide) hbb.1
  refine lv_aload_n hx hb d_M_init_4 rfl (lv_at hl 0 rfl) ?_
  refine lv_iconst (v := 2) hx hb d_M_init_5 (by decide) ?_
  refine va_newa (atype := .int) (a0 := (2, .inl (fun _ => 0))) (N' := 2) hx hb (hg _ gw_585) (ty := .int) rfl hK hP hD hS hA (fun _ => rfl) (by decide) (by decide) (by decide) (Nat.le_of_ble_eq_true rfl) (Nat.le_of_ble_eq_true rfl) d_M_init_6 (fun ms cI_ H hK hP hD hS => ?_)
  obtain ⟨cI, hcA_cI⟩ : ∃ z, z = cI_ := ⟨_, rfl⟩
  have hK : va_K D CLS [(cI_, .int)] s := hK
  rw [← hcA_cI] at hK hP hD
  have hP : va_P D CLS [(y, .inr (5, [.int (nI 0), .int (nI 0), .int (nI 0), .int (nI 0), .int (nI 0), .int (nI 0), .null, .null, .null, .null, .null, .int (nI 0), .int (nI 0), .null, .int (nI 0), .null, .int (nI 0), .null, .int (nI 0), .int (nI 0)])), (ms, .inl (cI, 2, .inl (fun _ => 0)))] H := hP
  have hD : va_D A [(y, .inr (5, [.int (nI 0), .int (nI 0), .int (nI 0), .int (nI 0), .int (nI 0), .int (nI 0), .null, .null, .null, .null, .null, .int (nI 0), .int (nI 0), .null, .int (nI 0), .null, .int (nI 0), .null, .int (nI 0), .int (nI 0)])), (ms, .inl (cI, 2, .inl (fun _ => 0)))] := hD
  refine va_putF (D := D) (ci := 5) (v := .ref ms) (ty := .array .int) (C := R_M) (T := T_M) (N := 20) hx hb hg in_M ty_M tok_M nm_M hown hK hP hD hS 0 rfl rfl 6 (by decide) (hg _ gw_530) (fun _ h9 => h9) rfl hin rfl (by decide +kernel) (rfl) (rfl) (Nat.le_of_ble_eq_true rfl) d_M_init_8 (fun H locs hP hD hS => ?_)
  have hP : va_P D CLS [(y, .inr (5, [.int (nI 0), .int (nI 0), .int (nI 0), .int (nI 0), .int (nI 0), .int (nI 0), .ref ms, .null, .null, .null, .null, .int (nI 0), .int (nI 0), .null, .int (nI 0), .null, .int (nI 0), .null, .int (nI 0), .int (nI 0)])), (ms, .inl (cI, 2, .inl (fun _ => 0)))] H := hP
  have hD : va_D A [(y, .inr (5, [.int (nI 0), .int (nI 0), .int (nI 0), .int (nI 0), .int (nI 0), .int (nI 0), .ref ms, .null, .null, .null, .null, .int (nI 0), .int (nI 0), .null, .int (nI 0), .null, .int (nI 0), .null, .int (nI 0), .int (nI 0)])), (ms, .inl (cI, 2, .inl (fun _ => 0)))] := hD
  refine lv_aload_n hx hb d_M_init_11 rfl (lv_at hl 0 rfl) ?_
  refine lv_iconst (v := 2) hx hb d_M_init_12 (by decide) ?_
  refine va_newa (atype := .int) (a0 := (2, .inl (fun _ => 0))) (N' := 2) hx hb (hg _ gw_585) (ty := .int) rfl hK hP hD hS hA (fun _ => rfl) (by decide) (by decide) (by decide) (Nat.le_of_ble_eq_true rfl) (Nat.le_of_ble_eq_true rfl) d_M_init_13 (fun mw cI_ H hK hP hD hS => ?_)
  have hK : va_K D CLS [(cI, .int), (cI_, .int)] s := hK
  obtain rfl : cI = cI_ := Option.some.inj ((hK.2 0 (cI, .int) rfl).2.symm.trans (hK.2 1 (cI_, .int) rfl).2)
  have hK := hK.sub (tys' := [(cI, .int)]) [0] rfl
  have hP : va_P D CLS [(y, .inr (5, [.int (nI 0), .int (nI 0), .int (nI 0), .int (nI 0), .int (nI 0), .int (nI 0), .ref ms, .null, .null, .null, .null, .int (nI 0), .int (nI 0), .null, .int (nI 0), .null, .int (nI 0), .null, .int (nI 0), .int (nI 0)])), (ms, .inl (cI, 2, .inl (fun _ => 0))), (mw, .inl (cI, 2, .inl (fun _ => 0)))] H := hP
  have hD : va_D A [(y, .inr (5, [.int (nI 0), .int (nI 0), .int (nI 0), .int (nI 0), .int (nI 0), .int (nI 0), .ref ms, .null, .null, .null, .null, .int (nI 0), .int (nI 0), .null, .int (nI 0), .null, .int (nI 0), .null, .int (nI 0), .int (nI 0)])), (ms, .inl (cI, 2, .inl (fun _ => 0))), (mw, .inl (cI, 2, .inl (fun _ => 0)))] := hD
  refine va_putF (D := D) (ci := 5) (v := .ref mw) (ty := .array .int) (C := R_M) (T := T_M) (N := 20) hx hb hg in_M ty_M tok_M nm_M hown hK hP hD hS 0 rfl rfl 7 (by decide) (hg _ gw_531) (fun _ h9 => h9) rfl hin rfl (by decide +kernel) (rfl) (rfl) (Nat.le_of_ble_eq_true rfl) d_M_init_15 (fun H locs hP hD hS => ?_)
  have hP : va_P D CLS [(y, .inr (5, [.int (nI 0), .int (nI 0), .int (nI 0), .int (nI 0), .int (nI 0), .int (nI 0), .ref ms, .ref mw, .null, .null, .null, .int (nI 0), .int (nI 0), .null, .int (nI 0), .null, .int (nI 0), .null, .int (nI 0), .int (nI 0)])), (ms, .inl (cI, 2, .inl (fun _ => 0))), (mw, .inl (cI, 2, .inl (fun _ => 0)))] H := hP
  have hD : va_D A [(y, .inr (5, [.int (nI 0), .int (nI 0), .int (nI 0), .int (nI 0), .int (nI 0), .int (nI 0), .ref ms, .ref mw, .null, .null, .null, .int (nI 0), .int (nI 0), .null, .int (nI 0), .null, .int (nI 0), .null, .int (nI 0), .int (nI 0)])), (ms, .inl (cI, 2, .inl (fun _ => 0))), (mw, .inl (cI, 2, .inl (fun _ => 0)))] := hD
  refine lv_aload_n hx hb d_M_init_18 rfl (lv_at hl 0 rfl) ?_
  refine lv_iconst (v := 4) hx hb d_M_init_19 (by decide) ?_
  refine va_newa (atype := .int) (a0 := (4, .inl (fun _ => 0))) (N' := 4) hx hb (hg _ gw_585) (ty := .int) rfl hK hP hD hS hA (fun _ => rfl) (by decide) (by decide) (by decide) (Nat.le_of_ble_eq_true rfl) (Nat.le_of_ble_eq_true rfl) d_M_init_20 (fun mu cI_ H hK hP hD hS => ?_)
  have hK : va_K D CLS [(cI, .int), (cI_, .int)] s := hK
  obtain rfl : cI = cI_ := Option.some.inj ((hK.2 0 (cI, .int) rfl).2.symm.trans (hK.2 1 (cI_, .int) rfl).2)
  have hK := hK.sub (tys' := [(cI, .int)]) [0] rfl
  have hP : va_P D CLS [(y, .inr (5, [.int (nI 0), .int (nI 0), .int (nI 0), .int (nI 0), .int (nI 0), .int (nI 0), .ref ms, .ref mw, .null, .null, .null, .int (nI 0), .int (nI 0), .null, .int (nI 0), .null, .int (nI 0), .null, .int (nI 0), .int (nI 0)])), (ms, .inl (cI, 2, .inl (fun _ => 0))), (mw, .inl (cI, 2, .inl (fun _ => 0))), (mu, .inl (cI, 4, .inl (fun _ => 0)))] H := hP
  have hD : va_D A [(y, .inr (5, [.int (nI 0), .int (nI 0), .int (nI 0), .int (nI 0), .int (nI 0), .int (nI 0), .ref ms, .ref mw, .null, .null, .null, .int (nI 0), .int (nI 0), .null, .int (nI 0), .null, .int (nI 0), .null, .int (nI 0), .int (nI 0)])), (ms, .inl (cI, 2, .inl (fun _ => 0))), (mw, .inl (cI, 2, .inl (fun _ => 0))), (mu, .inl (cI, 4, .inl (fun _ => 0)))] := hD
  refine va_putF (D := D) (ci := 5) (v := .ref mu) (ty := .array .int) (C := R_M) (T := T_M) (N := 20) hx hb hg in_M ty_M tok_M nm_M hown hK hP hD hS 0 rfl rfl 8 (by decide) (hg _ gw_532) (fun _ h9 => h9) rfl hin rfl (by decide +kernel) (rfl) (rfl) (Nat.le_of_ble_eq_true rfl) d_M_init_22 (fun H locs hP hD hS => ?_)
  have hP : va_P D CLS [(y, .inr (5, [.int (nI 0), .int (nI 0), .int (nI 0), .int (nI 0), .int (nI 0), .int (nI 0), .ref ms, .ref mw, .ref mu, .null, .null, .int (nI 0), .int (nI 0), .null, .int (nI 0), .null, .int (nI 0), .null, .int (nI 0), .int (nI 0)])), (ms, .inl (cI, 2, .inl (fun _ => 0))), (mw, .inl (cI, 2, .inl (fun _ => 0))), (mu, .inl (cI, 4, .inl (fun _ => 0)))] H := hP
  have hD : va_D A [(y, .inr (5, [.int (nI 0), .int (nI 0), .int (nI 0), .int (nI 0), .int (nI 0), .int (nI 0), .ref ms, .ref mw, .ref mu, .null, .null, .int (nI 0), .int (nI 0), .null, .int (nI 0), .null, .int (nI 0), .null, .int (nI 0), .int (nI 0)])), (ms, .inl (cI, 2, .inl (fun _ => 0))), (mw, .inl (cI, 2, .inl (fun _ => 0))), (mu, .inl (cI, 4, .inl (fun _ => 0)))] := hD
  refine lv_aload_n hx hb d_M_init_25 rfl (lv_at hl 0 rfl) ?_
  refine lv_iconst (v := 4) hx hb d_M_init_26 (by decide) ?_
  refine va_newa (atype := .int) (a0 := (4, .inl (fun _ => 0))) (N' := 4) hx hb (hg _ gw_585) (ty := .int) rfl hK hP hD hS hA (fun _ => rfl) (by decide) (by decide) (by decide) (Nat.le_of_ble_eq_true rfl) (Nat.le_of_ble_eq_true rfl) d_M_init_27 (fun mc cI_ H hK hP hD hS => ?_)
  have hK : va_K D CLS [(cI, .int), (cI_, .int)] s := hK
  obtain rfl : cI = cI_ := Option.some.inj ((hK.2 0 (cI, .int) rfl).2.symm.trans (hK.2 1 (cI_, .int) rfl).2)
  have hK := hK.sub (tys' := [(cI, .int)]) [0] rfl
  have hP : va_P D CLS [(y, .inr (5, [.int (nI 0), .int (nI 0), .int (nI 0), .int (nI 0), .int (nI 0), .int (nI 0), .ref ms, .ref mw, .ref mu, .null, .null, .int (nI 0), .int (nI 0), .null, .int (nI 0), .null, .int (nI 0), .null, .int (nI 0), .int (nI 0)])), (ms, .inl (cI, 2, .inl (fun _ => 0))), (mw, .inl (cI, 2, .inl (fun _ => 0))), (mu, .inl (cI, 4, .inl (fun _ => 0))), (mc, .inl (cI, 4, .inl (fun _ => 0)))] H := hP
  have hD : va_D A [(y, .inr (5, [.int (nI 0), .int (nI 0), .int (nI 0), .int (nI 0), .int (nI 0), .int (nI 0), .ref ms, .ref mw, .ref mu, .null, .null, .int (nI 0), .int (nI 0), .null, .int (nI 0), .null, .int (nI 0), .null, .int (nI 0), .int (nI 0)])), (ms, .inl (cI, 2, .inl (fun _ => 0))), (mw, .inl (cI, 2, .inl (fun _ => 0))), (mu, .inl (cI, 4, .inl (fun _ => 0))), (mc, .inl (cI, 4, .inl (fun _ => 0)))] := hD
  refine va_putF (D := D) (ci := 5) (v := .ref mc) (ty := .array .int) (C := R_M) (T := T_M) (N := 20) hx hb hg in_M ty_M tok_M nm_M hown hK hP hD hS 0 rfl rfl 9 (by decide) (hg _ gw_533) (fun _ h9 => h9) rfl hin rfl (by decide +kernel) (rfl) (rfl) (Nat.le_of_ble_eq_true rfl) d_M_init_29 (fun H locs hP hD hS => ?_)
  have hP : va_P D CLS [(y, .inr (5, [.int (nI 0), .int (nI 0), .int (nI 0), .int (nI 0), .int (nI 0), .int (nI 0), .ref ms, .ref mw, .ref mu, .ref mc, .null, .int (nI 0), .int (nI 0), .null, .int (nI 0), .null, .int (nI 0), .null, .int (nI 0), .int (nI 0)])), (ms, .inl (cI, 2, .inl (fun _ => 0))), (mw, .inl (cI, 2, .inl (fun _ => 0))), (mu, .inl (cI, 4, .inl (fun _ => 0))), (mc, .inl (cI, 4, .inl (fun _ => 0)))] H := hP
  have hD : va_D A [(y, .inr (5, [.int (nI 0), .int (nI 0), .int (nI 0), .int (nI 0), .int (nI 0), .int (nI 0), .ref ms, .ref mw, .ref mu, .ref mc, .null, .int (nI 0), .int (nI 0), .null, .int (nI 0), .null, .int (nI 0), .null, .int (nI 0), .int (nI 0)])), (ms, .inl (cI, 2, .inl (fun _ => 0))), (mw, .inl (cI, 2, .inl (fun _ => 0))), (mu, .inl (cI, 4, .inl (fun _ => 0))), (mc, .inl (cI, 4, .inl (fun _ => 0)))] := hD
  refine lv_aload_n hx hb d_M_init_32 rfl (lv_at hl 0 rfl) ?_
  refine lv_iconst (v := 4) hx hb d_M_init_33 (by decide) ?_
  refine va_newa (atype := .int) (a0 := (4, .inl (fun _ => 0))) (N' := 4) hx hb (hg _ gw_585) (ty := .int) rfl hK hP hD hS hA (fun _ => rfl) (by decide) (by decide) (by decide) (Nat.le_of_ble_eq_true rfl) (Nat.le_of_ble_eq_true rfl) d_M_init_34 (fun mn cI_ H hK hP hD hS => ?_)
  have hK : va_K D CLS [(cI, .int), (cI_, .int)] s := hK
  obtain rfl : cI = cI_ := Option.some.inj ((hK.2 0 (cI, .int) rfl).2.symm.trans (hK.2 1 (cI_, .int) rfl).2)
  have hK := hK.sub (tys' := [(cI, .int)]) [0] rfl
  have hP : va_P D CLS [(y, .inr (5, [.int (nI 0), .int (nI 0), .int (nI 0), .int (nI 0), .int (nI 0), .int (nI 0), .ref ms, .ref mw, .ref mu, .ref mc, .null, .int (nI 0), .int (nI 0), .null, .int (nI 0), .null, .int (nI 0), .null, .int (nI 0), .int (nI 0)])), (ms, .inl (cI, 2, .inl (fun _ => 0))), (mw, .inl (cI, 2, .inl (fun _ => 0))), (mu, .inl (cI, 4, .inl (fun _ => 0))), (mc, .inl (cI, 4, .inl (fun _ => 0))), (mn, .inl (cI, 4, .inl (fun _ => 0)))] H := hP
  have hD : va_D A [(y, .inr (5, [.int (nI 0), .int (nI 0), .int (nI 0), .int (nI 0), .int (nI 0), .int (nI 0), .ref ms, .ref mw, .ref mu, .ref mc, .null, .int (nI 0), .int (nI 0), .null, .int (nI 0), .null, .int (nI 0), .null, .int (nI 0), .int (nI 0)])), (ms, .inl (cI, 2, .inl (fun _ => 0))), (mw, .inl (cI, 2, .inl (fun _ => 0))), (mu, .inl (cI, 4, .inl (fun _ => 0))), (mc, .inl (cI, 4, .inl (fun _ => 0))), (mn, .inl (cI, 4, .inl (fun _ => 0)))] := hD
  refine va_putF (D := D) (ci := 5) (v := .ref mn) (ty := .array .int) (C := R_M) (T := T_M) (N := 20) hx hb hg in_M ty_M tok_M nm_M hown hK hP hD hS 0 rfl rfl 10 (by decide) (hg _ gw_534) (fun _ h9 => h9) rfl hin rfl (by decide +kernel) (rfl) (rfl) (Nat.le_of_ble_eq_true rfl) d_M_init_36 (fun H locs hP hD hS => ?_)
  have hP : va_P D CLS [(y, .inr (5, [.int (nI 0), .int (nI 0), .int (nI 0), .int (nI 0), .int (nI 0), .int (nI 0), .ref ms, .ref mw, .ref mu, .ref mc, .ref mn, .int (nI 0), .int (nI 0), .null, .int (nI 0), .null, .int (nI 0), .null, .int (nI 0), .int (nI 0)])), (ms, .inl (cI, 2, .inl (fun _ => 0))), (mw, .inl (cI, 2, .inl (fun _ => 0))), (mu, .inl (cI, 4, .inl (fun _ => 0))), (mc, .inl (cI, 4, .inl (fun _ => 0))), (mn, .inl (cI, 4, .inl (fun _ => 0)))] H := hP
  have hD : va_D A [(y, .inr (5, [.int (nI 0), .int (nI 0), .int (nI 0), .int (nI 0), .int (nI 0), .int (nI 0), .ref ms, .ref mw, .ref mu, .ref mc, .ref mn, .int (nI 0), .int (nI 0), .null, .int (nI 0), .null, .int (nI 0), .null, .int (nI 0), .int (nI 0)])), (ms, .inl (cI, 2, .inl (fun _ => 0))), (mw, .inl (cI, 2, .inl (fun _ => 0))), (mu, .inl (cI, 4, .inl (fun _ => 0))), (mc, .inl (cI, 4, .inl (fun _ => 0))), (mn, .inl (cI, 4, .inl (fun _ => 0)))] := hD
  refine lv_aload_n hx hb d_M_init_39 rfl (lv_at hl 0 rfl) ?_
  refine lv_sipush (v := 6000) hx hb d_M_init_40 (by decide) ?_
  refine va_newa (atype := .byte) (a0 := (6000, .inl (fun _ => 0))) (N' := 6000) hx hb (hg _ gw_36) (ty := .byte) rfl hK hP hD hS hA (fun _ => rfl) (by decide) (by decide) (by decide) (Nat.le_of_ble_eq_true rfl) (Nat.le_of_ble_eq_true rfl) d_M_init_43 (fun mr cB_ H hK hP hD hS => ?_)
  obtain ⟨cB, hcA_cB⟩ : ∃ z, z = cB_ := ⟨_, rfl⟩
  have hK : va_K D CLS [(cI, .int), (cB_, .byte)] s := hK
  rw [← hcA_cB] at hK hP hD
  have hP : va_P D CLS [(y, .inr (5, [.int (nI 0), .int (nI 0), .int (nI 0), .int (nI 0), .int (nI 0), .int (nI 0), .ref ms, .ref mw, .ref mu, .ref mc, .ref mn, .int (nI 0), .int (nI 0), .null, .int (nI 0), .null, .int (nI 0), .null, .int (nI 0), .int (nI 0)])), (ms, .inl (cI, 2, .inl (fun _ => 0))), (mw, .inl (cI, 2, .inl (fun _ => 0))), (mu, .inl (cI, 4, .inl (fun _ => 0))), (mc, .inl (cI, 4, .inl (fun _ => 0))), (mn, .inl (cI, 4, .inl (fun _ => 0))), (mr, .inl (cB, 6000, .inl (fun _ => 0)))] H := hP
  have hD : va_D A [(y, .inr (5, [.int (nI 0), .int (nI 0), .int (nI 0), .int (nI 0), .int (nI 0), .int (nI 0), .ref ms, .ref mw, .ref mu, .ref mc, .ref mn, .int (nI 0), .int (nI 0), .null, .int (nI 0), .null, .int (nI 0), .null, .int (nI 0), .int (nI 0)])), (ms, .inl (cI, 2, .inl (fun _ => 0))), (mw, .inl (cI, 2, .inl (fun _ => 0))), (mu, .inl (cI, 4, .inl (fun _ => 0))), (mc, .inl (cI, 4, .inl (fun _ => 0))), (mn, .inl (cI, 4, .inl (fun _ => 0))), (mr, .inl (cB, 6000, .inl (fun _ => 0)))] := hD
  refine va_putF (D := D) (ci := 5) (v := .ref mr) (ty := .array .byte) (C := R_M) (T := T_M) (N := 20) hx hb hg in_M ty_M tok_M nm_M hown hK hP hD hS 0 rfl rfl 13 (by decide) (hg _ gw_537) (fun _ h9 => h9) rfl hin rfl (by decide +kernel) (rfl) (rfl) (Nat.le_of_ble_eq_true rfl) d_M_init_45 (fun H locs hP hD hS => ?_)
  have hP : va_P D CLS [(y, .inr (5, [.int (nI 0), .int (nI 0), .int (nI 0), .int (nI 0), .int (nI 0), .int (nI 0), .ref ms, .ref mw, .ref mu, .ref mc, .ref mn, .int (nI 0), .int (nI 0), .ref mr, .int (nI 0), .null, .int (nI 0), .null, .int (nI 0), .int (nI 0)])), (ms, .inl (cI, 2, .inl (fun _ => 0))), (mw, .inl (cI, 2, .inl (fun _ => 0))), (mu, .inl (cI, 4, .inl (fun _ => 0))), (mc, .inl (cI, 4, .inl (fun _ => 0))), (mn, .inl (cI, 4, .inl (fun _ => 0))), (mr, .inl (cB, 6000, .inl (fun _ => 0)))] H := hP
  have hD : va_D A [(y, .inr (5, [.int (nI 0), .int (nI 0), .int (nI 0), .int (nI 0), .int (nI 0), .int (nI 0), .ref ms, .ref mw, .ref mu, .ref mc, .ref mn, .int (nI 0), .int (nI 0), .ref mr, .int (nI 0), .null, .int (nI 0), .null, .int (nI 0), .int (nI 0)])), (ms, .inl (cI, 2, .inl (fun _ => 0))), (mw, .inl (cI, 2, .inl (fun _ => 0))), (mu, .inl (cI, 4, .inl (fun _ => 0))), (mc, .inl (cI, 4, .inl (fun _ => 0))), (mn, .inl (cI, 4, .inl (fun _ => 0))), (mr, .inl (cB, 6000, .inl (fun _ => 0)))] := hD
  refine lv_aload_n hx hb d_M_init_48 rfl (lv_at hl 0 rfl) ?_
  refine lv_sipush (v := 1000) hx hb d_M_init_49 (by decide) ?_
  refine va_newa (atype := .byte) (a0 := (1000, .inl (fun _ => 0))) (N' := 1000) hx hb (hg _ gw_36) (ty := .byte) rfl hK hP hD hS hA (fun _ => rfl) (by decide) (by decide) (by decide) (Nat.le_of_ble_eq_true rfl) (Nat.le_of_ble_eq_true rfl) d_M_init_52 (fun mq cB_ H hK hP hD hS => ?_)
  have hK : va_K D CLS [(cI, .int), (cB, .byte), (cB_, .byte)] s := hK
  obtain rfl : cB = cB_ := Option.some.inj ((hK.2 1 (cB, .byte) rfl).2.symm.trans (hK.2 2 (cB_, .byte) rfl).2)
  have hK := hK.sub (tys' := [(cI, .int), (cB, .byte)]) [0, 1] rfl
  have hP : va_P D CLS [(y, .inr (5, [.int (nI 0), .int (nI 0), .int (nI 0), .int (nI 0), .int (nI 0), .int (nI 0), .ref ms, .ref mw, .ref mu, .ref mc, .ref mn, .int (nI 0), .int (nI 0), .ref mr, .int (nI 0), .null, .int (nI 0), .null, .int (nI 0), .int (nI 0)])), (ms, .inl (cI, 2, .inl (fun _ => 0))), (mw, .inl (cI, 2, .inl (fun _ => 0))), (mu, .inl (cI, 4, .inl (fun _ => 0))), (mc, .inl (cI, 4, .inl (fun _ => 0))), (mn, .inl (cI, 4, .inl (fun _ => 0))), (mr, .inl (cB, 6000, .inl (fun _ => 0))), (mq, .inl (cB, 1000, .inl (fun _ => 0)))] H := hP
  have hD : va_D A [(y, .inr (5, [.int (nI 0), .int (nI 0), .int (nI 0), .int (nI 0), .int (nI 0), .int (nI 0), .ref ms, .ref mw, .ref mu, .ref mc, .ref mn, .int (nI 0), .int (nI 0), .ref mr, .int (nI 0), .null, .int (nI 0), .null, .int (nI 0), .int (nI 0)])), (ms, .inl (cI, 2, .inl (fun _ => 0))), (mw, .inl (cI, 2, .inl (fun _ => 0))), (mu, .inl (cI, 4, .inl (fun _ => 0))), (mc, .inl (cI, 4, .inl (fun _ => 0))), (mn, .inl (cI, 4, .inl (fun _ => 0))), (mr, .inl (cB, 6000, .inl (fun _ => 0))), (mq, .inl (cB, 1000, .inl (fun _ => 0)))] := hD
  refine va_putF (D := D) (ci := 5) (v := .ref mq) (ty := .array .byte) (C := R_M) (T := T_M) (N := 20) hx hb hg in_M ty_M tok_M nm_M hown hK hP hD hS 0 rfl rfl 15 (by decide) (hg _ gw_539) (fun _ h9 => h9) rfl hin rfl (by decide +kernel) (rfl) (rfl) (Nat.le_of_ble_eq_true rfl) d_M_init_54 (fun H locs hP hD hS => ?_)
  have hP : va_P D CLS [(y, .inr (5, [.int (nI 0), .int (nI 0), .int (nI 0), .int (nI 0), .int (nI 0), .int (nI 0), .ref ms, .ref mw, .ref mu, .ref mc, .ref mn, .int (nI 0), .int (nI 0), .ref mr, .int (nI 0), .ref mq, .int (nI 0), .null, .int (nI 0), .int (nI 0)])), (ms, .inl (cI, 2, .inl (fun _ => 0))), (mw, .inl (cI, 2, .inl (fun _ => 0))), (mu, .inl (cI, 4, .inl (fun _ => 0))), (mc, .inl (cI, 4, .inl (fun _ => 0))), (mn, .inl (cI, 4, .inl (fun _ => 0))), (mr, .inl (cB, 6000, .inl (fun _ => 0))), (mq, .inl (cB, 1000, .inl (fun _ => 0)))] H := hP
  have hD : va_D A [(y, .inr (5, [.int (nI 0), .int (nI 0), .int (nI 0), .int (nI 0), .int (nI 0), .int (nI 0), .ref ms, .ref mw, .ref mu, .ref mc, .ref mn, .int (nI 0), .int (nI 0), .ref mr, .int (nI 0), .ref mq, .int (nI 0), .null, .int (nI 0), .int (nI 0)])), (ms, .inl (cI, 2, .inl (fun _ => 0))), (mw, .inl (cI, 2, .inl (fun _ => 0))), (mu, .inl (cI, 4, .inl (fun _ => 0))), (mc, .inl (cI, 4, .inl (fun _ => 0))), (mn, .inl (cI, 4, .inl (fun _ => 0))), (mr, .inl (cB, 6000, .inl (fun _ => 0))), (mq, .inl (cB, 1000, .inl (fun _ => 0)))] := hD
  refine lv_aload_n hx hb d_M_init_57 rfl (lv_at hl 0 rfl) ?_
  refine lv_sipush (v := 400) hx hb d_M_init_58 (by decide) ?_
  refine va_newa (atype := .byte) (a0 := (400, .inl (fun _ => 0))) (N' := 400) hx hb (hg _ gw_36) (ty := .byte) rfl hK hP hD hS hA (fun _ => rfl) (by decide) (by decide) (by decide) (Nat.le_of_ble_eq_true rfl) (Nat.le_of_ble_eq_true rfl) d_M_init_61 (fun md cB_ H hK hP hD hS => ?_)
  have hK : va_K D CLS [(cI, .int), (cB, .byte), (cB_, .byte)] s := hK
  obtain rfl : cB = cB_ := Option.some.inj ((hK.2 1 (cB, .byte) rfl).2.symm.trans (hK.2 2 (cB_, .byte) rfl).2)
  have hK := hK.sub (tys' := [(cI, .int), (cB, .byte)]) [0, 1] rfl
  have hP : va_P D CLS [(y, .inr (5, [.int (nI 0), .int (nI 0), .int (nI 0), .int (nI 0), .int (nI 0), .int (nI 0), .ref ms, .ref mw, .ref mu, .ref mc, .ref mn, .int (nI 0), .int (nI 0), .ref mr, .int (nI 0), .ref mq, .int (nI 0), .null, .int (nI 0), .int (nI 0)])), (ms, .inl (cI, 2, .inl (fun _ => 0))), (mw, .inl (cI, 2, .inl (fun _ => 0))), (mu, .inl (cI, 4, .inl (fun _ => 0))), (mc, .inl (cI, 4, .inl (fun _ => 0))), (mn, .inl (cI, 4, .inl (fun _ => 0))), (mr, .inl (cB, 6000, .inl (fun _ => 0))), (mq, .inl (cB, 1000, .inl (fun _ => 0))), (md, .inl (cB, 400, .inl (fun _ => 0)))] H := hP
  have hD : va_D A [(y, .inr (5, [.int (nI 0), .int (nI 0), .int (nI 0), .int (nI 0), .int (nI 0), .int (nI 0), .ref ms, .ref mw, .ref mu, .ref mc, .ref mn, .int (nI 0), .int (nI 0), .ref mr, .int (nI 0), .ref mq, .int (nI 0), .null, .int (nI 0), .int (nI 0)])), (ms, .inl (cI, 2, .inl (fun _ => 0))), (mw, .inl (cI, 2, .inl (fun _ => 0))), (mu, .inl (cI, 4, .inl (fun _ => 0))), (mc, .inl (cI, 4, .inl (fun _ => 0))), (mn, .inl (cI, 4, .inl (fun _ => 0))), (mr, .inl (cB, 6000, .inl (fun _ => 0))), (mq, .inl (cB, 1000, .inl (fun _ => 0))), (md, .inl (cB, 400, .inl (fun _ => 0)))] := hD
  refine va_putF (D := D) (ci := 5) (v := .ref md) (ty := .array .byte) (C := R_M) (T := T_M) (N := 20) hx hb hg in_M ty_M tok_M nm_M hown hK hP hD hS 0 rfl rfl 17 (by decide) (hg _ gw_541) (fun _ h9 => h9) rfl hin rfl (by decide +kernel) (rfl) (rfl) (Nat.le_of_ble_eq_true rfl) d_M_init_63 (fun H locs hP hD hS => ?_)
  have hP : va_P D CLS [(y, .inr (5, [.int (nI 0), .int (nI 0), .int (nI 0), .int (nI 0), .int (nI 0), .int (nI 0), .ref ms, .ref mw, .ref mu, .ref mc, .ref mn, .int (nI 0), .int (nI 0), .ref mr, .int (nI 0), .ref mq, .int (nI 0), .ref md, .int (nI 0), .int (nI 0)])), (ms, .inl (cI, 2, .inl (fun _ => 0))), (mw, .inl (cI, 2, .inl (fun _ => 0))), (mu, .inl (cI, 4, .inl (fun _ => 0))), (mc, .inl (cI, 4, .inl (fun _ => 0))), (mn, .inl (cI, 4, .inl (fun _ => 0))), (mr, .inl (cB, 6000, .inl (fun _ => 0))), (mq, .inl (cB, 1000, .inl (fun _ => 0))), (md, .inl (cB, 400, .inl (fun _ => 0)))] H := hP
  have hD : va_D A [(y, .inr (5, [.int (nI 0), .int (nI 0), .int (nI 0), .int (nI 0), .int (nI 0), .int (nI 0), .ref ms, .ref mw, .ref mu, .ref mc, .ref mn, .int (nI 0), .int (nI 0), .ref mr, .int (nI 0), .ref mq, .int (nI 0), .ref md, .int (nI 0), .int (nI 0)])), (ms, .inl (cI, 2, .inl (fun _ => 0))), (mw, .inl (cI, 2, .inl (fun _ => 0))), (mu, .inl (cI, 4, .inl (fun _ => 0))), (mc, .inl (cI, 4, .inl (fun _ => 0))), (mn, .inl (cI, 4, .inl (fun _ => 0))), (mr, .inl (cB, 6000, .inl (fun _ => 0))), (mq, .inl (cB, 1000, .inl (fun _ => 0))), (md, .inl (cB, 400, .inl (fun _ => 0)))] := hD
  refine lv_aload_n hx hb d_M_init_66 rfl (lv_at hl 0 rfl) ?_
  refine lv_iload_n hx hb d_M_init_67 rfl (lv_at hl 1 rfl) ?_
  refine lv_iconst (v := 2) hx hb d_M_init_68 (by decide) ?_
  refine lv_bipush (v := 16) hx hb d_M_init_69 (by decide) ?_
  have hPc := hP.sub (ws' := []) [] rfl
  have hKc := hK.sub (tys' := []) [] rfl
  refine pci (va_runS (As := [.int p0, .int 2, .int 16]) (rest := [.ref y]) ⟨hx, hb, hml, hown, hg⟩ (c_M_within l D p0 2 16) (va_cwS 3 hg (gS gw_514 gw_515 gw_7 gw_516) rfl rfl rfl (by decide +kernel) ⟨Nat.le_of_ble_eq_true rfl, Nat.le_of_ble_eq_true rfl⟩) ⟨fun a U g mk q => by obtain ⟨q0, qP, qK⟩ := q; exact ⟨q0, qP, va_K.moved (u := U) (U := U.calling g mk a) (Vm.Alike.refl U.vm) qK⟩, fun U hU hW => ⟨rfl, by rw [hU]; exact hPc, va_K.moved hW.alike hKc⟩⟩ rfl rfl hl.1 rfl (lv_room (Nat.le_of_ble_eq_true rfl)) d_M_init_71 (⟨Nat.le_of_ble_eq_true rfl, Nat.le_of_ble_eq_true rfl⟩)) ?_
  refine tpi (y := nI bi) (by rw [hbi]; exact clpW p0 (a := 2) (b := 16) (by decide) (by decide)) ?_
  refine va_putF (D := D) (ci := 5) (v := .int (nI bi)) (ty := .int) (C := R_M) (T := T_M) (N := 20) hx hb hg in_M ty_M tok_M nm_M hown hK hP hD hS 0 rfl rfl 1 (by decide) (hg _ gw_525) (fun _ h9 => h9) rfl hin rfl (by decide +kernel) (rfl) (rfl) (Nat.le_of_ble_eq_true rfl) d_M_init_74 (fun H locs hP hD hS => ?_)
  have hP : va_P D CLS [(y, .inr (5, [.int (nI 0), .int (nI bi), .int (nI 0), .int (nI 0), .int (nI 0), .int (nI 0), .ref ms, .ref mw, .ref mu, .ref mc, .ref mn, .int (nI 0), .int (nI 0), .ref mr, .int (nI 0), .ref mq, .int (nI 0), .ref md, .int (nI 0), .int (nI 0)])), (ms, .inl (cI, 2, .inl (fun _ => 0))), (mw, .inl (cI, 2, .inl (fun _ => 0))), (mu, .inl (cI, 4, .inl (fun _ => 0))), (mc, .inl (cI, 4, .inl (fun _ => 0))), (mn, .inl (cI, 4, .inl (fun _ => 0))), (mr, .inl (cB, 6000, .inl (fun _ => 0))), (mq, .inl (cB, 1000, .inl (fun _ => 0))), (md, .inl (cB, 400, .inl (fun _ => 0)))] H := hP
  have hD : va_D A [(y, .inr (5, [.int (nI 0), .int (nI bi), .int (nI 0), .int (nI 0), .int (nI 0), .int (nI 0), .ref ms, .ref mw, .ref mu, .ref mc, .ref mn, .int (nI 0), .int (nI 0), .ref mr, .int (nI 0), .ref mq, .int (nI 0), .ref md, .int (nI 0), .int (nI 0)])), (ms, .inl (cI, 2, .inl (fun _ => 0))), (mw, .inl (cI, 2, .inl (fun _ => 0))), (mu, .inl (cI, 4, .inl (fun _ => 0))), (mc, .inl (cI, 4, .inl (fun _ => 0))), (mn, .inl (cI, 4, .inl (fun _ => 0))), (mr, .inl (cB, 6000, .inl (fun _ => 0))), (mq, .inl (cB, 1000, .inl (fun _ => 0))), (md, .inl (cB, 400, .inl (fun _ => 0)))] := hD
  refine lv_aload_n hx hb d_M_init_77 rfl (lv_at hl 0 rfl) ?_
  refine va_get (D := D) (ci := 5) (v := .int (nI bi)) (C := R_M) (T := T_M) (N := 20) hx hb hg in_M hown hK hP 0 rfl rfl 1 (by decide) (hg _ gw_525) (fun _ h9 => h9) rfl d_M_init_78 ?_
  have hPc := hP.sub (ws' := []) [] rfl
  have hKc := hK.sub (tys' := []) [] rfl
  refine pci (va_runS (As := [.int (nI bi)]) (rest := []) ⟨hx, hb, hml, hown, hg⟩ (c_M_power l D bi (by omega)) (va_cwS 1 hg (gS gw_517 gw_518 gw_7 gw_519) rfl rfl rfl (by decide +kernel) ⟨Nat.le_of_ble_eq_true rfl, Nat.le_of_ble_eq_true rfl⟩) ⟨fun a U g mk q => by obtain ⟨q0, qP, qK⟩ := q; exact ⟨q0, qP, va_K.moved (u := U) (U := U.calling g mk a) (Vm.Alike.refl U.vm) qK⟩, fun U hU hW => ⟨rfl, by rw [hU]; exact hPc, va_K.moved hW.alike hKc⟩⟩ rfl rfl hl.1 rfl (lv_room (Nat.le_of_ble_eq_true rfl)) d_M_init_81 (⟨Nat.le_of_ble_eq_true rfl, Nat.le_of_ble_eq_true rfl⟩)) ?_
  refine lv_iconst (v := 1) hx hb d_M_init_84 (by decide) ?_
  refine lv_isub hx hb d_M_init_85 ?_
  refine tpi (y := nI (2 ^ bi - 1)) (pk_sub (b := 1) (by omega)) ?_
  refine lv_istore (lv' := [(4, .int (nI (2 ^ bi - 1))), (0, .ref y), (1, .int p0), (2, .int p1), (3, .int p2)]) hx hb d_M_init_86 hl (by decide) rfl (fun ls hl => ?_)
  refine lv_aload_n hx hb d_M_init_88 rfl (lv_at hl 1 rfl) ?_
  refine lv_iload_n hx hb d_M_init_89 rfl (lv_at hl 3 rfl) ?_
  refine lv_iconst (v := 0) hx hb d_M_init_90 (by decide) ?_
  refine lv_iload hx hb d_M_init_91 (lv_at hl 0 rfl) ?_
  refine lv_iconst (v := 2) hx hb d_M_init_93 (by decide) ?_
  refine lv_idiv hx hb d_M_init_94 (by decide) ?_
  refine tpi (y := nI ((2 ^ bi - 1) / 2)) (div2 (by omega)) ?_
  refine lv_sipush (v := 255) hx hb d_M_init_95 (by decide) ?_
  refine lv_icmp_ge (tgt := 108) hx hb d_M_init_98 (by decide) (fun c_1 => ?_) (fun c_1 => ?_)
  · skip
    have h255 := (nI_leI (a := 255) (by omega) (by omega)).mp c_1
    refine lv_sipush (v := 255) hx hb d_M_init_108 (by decide) ?_
    refine tpi (y := nI (min 255 ((2 ^ bi - 1) / 2))) (congrArg nI (show 255 = min 255 ((2 ^ bi - 1) / 2) by omega)) ?_
    have hPc := hP.sub (ws' := []) [] rfl
    have hKc := hK.sub (tys' := []) [] rfl
    refine pci (va_runS (As := [.int p1, .int 0, .int (nI (min 255 ((2 ^ bi - 1) / 2)))]) (rest := [.ref y]) ⟨hx, hb, hml, hown, hg⟩ (c_M_within l D p1 0 (nI (min 255 ((2 ^ bi - 1) / 2)))) (va_cwS 3 hg (gS gw_514 gw_515 gw_7 gw_516) rfl rfl rfl (by decide +kernel) ⟨Nat.le_of_ble_eq_true rfl, Nat.le_of_ble_eq_true rfl⟩) ⟨fun a U g mk q => by obtain ⟨q0, qP, qK⟩ := q; exact ⟨q0, qP, va_K.moved (u := U) (U := U.calling g mk a) (Vm.Alike.refl U.vm) qK⟩, fun U hU hW => ⟨rfl, by rw [hU]; exact hPc, va_K.moved hW.alike hKc⟩⟩ rfl rfl hl.1 rfl (lv_room (Nat.le_of_ble_eq_true rfl)) d_M_init_111 (⟨Nat.le_of_ble_eq_true rfl, Nat.le_of_ble_eq_true rfl⟩)) ?_
    refine tpi (y := nI ne) (by rw [hne]; exact clpW p1 (a := 0) (Nat.zero_le _) (by omega)) ?_
    refine va_putF (D := D) (ci := 5) (v := .int (nI ne)) (ty := .int) (C := R_M) (T := T_M) (N := 20) hx hb hg in_M ty_M tok_M nm_M hown hK hP hD hS 0 rfl rfl 2 (by decide) (hg _ gw_526) (fun _ h9 => h9) rfl hin rfl (by decide +kernel) (rfl) (rfl) (Nat.le_of_ble_eq_true rfl) d_M_init_114 (fun H locs hP hD hS => ?_)
    have hP : va_P D CLS [(y, .inr (5, [.int (nI 0), .int (nI bi), .int (nI ne), .int (nI 0), .int (nI 0), .int (nI 0), .ref ms, .ref mw, .ref mu, .ref mc, .ref mn, .int (nI 0), .int (nI 0), .ref mr, .int (nI 0), .ref mq, .int (nI 0), .ref md, .int (nI 0), .int (nI 0)])), (ms, .inl (cI, 2, .inl (fun _ => 0))), (mw, .inl (cI, 2, .inl (fun _ => 0))), (mu, .inl (cI, 4, .inl (fun _ => 0))), (mc, .inl (cI, 4, .inl (fun _ => 0))), (mn, .inl (cI, 4, .inl (fun _ => 0))), (mr, .inl (cB, 6000, .inl (fun _ => 0))), (mq, .inl (cB, 1000, .inl (fun _ => 0))), (md, .inl (cB, 400, .inl (fun _ => 0)))] H := hP
    have hD : va_D A [(y, .inr (5, [.int (nI 0), .int (nI bi), .int (nI ne), .int (nI 0), .int (nI 0), .int (nI 0), .ref ms, .ref mw, .ref mu, .ref mc, .ref mn, .int (nI 0), .int (nI 0), .ref mr, .int (nI 0), .ref mq, .int (nI 0), .ref md, .int (nI 0), .int (nI 0)])), (ms, .inl (cI, 2, .inl (fun _ => 0))), (mw, .inl (cI, 2, .inl (fun _ => 0))), (mu, .inl (cI, 4, .inl (fun _ => 0))), (mc, .inl (cI, 4, .inl (fun _ => 0))), (mn, .inl (cI, 4, .inl (fun _ => 0))), (mr, .inl (cB, 6000, .inl (fun _ => 0))), (mq, .inl (cB, 1000, .inl (fun _ => 0))), (md, .inl (cB, 400, .inl (fun _ => 0)))] := hD
    refine lv_aload_n hx hb d_M_init_117 rfl (lv_at hl 1 rfl) ?_
    refine lv_iload hx hb d_M_init_118 (lv_at hl 0 rfl) ?_
    refine lv_iconst (v := 2) hx hb d_M_init_120 (by decide) ?_
    refine lv_aload_n hx hb d_M_init_121 rfl (lv_at hl 1 rfl) ?_
    refine va_get (D := D) (ci := 5) (v := .int (nI ne)) (C := R_M) (T := T_M) (N := 20) hx hb hg in_M hown hK hP 0 rfl rfl 2 (by decide) (hg _ gw_526) (fun _ h9 => h9) rfl d_M_init_122 ?_
    refine lv_imul hx hb d_M_init_125 ?_
    refine tpi (y := nI (2 * ne)) (mul2 ne) ?_
    refine lv_iadd hx hb d_M_init_126 ?_
    refine tpi (y := nI (2 ^ bi - 1 + 2 * ne)) (nI_add _ _) ?_
    refine lv_iconst (v := 2) hx hb d_M_init_127 (by decide) ?_
    refine lv_aload_n hx hb d_M_init_128 rfl (lv_at hl 1 rfl) ?_
    refine va_get (D := D) (ci := 5) (v := .int (nI ne)) (C := R_M) (T := T_M) (N := 20) hx hb hg in_M hown hK hP 0 rfl rfl 2 (by decide) (hg _ gw_526) (fun _ h9 => h9) rfl d_M_init_129 ?_
    refine lv_imul hx hb d_M_init_132 ?_
    refine tpi (y := nI (2 * ne)) (mul2 ne) ?_
    refine lv_iconst (v := 1) hx hb d_M_init_133 (by decide) ?_
    refine lv_iadd hx hb d_M_init_134 ?_
    refine tpi (y := nI (2 * ne + 1)) (nI_1 _) ?_
    refine lv_idiv hx hb d_M_init_135 (nI_ne0 (by omega) (by omega)) ?_
    refine tpi (y := nI ((2 ^ bi - 1 + 2 * ne) / (2 * ne + 1))) (pk_dv (by omega) (by omega) (by omega)) ?_
    refine lv_iconst (v := 1) hx hb d_M_init_136 (by decide) ?_
    refine lv_iadd hx hb d_M_init_137 ?_
    refine tpi (y := nI sp) (by rw [hsp]; exact nI_1 _) ?_
    refine va_putF (D := D) (ci := 5) (v := .int (nI sp)) (ty := .int) (C := R_M) (T := T_M) (N := 20) hx hb hg in_M ty_M tok_M nm_M hown hK hP hD hS 0 rfl rfl 4 (by decide) (hg _ gw_528) (fun _ h9 => h9) rfl hin rfl (by decide +kernel) (rfl) (rfl) (Nat.le_of_ble_eq_true rfl) d_M_init_138 (fun H locs hP hD hS => ?_)
    have hP : va_P D CLS [(y, .inr (5, [.int (nI 0), .int (nI bi), .int (nI ne), .int (nI 0), .int (nI sp), .int (nI 0), .ref ms, .ref mw, .ref mu, .ref mc, .ref mn, .int (nI 0), .int (nI 0), .ref mr, .int (nI 0), .ref mq, .int (nI 0), .ref md, .int (nI 0), .int (nI 0)])), (ms, .inl (cI, 2, .inl (fun _ => 0))), (mw, .inl (cI, 2, .inl (fun _ => 0))), (mu, .inl (cI, 4, .inl (fun _ => 0))), (mc, .inl (cI, 4, .inl (fun _ => 0))), (mn, .inl (cI, 4, .inl (fun _ => 0))), (mr, .inl (cB, 6000, .inl (fun _ => 0))), (mq, .inl (cB, 1000, .inl (fun _ => 0))), (md, .inl (cB, 400, .inl (fun _ => 0)))] H := hP
    have hD : va_D A [(y, .inr (5, [.int (nI 0), .int (nI bi), .int (nI ne), .int (nI 0), .int (nI sp), .int (nI 0), .ref ms, .ref mw, .ref mu, .ref mc, .ref mn, .int (nI 0), .int (nI 0), .ref mr, .int (nI 0), .ref mq, .int (nI 0), .ref md, .int (nI 0), .int (nI 0)])), (ms, .inl (cI, 2, .inl (fun _ => 0))), (mw, .inl (cI, 2, .inl (fun _ => 0))), (mu, .inl (cI, 4, .inl (fun _ => 0))), (mc, .inl (cI, 4, .inl (fun _ => 0))), (mn, .inl (cI, 4, .inl (fun _ => 0))), (mr, .inl (cB, 6000, .inl (fun _ => 0))), (mq, .inl (cB, 1000, .inl (fun _ => 0))), (md, .inl (cB, 400, .inl (fun _ => 0)))] := hD
    refine lv_iconst (v := 0) hx hb d_M_init_141 (by decide) ?_
    refine tpi (y := nI 0) (rfl) ?_
    refine lv_istore (lv' := [(5, .int (nI 0)), (4, .int (nI (2 ^ bi - 1))), (0, .ref y), (1, .int p0), (2, .int p1), (3, .int p2)]) hx hb d_M_init_142 hl (by decide) rfl (fun ls hl => ?_)
    have loop : ∀ (QQ : State → Prop) (d k : Nat), k + d = q → ∀ (ls : Array Slot), lv_has ls 6 [(5, .int (nI k)), (4, .int (nI (2 ^ bi - 1))), (0, .ref y), (1, .int p0), (2, .int p1), (3, .int p2)] → (∀ (ls : Array Slot), lv_has ls 6 [(5, .int (nI q)), (4, .int (nI (2 ^ bi - 1))), (0, .ref y), (1, .int p0), (2, .int p1), (3, .int p2)] → W p l e (headSpec (WSY y_M_init b_M_init 6 none) ({ frames := 2, cells := 8, slots := 7416, locals := 60 })).room s m ([.ref y, .int p0, .int p1, .int p2] : List Value).toArray below meth c H locs 8 7416 QQ (F0 m 162 ls [])) → W p l e (headSpec (WSY y_M_init b_M_init 6 none) ({ frames := 2, cells := 8, slots := 7416, locals := 60 })).room s m ([.ref y, .int p0, .int p1, .int p2] : List Value).toArray below meth c H locs 8 7416 QQ (F0 m 144 ls []) := by
      intro QQ d
      induction d with
      | zero =>
        intro k hk ls hl kk
        obtain rfl : q = k := by omega
        have hpk := pw30 (show q ≤ 30 by omega)
        refine lv_iload hx hb d_M_init_144 (lv_at hl 0 rfl) ?_
        have hPc := hP.sub (ws' := []) [] rfl
        have hKc := hK.sub (tys' := []) [] rfl
        refine pci (va_runS (As := [.int (nI q)]) (rest := []) ⟨hx, hb, hml, hown, hg⟩ (c_M_power l D q (by omega)) (va_cwS 1 hg (gS gw_517 gw_518 gw_7 gw_519) rfl rfl rfl (by decide +kernel) ⟨Nat.le_of_ble_eq_true rfl, Nat.le_of_ble_eq_true rfl⟩) ⟨fun a U g mk q => by obtain ⟨q0, qP, qK⟩ := q; exact ⟨q0, qP, va_K.moved (u := U) (U := U.calling g mk a) (Vm.Alike.refl U.vm) qK⟩, fun U hU hW => ⟨rfl, by rw [hU]; exact hPc, va_K.moved hW.alike hKc⟩⟩ rfl rfl hl.1 rfl (lv_room (Nat.le_of_ble_eq_true rfl)) d_M_init_146 (⟨Nat.le_of_ble_eq_true rfl, Nat.le_of_ble_eq_true rfl⟩)) ?_
        refine lv_aload_n hx hb d_M_init_149 rfl (lv_at hl 2 rfl) ?_
        refine va_get (D := D) (ci := 5) (v := .int (nI sp)) (C := R_M) (T := T_M) (N := 20) hx hb hg in_M hown hK hP 0 rfl rfl 4 (by decide) (hg _ gw_528) (fun _ h9 => h9) rfl d_M_init_150 ?_
        refine lv_icmp_ge (tgt := 162) hx hb d_M_init_153 (by decide) (fun c_2 => ?_) (fun c_2 => ?_)
        · skip
          exact kk ls (lv_sub hl [0, 1, 2, 3, 4, 5] rfl)
        · skip
          exact absurd ((nI_leI (by omega) (by omega)).mpr hq1) c_2
      | succ d ih =>
        intro k hk ls hl kk
        have hpk := pw30 (show k ≤ 30 by omega)
        refine lv_iload hx hb d_M_init_144 (lv_at hl 0 rfl) ?_
        have hPc := hP.sub (ws' := []) [] rfl
        have hKc := hK.sub (tys' := []) [] rfl
        refine pci (va_runS (As := [.int (nI k)]) (rest := []) ⟨hx, hb, hml, hown, hg⟩ (c_M_power l D k (by omega)) (va_cwS 1 hg (gS gw_517 gw_518 gw_7 gw_519) rfl rfl rfl (by decide +kernel) ⟨Nat.le_of_ble_eq_true rfl, Nat.le_of_ble_eq_true rfl⟩) ⟨fun a U g mk q => by obtain ⟨q0, qP, qK⟩ := q; exact ⟨q0, qP, va_K.moved (u := U) (U := U.calling g mk a) (Vm.Alike.refl U.vm) qK⟩, fun U hU hW => ⟨rfl, by rw [hU]; exact hPc, va_K.moved hW.alike hKc⟩⟩ rfl rfl hl.1 rfl (lv_room (Nat.le_of_ble_eq_true rfl)) d_M_init_146 (⟨Nat.le_of_ble_eq_true rfl, Nat.le_of_ble_eq_true rfl⟩)) ?_
        refine lv_aload_n hx hb d_M_init_149 rfl (lv_at hl 2 rfl) ?_
        refine va_get (D := D) (ci := 5) (v := .int (nI sp)) (C := R_M) (T := T_M) (N := 20) hx hb hg in_M hown hK hP 0 rfl rfl 4 (by decide) (hg _ gw_528) (fun _ h9 => h9) rfl d_M_init_150 ?_
        refine lv_icmp_ge (tgt := 162) hx hb d_M_init_153 (by decide) (fun c_3 => ?_) (fun c_3 => ?_)
        · skip
          exact absurd ((nI_leI (by omega) (by omega)).mp c_3) (by have := hq2 k (by omega); omega)
        · skip
          refine lv_iinc (v := nI (k + 1)) (lv' := [(5, .int (nI (k + 1))), (4, .int (nI (2 ^ bi - 1))), (0, .ref y), (1, .int p0), (2, .int p1), (3, .int p2)]) hx hb d_M_init_156 hl (k := 0) rfl (nI_1 k) (by decide) rfl (fun ls hl => ?_)
          refine lv_goto (tgt := 144) hx hb d_M_init_159 (by decide) ?_
          exact ih (k + 1) (by omega) ls (lv_sub hl [0, 1, 2, 3, 4, 5] rfl) kk
    refine W.widen (k := 8) (n := 7416) (Nat.le_of_ble_eq_true rfl) (Nat.le_of_ble_eq_true rfl) ?_
    refine loop _ q 0 (by omega) ls (lv_sub hl [0, 1, 2, 3, 4, 5] rfl) (fun ls hl => ?_)
    refine lv_aload_n hx hb d_M_init_162 rfl (lv_at hl 2 rfl) ?_
    refine lv_iload hx hb d_M_init_163 (lv_at hl 0 rfl) ?_
    refine va_putF (D := D) (ci := 5) (v := .int (nI q)) (ty := .int) (C := R_M) (T := T_M) (N := 20) hx hb hg in_M ty_M tok_M nm_M hown hK hP hD hS 0 rfl rfl 5 (by decide) (hg _ gw_529) (fun _ h9 => h9) rfl hin rfl (by decide +kernel) (rfl) (rfl) (Nat.le_of_ble_eq_true rfl) d_M_init_165 (fun H locs hP hD hS => ?_)
    have hP : va_P D CLS [(y, .inr (5, [.int (nI 0), .int (nI bi), .int (nI ne), .int (nI 0), .int (nI sp), .int (nI q), .ref ms, .ref mw, .ref mu, .ref mc, .ref mn, .int (nI 0), .int (nI 0), .ref mr, .int (nI 0), .ref mq, .int (nI 0), .ref md, .int (nI 0), .int (nI 0)])), (ms, .inl (cI, 2, .inl (fun _ => 0))), (mw, .inl (cI, 2, .inl (fun _ => 0))), (mu, .inl (cI, 4, .inl (fun _ => 0))), (mc, .inl (cI, 4, .inl (fun _ => 0))), (mn, .inl (cI, 4, .inl (fun _ => 0))), (mr, .inl (cB, 6000, .inl (fun _ => 0))), (mq, .inl (cB, 1000, .inl (fun _ => 0))), (md, .inl (cB, 400, .inl (fun _ => 0)))] H := hP
    have hD : va_D A [(y, .inr (5, [.int (nI 0), .int (nI bi), .int (nI ne), .int (nI 0), .int (nI sp), .int (nI q), .ref ms, .ref mw, .ref mu, .ref mc, .ref mn, .int (nI 0), .int (nI 0), .ref mr, .int (nI 0), .ref mq, .int (nI 0), .ref md, .int (nI 0), .int (nI 0)])), (ms, .inl (cI, 2, .inl (fun _ => 0))), (mw, .inl (cI, 2, .inl (fun _ => 0))), (mu, .inl (cI, 4, .inl (fun _ => 0))), (mc, .inl (cI, 4, .inl (fun _ => 0))), (mn, .inl (cI, 4, .inl (fun _ => 0))), (mr, .inl (cB, 6000, .inl (fun _ => 0))), (mq, .inl (cB, 1000, .inl (fun _ => 0))), (md, .inl (cB, 400, .inl (fun _ => 0)))] := hD
    refine lv_aload_n hx hb d_M_init_168 rfl (lv_at hl 2 rfl) ?_
    refine lv_iload_n hx hb d_M_init_169 rfl (lv_at hl 5 rfl) ?_
    refine lv_iload hx hb d_M_init_170 (lv_at hl 0 rfl) ?_
    refine lv_bipush (v := 18) hx hb d_M_init_172 (by decide) ?_
    refine lv_iadd hx hb d_M_init_174 ?_
    refine tpi (y := nI (q + 18)) (nI_add q 18) ?_
    refine lv_sipush (v := 200) hx hb d_M_init_175 (by decide) ?_
    have hPc := hP.sub (ws' := []) [] rfl
    have hKc := hK.sub (tys' := []) [] rfl
    refine pci (va_runS (As := [.int p2, .int (nI (q + 18)), .int 200]) (rest := [.ref y]) ⟨hx, hb, hml, hown, hg⟩ (c_M_within l D p2 (nI (q + 18)) 200) (va_cwS 3 hg (gS gw_514 gw_515 gw_7 gw_516) rfl rfl rfl (by decide +kernel) ⟨Nat.le_of_ble_eq_true rfl, Nat.le_of_ble_eq_true rfl⟩) ⟨fun a U g mk q => by obtain ⟨q0, qP, qK⟩ := q; exact ⟨q0, qP, va_K.moved (u := U) (U := U.calling g mk a) (Vm.Alike.refl U.vm) qK⟩, fun U hU hW => ⟨rfl, by rw [hU]; exact hPc, va_K.moved hW.alike hKc⟩⟩ rfl rfl hl.1 rfl (lv_room (Nat.le_of_ble_eq_true rfl)) d_M_init_178 (⟨Nat.le_of_ble_eq_true rfl, Nat.le_of_ble_eq_true rfl⟩)) ?_
    refine tpi (y := nI li) (by rw [hli]; exact clpW p2 (b := 200) (by omega) (by decide)) ?_
    refine va_putF (D := D) (ci := 5) (v := .int (nI li)) (ty := .int) (C := R_M) (T := T_M) (N := 20) hx hb hg in_M ty_M tok_M nm_M hown hK hP hD hS 0 rfl rfl 3 (by decide) (hg _ gw_527) (fun _ h9 => h9) rfl hin rfl (by decide +kernel) (rfl) (rfl) (Nat.le_of_ble_eq_true rfl) d_M_init_181 (fun H locs hP hD hS => ?_)
    have hP : va_P D CLS [(y, .inr (5, [.int (nI 0), .int (nI bi), .int (nI ne), .int (nI li), .int (nI sp), .int (nI q), .ref ms, .ref mw, .ref mu, .ref mc, .ref mn, .int (nI 0), .int (nI 0), .ref mr, .int (nI 0), .ref mq, .int (nI 0), .ref md, .int (nI 0), .int (nI 0)])), (ms, .inl (cI, 2, .inl (fun _ => 0))), (mw, .inl (cI, 2, .inl (fun _ => 0))), (mu, .inl (cI, 4, .inl (fun _ => 0))), (mc, .inl (cI, 4, .inl (fun _ => 0))), (mn, .inl (cI, 4, .inl (fun _ => 0))), (mr, .inl (cB, 6000, .inl (fun _ => 0))), (mq, .inl (cB, 1000, .inl (fun _ => 0))), (md, .inl (cB, 400, .inl (fun _ => 0)))] H := hP
    have hD : va_D A [(y, .inr (5, [.int (nI 0), .int (nI bi), .int (nI ne), .int (nI li), .int (nI sp), .int (nI q), .ref ms, .ref mw, .ref mu, .ref mc, .ref mn, .int (nI 0), .int (nI 0), .ref mr, .int (nI 0), .ref mq, .int (nI 0), .ref md, .int (nI 0), .int (nI 0)])), (ms, .inl (cI, 2, .inl (fun _ => 0))), (mw, .inl (cI, 2, .inl (fun _ => 0))), (mu, .inl (cI, 4, .inl (fun _ => 0))), (mc, .inl (cI, 4, .inl (fun _ => 0))), (mn, .inl (cI, 4, .inl (fun _ => 0))), (mr, .inl (cB, 6000, .inl (fun _ => 0))), (mq, .inl (cB, 1000, .inl (fun _ => 0))), (md, .inl (cB, 400, .inl (fun _ => 0)))] := hD
    refine lv_aload_n hx hb d_M_init_184 rfl (lv_at hl 2 rfl) ?_
    have hPc := hP.sub (ws' := [(y, .inr (5, [.int (nI 0), .int (nI bi), .int (nI ne), .int (nI li), .int (nI sp), .int (nI q), .ref ms, .ref mw, .ref mu, .ref mc, .ref mn, .int (nI 0), .int (nI 0), .ref mr, .int (nI 0), .ref mq, .int (nI 0), .ref md, .int (nI 0), .int (nI 0)])), (ms, .inl (cI, 2, .inl (fun _ => 0))), (mw, .inl (cI, 2, .inl (fun _ => 0))), (mu, .inl (cI, 4, .inl (fun _ => 0))), (mc, .inl (cI, 4, .inl (fun _ => 0))), (mn, .inl (cI, 4, .inl (fun _ => 0)))]) [0, 1, 2, 3, 4, 5] rfl
    have hDc := hD.sub (ws' := [(y, .inr (5, [.int (nI 0), .int (nI bi), .int (nI ne), .int (nI li), .int (nI sp), .int (nI q), .ref ms, .ref mw, .ref mu, .ref mc, .ref mn, .int (nI 0), .int (nI 0), .ref mr, .int (nI 0), .ref mq, .int (nI 0), .ref md, .int (nI 0), .int (nI 0)])), (ms, .inl (cI, 2, .inl (fun _ => 0))), (mw, .inl (cI, 2, .inl (fun _ => 0))), (mu, .inl (cI, 4, .inl (fun _ => 0))), (mc, .inl (cI, 4, .inl (fun _ => 0))), (mn, .inl (cI, 4, .inl (fun _ => 0)))]) [0, 1, 2, 3, 4, 5] (by decide) rfl
    have hKc := hK.sub (tys' := [(cI, .int)]) [0] rfl
    refine mcv (va_runV (As := []) (rest := []) ⟨hx, hb, hml, hown, hg⟩ (c_M_begin l D y ms mw mu mc mn mr mq md bi ne li sp q 0 0 (nI 0) (nI 0) (nI 0) (nI 0) (nI 0) cI (fun _ => 0) (fun _ => 0) (fun _ => 0) (fun _ => 0) (fun _ => 0) (by omega)) (cwV 0 hg (gV gw_520 gw_522 gs_12 gw_7 gw_523) rfl rfl rfl (by decide +kernel) ⟨Nat.le_of_ble_eq_true rfl, Nat.le_of_ble_eq_true rfl⟩) ⟨fun a U g mk q => by obtain ⟨q0, qP, qK, qD⟩ := q; exact ⟨q0, qP, va_K.moved (u := U) (U := U.calling g mk a) (Vm.Alike.refl U.vm) qK, qD⟩, va_recv hKc hPc (ci := 5) (q0 := 0) rfl rfl, fun U hU hW => ⟨rfl, by rw [hU]; exact hPc, va_K.moved hW.alike hKc, hDc.weaken (fun _ _ _ _ => trivial)⟩⟩ rfl rfl hl.1 rfl (lv_room (Nat.le_of_ble_eq_true rfl)) d_M_init_185 (⟨Nat.le_of_ble_eq_true rfl, Nat.le_of_ble_eq_true rfl⟩)) hS hP hD [0, 1, 2, 3, 4, 5] rfl rfl rfl (fun H locs hP hD hS => ?_)
    have hP : va_P D CLS [(y, .inr (5, [.int (nI 0), .int (nI bi), .int (nI ne), .int (nI li), .int (nI sp), .int (nI q), .ref ms, .ref mw, .ref mu, .ref mc, .ref mn, .int 0, .int (nI 0), .ref mr, .int (nI 0), .ref mq, .int (nI 0), .ref md, .int (nI 0), .int (nI 0)])), (ms, .inl (cI, 2, .inl (upd (upd (fun _ => 0) 0 0) 1 0))), (mw, .inl (cI, 2, .inl (upd (upd (fun _ => 0) 0 0) 1 0))), (mu, .inl (cI, 4, .inl (upd (upd (upd (upd (fun _ => 0) 0 (nI (if (sp + 32) / 64 < 2 then 2 else (sp + 32) / 64))) 1 (nI (if (sp + 32) / 64 < 2 then 2 else (sp + 32) / 64))) 2 (nI (if (sp + 32) / 64 < 2 then 2 else (sp + 32) / 64))) 3 (nI (if (sp + 32) / 64 < 2 then 2 else (sp + 32) / 64))))), (mc, .inl (cI, 4, .inl (upd (upd (upd (upd (fun _ => 0) 0 1) 1 1) 2 1) 3 1))), (mn, .inl (cI, 4, .inl (upd (upd (upd (upd (fun _ => 0) 0 0) 1 0) 2 0) 3 0))), (mr, .inl (cB, 6000, .inl (fun _ => 0))), (mq, .inl (cB, 1000, .inl (fun _ => 0))), (md, .inl (cB, 400, .inl (fun _ => 0)))] H := hP
    have hD : va_D A [(y, .inr (5, [.int (nI 0), .int (nI bi), .int (nI ne), .int (nI li), .int (nI sp), .int (nI q), .ref ms, .ref mw, .ref mu, .ref mc, .ref mn, .int 0, .int (nI 0), .ref mr, .int (nI 0), .ref mq, .int (nI 0), .ref md, .int (nI 0), .int (nI 0)])), (ms, .inl (cI, 2, .inl (upd (upd (fun _ => 0) 0 0) 1 0))), (mw, .inl (cI, 2, .inl (upd (upd (fun _ => 0) 0 0) 1 0))), (mu, .inl (cI, 4, .inl (upd (upd (upd (upd (fun _ => 0) 0 (nI (if (sp + 32) / 64 < 2 then 2 else (sp + 32) / 64))) 1 (nI (if (sp + 32) / 64 < 2 then 2 else (sp + 32) / 64))) 2 (nI (if (sp + 32) / 64 < 2 then 2 else (sp + 32) / 64))) 3 (nI (if (sp + 32) / 64 < 2 then 2 else (sp + 32) / 64))))), (mc, .inl (cI, 4, .inl (upd (upd (upd (upd (fun _ => 0) 0 1) 1 1) 2 1) 3 1))), (mn, .inl (cI, 4, .inl (upd (upd (upd (upd (fun _ => 0) 0 0) 1 0) 2 0) 3 0))), (mr, .inl (cB, 6000, .inl (fun _ => 0))), (mq, .inl (cB, 1000, .inl (fun _ => 0))), (md, .inl (cB, 400, .inl (fun _ => 0)))] := hD
    have hP9 := hP.sub (ws' := [(y, .inr (5, [.int (nI 0), .int (nI bi), .int (nI ne), .int (nI li), .int (nI sp), .int (nI q), .ref ms, .ref mw, .ref mu, .ref mc, .ref mn, .int 0, .int (nI 0), .ref mr, .int (nI 0), .ref mq, .int (nI 0), .ref md, .int (nI 0), .int (nI 0)])), (ms, .inl (cI, 2, .inl (upd (upd (fun _ => 0) 0 0) 1 0))), (mw, .inl (cI, 2, .inl (upd (upd (fun _ => 0) 0 0) 1 0))), (mu, .inl (cI, 4, .inl (upd (upd (upd (upd (fun _ => 0) 0 (nI (if (sp + 32) / 64 < 2 then 2 else (sp + 32) / 64))) 1 (nI (if (sp + 32) / 64 < 2 then 2 else (sp + 32) / 64))) 2 (nI (if (sp + 32) / 64 < 2 then 2 else (sp + 32) / 64))) 3 (nI (if (sp + 32) / 64 < 2 then 2 else (sp + 32) / 64))))), (mc, .inl (cI, 4, .inl (upd (upd (upd (upd (fun _ => 0) 0 1) 1 1) 2 1) 3 1))), (mn, .inl (cI, 4, .inl (upd (upd (upd (upd (fun _ => 0) 0 0) 1 0) 2 0) 3 0))), (mr, .inl (cB, 6000, .inl (fun _ => 0))), (mq, .inl (cB, 1000, .inl (fun _ => 0))), (md, .inl (cB, 400, .inl (fun _ => 0)))]) [0, 1, 2, 3, 4, 5, 6, 7, 8] rfl
    have hD9 := hD.sub (ws' := [(y, .inr (5, [.int (nI 0), .int (nI bi), .int (nI ne), .int (nI li), .int (nI sp), .int (nI q), .ref ms, .ref mw, .ref mu, .ref mc, .ref mn, .int 0, .int (nI 0), .ref mr, .int (nI 0), .ref mq, .int (nI 0), .ref md, .int (nI 0), .int (nI 0)])), (ms, .inl (cI, 2, .inl (upd (upd (fun _ => 0) 0 0) 1 0))), (mw, .inl (cI, 2, .inl (upd (upd (fun _ => 0) 0 0) 1 0))), (mu, .inl (cI, 4, .inl (upd (upd (upd (upd (fun _ => 0) 0 (nI (if (sp + 32) / 64 < 2 then 2 else (sp + 32) / 64))) 1 (nI (if (sp + 32) / 64 < 2 then 2 else (sp + 32) / 64))) 2 (nI (if (sp + 32) / 64 < 2 then 2 else (sp + 32) / 64))) 3 (nI (if (sp + 32) / 64 < 2 then 2 else (sp + 32) / 64))))), (mc, .inl (cI, 4, .inl (upd (upd (upd (upd (fun _ => 0) 0 1) 1 1) 2 1) 3 1))), (mn, .inl (cI, 4, .inl (upd (upd (upd (upd (fun _ => 0) 0 0) 1 0) 2 0) 3 0))), (mr, .inl (cB, 6000, .inl (fun _ => 0))), (mq, .inl (cB, 1000, .inl (fun _ => 0))), (md, .inl (cB, 400, .inl (fun _ => 0)))]) [0, 1, 2, 3, 4, 5, 6, 7, 8] (by decide) rfl
    have hK9 := hK.sub (tys' := [(cI, .int), (cB, .byte)]) [0, 1] rfl
    refine W.widen (k := 8) (n := 7416) (Nat.le_of_ble_eq_true rfl) (Nat.le_of_ble_eq_true rfl) ?_
    exact W.vret hx hb hr (fun t ht hW => ⟨⟨(), rfl, trivial, ms, mw, mu, mc, mn, mr, mq, md, cI, cB, by rw [ht]; exact hP9, va_K.moved hW.alike hK9, hD9⟩, hS.F ht⟩) hS.2.2 d_M_init_188
  · skip
    have h255 : ¬ 255 ≤ (2 ^ bi - 1) / 2 := fun z => c_1 ((nI_leI (a := 255) (by omega) (by omega)).mpr z)
    refine lv_iload hx hb d_M_init_101 (lv_at hl 0 rfl) ?_
    refine lv_iconst (v := 2) hx hb d_M_init_103 (by decide) ?_
    refine lv_idiv hx hb d_M_init_104 (by decide) ?_
    refine tpi (y := nI (min 255 ((2 ^ bi - 1) / 2))) ((div2 (by omega)).trans (congrArg nI (by omega))) ?_
    refine lv_goto (tgt := 111) hx hb d_M_init_105 (by decide) ?_
    have hPc := hP.sub (ws' := []) [] rfl
    have hKc := hK.sub (tys' := []) [] rfl
    refine pci (va_runS (As := [.int p1, .int 0, .int (nI (min 255 ((2 ^ bi - 1) / 2)))]) (rest := [.ref y]) ⟨hx, hb, hml, hown, hg⟩ (c_M_within l D p1 0 (nI (min 255 ((2 ^ bi - 1) / 2)))) (va_cwS 3 hg (gS gw_514 gw_515 gw_7 gw_516) rfl rfl rfl (by decide +kernel) ⟨Nat.le_of_ble_eq_true rfl, Nat.le_of_ble_eq_true rfl⟩) ⟨fun a U g mk q => by obtain ⟨q0, qP, qK⟩ := q; exact ⟨q0, qP, va_K.moved (u := U) (U := U.calling g mk a) (Vm.Alike.refl U.vm) qK⟩, fun U hU hW => ⟨rfl, by rw [hU]; exact hPc, va_K.moved hW.alike hKc⟩⟩ rfl rfl hl.1 rfl (lv_room (Nat.le_of_ble_eq_true rfl)) d_M_init_111 (⟨Nat.le_of_ble_eq_true rfl, Nat.le_of_ble_eq_true rfl⟩)) ?_
    refine tpi (y := nI ne) (by rw [hne]; exact clpW p1 (a := 0) (Nat.zero_le _) (by omega)) ?_
    refine va_putF (D := D) (ci := 5) (v := .int (nI ne)) (ty := .int) (C := R_M) (T := T_M) (N := 20) hx hb hg in_M ty_M tok_M nm_M hown hK hP hD hS 0 rfl rfl 2 (by decide) (hg _ gw_526) (fun _ h9 => h9) rfl hin rfl (by decide +kernel) (rfl) (rfl) (Nat.le_of_ble_eq_true rfl) d_M_init_114 (fun H locs hP hD hS => ?_)
    have hP : va_P D CLS [(y, .inr (5, [.int (nI 0), .int (nI bi), .int (nI ne), .int (nI 0), .int (nI 0), .int (nI 0), .ref ms, .ref mw, .ref mu, .ref mc, .ref mn, .int (nI 0), .int (nI 0), .ref mr, .int (nI 0), .ref mq, .int (nI 0), .ref md, .int (nI 0), .int (nI 0)])), (ms, .inl (cI, 2, .inl (fun _ => 0))), (mw, .inl (cI, 2, .inl (fun _ => 0))), (mu, .inl (cI, 4, .inl (fun _ => 0))), (mc, .inl (cI, 4, .inl (fun _ => 0))), (mn, .inl (cI, 4, .inl (fun _ => 0))), (mr, .inl (cB, 6000, .inl (fun _ => 0))), (mq, .inl (cB, 1000, .inl (fun _ => 0))), (md, .inl (cB, 400, .inl (fun _ => 0)))] H := hP
    have hD : va_D A [(y, .inr (5, [.int (nI 0), .int (nI bi), .int (nI ne), .int (nI 0), .int (nI 0), .int (nI 0), .ref ms, .ref mw, .ref mu, .ref mc, .ref mn, .int (nI 0), .int (nI 0), .ref mr, .int (nI 0), .ref mq, .int (nI 0), .ref md, .int (nI 0), .int (nI 0)])), (ms, .inl (cI, 2, .inl (fun _ => 0))), (mw, .inl (cI, 2, .inl (fun _ => 0))), (mu, .inl (cI, 4, .inl (fun _ => 0))), (mc, .inl (cI, 4, .inl (fun _ => 0))), (mn, .inl (cI, 4, .inl (fun _ => 0))), (mr, .inl (cB, 6000, .inl (fun _ => 0))), (mq, .inl (cB, 1000, .inl (fun _ => 0))), (md, .inl (cB, 400, .inl (fun _ => 0)))] := hD
    refine lv_aload_n hx hb d_M_init_117 rfl (lv_at hl 1 rfl) ?_
    refine lv_iload hx hb d_M_init_118 (lv_at hl 0 rfl) ?_
    refine lv_iconst (v := 2) hx hb d_M_init_120 (by decide) ?_
    refine lv_aload_n hx hb d_M_init_121 rfl (lv_at hl 1 rfl) ?_
    refine va_get (D := D) (ci := 5) (v := .int (nI ne)) (C := R_M) (T := T_M) (N := 20) hx hb hg in_M hown hK hP 0 rfl rfl 2 (by decide) (hg _ gw_526) (fun _ h9 => h9) rfl d_M_init_122 ?_
    refine lv_imul hx hb d_M_init_125 ?_
    refine tpi (y := nI (2 * ne)) (mul2 ne) ?_
    refine lv_iadd hx hb d_M_init_126 ?_
    refine tpi (y := nI (2 ^ bi - 1 + 2 * ne)) (nI_add _ _) ?_
    refine lv_iconst (v := 2) hx hb d_M_init_127 (by decide) ?_
    refine lv_aload_n hx hb d_M_init_128 rfl (lv_at hl 1 rfl) ?_
    refine va_get (D := D) (ci := 5) (v := .int (nI ne)) (C := R_M) (T := T_M) (N := 20) hx hb hg in_M hown hK hP 0 rfl rfl 2 (by decide) (hg _ gw_526) (fun _ h9 => h9) rfl d_M_init_129 ?_
    refine lv_imul hx hb d_M_init_132 ?_
    refine tpi (y := nI (2 * ne)) (mul2 ne) ?_
    refine lv_iconst (v := 1) hx hb d_M_init_133 (by decide) ?_
    refine lv_iadd hx hb d_M_init_134 ?_
    refine tpi (y := nI (2 * ne + 1)) (nI_1 _) ?_
    refine lv_idiv hx hb d_M_init_135 (nI_ne0 (by omega) (by omega)) ?_
    refine tpi (y := nI ((2 ^ bi - 1 + 2 * ne) / (2 * ne + 1))) (pk_dv (by omega) (by omega) (by omega)) ?_
    refine lv_iconst (v := 1) hx hb d_M_init_136 (by decide) ?_
    refine lv_iadd hx hb d_M_init_137 ?_
    refine tpi (y := nI sp) (by rw [hsp]; exact nI_1 _) ?_
    refine va_putF (D := D) (ci := 5) (v := .int (nI sp)) (ty := .int) (C := R_M) (T := T_M) (N := 20) hx hb hg in_M ty_M tok_M nm_M hown hK hP hD hS 0 rfl rfl 4 (by decide) (hg _ gw_528) (fun _ h9 => h9) rfl hin rfl (by decide +kernel) (rfl) (rfl) (Nat.le_of_ble_eq_true rfl) d_M_init_138 (fun H locs hP hD hS => ?_)
    have hP : va_P D CLS [(y, .inr (5, [.int (nI 0), .int (nI bi), .int (nI ne), .int (nI 0), .int (nI sp), .int (nI 0), .ref ms, .ref mw, .ref mu, .ref mc, .ref mn, .int (nI 0), .int (nI 0), .ref mr, .int (nI 0), .ref mq, .int (nI 0), .ref md, .int (nI 0), .int (nI 0)])), (ms, .inl (cI, 2, .inl (fun _ => 0))), (mw, .inl (cI, 2, .inl (fun _ => 0))), (mu, .inl (cI, 4, .inl (fun _ => 0))), (mc, .inl (cI, 4, .inl (fun _ => 0))), (mn, .inl (cI, 4, .inl (fun _ => 0))), (mr, .inl (cB, 6000, .inl (fun _ => 0))), (mq, .inl (cB, 1000, .inl (fun _ => 0))), (md, .inl (cB, 400, .inl (fun _ => 0)))] H := hP
    have hD : va_D A [(y, .inr (5, [.int (nI 0), .int (nI bi), .int (nI ne), .int (nI 0), .int (nI sp), .int (nI 0), .ref ms, .ref mw, .ref mu, .ref mc, .ref mn, .int (nI 0), .int (nI 0), .ref mr, .int (nI 0), .ref mq, .int (nI 0), .ref md, .int (nI 0), .int (nI 0)])), (ms, .inl (cI, 2, .inl (fun _ => 0))), (mw, .inl (cI, 2, .inl (fun _ => 0))), (mu, .inl (cI, 4, .inl (fun _ => 0))), (mc, .inl (cI, 4, .inl (fun _ => 0))), (mn, .inl (cI, 4, .inl (fun _ => 0))), (mr, .inl (cB, 6000, .inl (fun _ => 0))), (mq, .inl (cB, 1000, .inl (fun _ => 0))), (md, .inl (cB, 400, .inl (fun _ => 0)))] := hD
    refine lv_iconst (v := 0) hx hb d_M_init_141 (by decide) ?_
    refine tpi (y := nI 0) (rfl) ?_
    refine lv_istore (lv' := [(5, .int (nI 0)), (4, .int (nI (2 ^ bi - 1))), (0, .ref y), (1, .int p0), (2, .int p1), (3, .int p2)]) hx hb d_M_init_142 hl (by decide) rfl (fun ls hl => ?_)
    have loop : ∀ (QQ : State → Prop) (d k : Nat), k + d = q → ∀ (ls : Array Slot), lv_has ls 6 [(5, .int (nI k)), (4, .int (nI (2 ^ bi - 1))), (0, .ref y), (1, .int p0), (2, .int p1), (3, .int p2)] → (∀ (ls : Array Slot), lv_has ls 6 [(5, .int (nI q)), (4, .int (nI (2 ^ bi - 1))), (0, .ref y), (1, .int p0), (2, .int p1), (3, .int p2)] → W p l e (headSpec (WSY y_M_init b_M_init 6 none) ({ frames := 2, cells := 8, slots := 7416, locals := 60 })).room s m ([.ref y, .int p0, .int p1, .int p2] : List Value).toArray below meth c H locs 8 7416 QQ (F0 m 162 ls [])) → W p l e (headSpec (WSY y_M_init b_M_init 6 none) ({ frames := 2, cells := 8, slots := 7416, locals := 60 })).room s m ([.ref y, .int p0, .int p1, .int p2] : List Value).toArray below meth c H locs 8 7416 QQ (F0 m 144 ls []) := by
      intro QQ d
      induction d with
      | zero =>
        intro k hk ls hl kk
        obtain rfl : q = k := by omega
        have hpk := pw30 (show q ≤ 30 by omega)
        refine lv_iload hx hb d_M_init_144 (lv_at hl 0 rfl) ?_
        have hPc := hP.sub (ws' := []) [] rfl
        have hKc := hK.sub (tys' := []) [] rfl
        refine pci (va_runS (As := [.int (nI q)]) (rest := []) ⟨hx, hb, hml, hown, hg⟩ (c_M_power l D q (by omega)) (va_cwS 1 hg (gS gw_517 gw_518 gw_7 gw_519) rfl rfl rfl (by decide +kernel) ⟨Nat.le_of_ble_eq_true rfl, Nat.le_of_ble_eq_true rfl⟩) ⟨fun a U g mk q => by obtain ⟨q0, qP, qK⟩ := q; exact ⟨q0, qP, va_K.moved (u := U) (U := U.calling g mk a) (Vm.Alike.refl U.vm) qK⟩, fun U hU hW => ⟨rfl, by rw [hU]; exact hPc, va_K.moved hW.alike hKc⟩⟩ rfl rfl hl.1 rfl (lv_room (Nat.le_of_ble_eq_true rfl)) d_M_init_146 (⟨Nat.le_of_ble_eq_true rfl, Nat.le_of_ble_eq_true rfl⟩)) ?_
        refine lv_aload_n hx hb d_M_init_149 rfl (lv_at hl 2 rfl) ?_
        refine va_get (D := D) (ci := 5) (v := .int (nI sp)) (C := R_M) (T := T_M) (N := 20) hx hb hg in_M hown hK hP 0 rfl rfl 4 (by decide) (hg _ gw_528) (fun _ h9 => h9) rfl d_M_init_150 ?_
        refine lv_icmp_ge (tgt := 162) hx hb d_M_init_153 (by decide) (fun c_4 => ?_) (fun c_4 => ?_)
        · skip
          exact kk ls (lv_sub hl [0, 1, 2, 3, 4, 5] rfl)
        · skip
          exact absurd ((nI_leI (by omega) (by omega)).mpr hq1) c_4
      | succ d ih =>
        intro k hk ls hl kk
        have hpk := pw30 (show k ≤ 30 by omega)
        refine lv_iload hx hb d_M_init_144 (lv_at hl 0 rfl) ?_
        have hPc := hP.sub (ws' := []) [] rfl
        have hKc := hK.sub (tys' := []) [] rfl
        refine pci (va_runS (As := [.int (nI k)]) (rest := []) ⟨hx, hb, hml, hown, hg⟩ (c_M_power l D k (by omega)) (va_cwS 1 hg (gS gw_517 gw_518 gw_7 gw_519) rfl rfl rfl (by decide +kernel) ⟨Nat.le_of_ble_eq_true rfl, Nat.le_of_ble_eq_true rfl⟩) ⟨fun a U g mk q => by obtain ⟨q0, qP, qK⟩ := q; exact ⟨q0, qP, va_K.moved (u := U) (U := U.calling g mk a) (Vm.Alike.refl U.vm) qK⟩, fun U hU hW => ⟨rfl, by rw [hU]; exact hPc, va_K.moved hW.alike hKc⟩⟩ rfl rfl hl.1 rfl (lv_room (Nat.le_of_ble_eq_true rfl)) d_M_init_146 (⟨Nat.le_of_ble_eq_true rfl, Nat.le_of_ble_eq_true rfl⟩)) ?_
        refine lv_aload_n hx hb d_M_init_149 rfl (lv_at hl 2 rfl) ?_
        refine va_get (D := D) (ci := 5) (v := .int (nI sp)) (C := R_M) (T := T_M) (N := 20) hx hb hg in_M hown hK hP 0 rfl rfl 4 (by decide) (hg _ gw_528) (fun _ h9 => h9) rfl d_M_init_150 ?_
        refine lv_icmp_ge (tgt := 162) hx hb d_M_init_153 (by decide) (fun c_5 => ?_) (fun c_5 => ?_)
        · skip
          exact absurd ((nI_leI (by omega) (by omega)).mp c_5) (by have := hq2 k (by omega); omega)
        · skip
          refine lv_iinc (v := nI (k + 1)) (lv' := [(5, .int (nI (k + 1))), (4, .int (nI (2 ^ bi - 1))), (0, .ref y), (1, .int p0), (2, .int p1), (3, .int p2)]) hx hb d_M_init_156 hl (k := 0) rfl (nI_1 k) (by decide) rfl (fun ls hl => ?_)
          refine lv_goto (tgt := 144) hx hb d_M_init_159 (by decide) ?_
          exact ih (k + 1) (by omega) ls (lv_sub hl [0, 1, 2, 3, 4, 5] rfl) kk
    refine W.widen (k := 8) (n := 7416) (Nat.le_of_ble_eq_true rfl) (Nat.le_of_ble_eq_true rfl) ?_
    refine loop _ q 0 (by omega) ls (lv_sub hl [0, 1, 2, 3, 4, 5] rfl) (fun ls hl => ?_)
    refine lv_aload_n hx hb d_M_init_162 rfl (lv_at hl 2 rfl) ?_
    refine lv_iload hx hb d_M_init_163 (lv_at hl 0 rfl) ?_
    refine va_putF (D := D) (ci := 5) (v := .int (nI q)) (ty := .int) (C := R_M) (T := T_M) (N := 20) hx hb hg in_M ty_M tok_M nm_M hown hK hP hD hS 0 rfl rfl 5 (by decide) (hg _ gw_529) (fun _ h9 => h9) rfl hin rfl (by decide +kernel) (rfl) (rfl) (Nat.le_of_ble_eq_true rfl) d_M_init_165 (fun H locs hP hD hS => ?_)
    have hP : va_P D CLS [(y, .inr (5, [.int (nI 0), .int (nI bi), .int (nI ne), .int (nI 0), .int (nI sp), .int (nI q), .ref ms, .ref mw, .ref mu, .ref mc, .ref mn, .int (nI 0), .int (nI 0), .ref mr, .int (nI 0), .ref mq, .int (nI 0), .ref md, .int (nI 0), .int (nI 0)])), (ms, .inl (cI, 2, .inl (fun _ => 0))), (mw, .inl (cI, 2, .inl (fun _ => 0))), (mu, .inl (cI, 4, .inl (fun _ => 0))), (mc, .inl (cI, 4, .inl (fun _ => 0))), (mn, .inl (cI, 4, .inl (fun _ => 0))), (mr, .inl (cB, 6000, .inl (fun _ => 0))), (mq, .inl (cB, 1000, .inl (fun _ => 0))), (md, .inl (cB, 400, .inl (fun _ => 0)))] H := hP
    have hD : va_D A [(y, .inr (5, [.int (nI 0), .int (nI bi), .int (nI ne), .int (nI 0), .int (nI sp), .int (nI q), .ref ms, .ref mw, .ref mu, .ref mc, .ref mn, .int (nI 0), .int (nI 0), .ref mr, .int (nI 0), .ref mq, .int (nI 0), .ref md, .int (nI 0), .int (nI 0)])), (ms, .inl (cI, 2, .inl (fun _ => 0))), (mw, .inl (cI, 2, .inl (fun _ => 0))), (mu, .inl (cI, 4, .inl (fun _ => 0))), (mc, .inl (cI, 4, .inl (fun _ => 0))), (mn, .inl (cI, 4, .inl (fun _ => 0))), (mr, .inl (cB, 6000, .inl (fun _ => 0))), (mq, .inl (cB, 1000, .inl (fun _ => 0))), (md, .inl (cB, 400, .inl (fun _ => 0)))] := hD
    refine lv_aload_n hx hb d_M_init_168 rfl (lv_at hl 2 rfl) ?_
    refine lv_iload_n hx hb d_M_init_169 rfl (lv_at hl 5 rfl) ?_
    refine lv_iload hx hb d_M_init_170 (lv_at hl 0 rfl) ?_
    refine lv_bipush (v := 18) hx hb d_M_init_172 (by decide) ?_
    refine lv_iadd hx hb d_M_init_174 ?_
    refine tpi (y := nI (q + 18)) (nI_add q 18) ?_
    refine lv_sipush (v := 200) hx hb d_M_init_175 (by decide) ?_
    have hPc := hP.sub (ws' := []) [] rfl
    have hKc := hK.sub (tys' := []) [] rfl
    refine pci (va_runS (As := [.int p2, .int (nI (q + 18)), .int 200]) (rest := [.ref y]) ⟨hx, hb, hml, hown, hg⟩ (c_M_within l D p2 (nI (q + 18)) 200) (va_cwS 3 hg (gS gw_514 gw_515 gw_7 gw_516) rfl rfl rfl (by decide +kernel) ⟨Nat.le_of_ble_eq_true rfl, Nat.le_of_ble_eq_true rfl⟩) ⟨fun a U g mk q => by obtain ⟨q0, qP, qK⟩ := q; exact ⟨q0, qP, va_K.moved (u := U) (U := U.calling g mk a) (Vm.Alike.refl U.vm) qK⟩, fun U hU hW => ⟨rfl, by rw [hU]; exact hPc, va_K.moved hW.alike hKc⟩⟩ rfl rfl hl.1 rfl (lv_room (Nat.le_of_ble_eq_true rfl)) d_M_init_178 (⟨Nat.le_of_ble_eq_true rfl, Nat.le_of_ble_eq_true rfl⟩)) ?_
    refine tpi (y := nI li) (by rw [hli]; exact clpW p2 (b := 200) (by omega) (by decide)) ?_
    refine va_putF (D := D) (ci := 5) (v := .int (nI li)) (ty := .int) (C := R_M) (T := T_M) (N := 20) hx hb hg in_M ty_M tok_M nm_M hown hK hP hD hS 0 rfl rfl 3 (by decide) (hg _ gw_527) (fun _ h9 => h9) rfl hin rfl (by decide +kernel) (rfl) (rfl) (Nat.le_of_ble_eq_true rfl) d_M_init_181 (fun H locs hP hD hS => ?_)
    have hP : va_P D CLS [(y, .inr (5, [.int (nI 0), .int (nI bi), .int (nI ne), .int (nI li), .int (nI sp), .int (nI q), .ref ms, .ref mw, .ref mu, .ref mc, .ref mn, .int (nI 0), .int (nI 0), .ref mr, .int (nI 0), .ref mq, .int (nI 0), .ref md, .int (nI 0), .int (nI 0)])), (ms, .inl (cI, 2, .inl (fun _ => 0))), (mw, .inl (cI, 2, .inl (fun _ => 0))), (mu, .inl (cI, 4, .inl (fun _ => 0))), (mc, .inl (cI, 4, .inl (fun _ => 0))), (mn, .inl (cI, 4, .inl (fun _ => 0))), (mr, .inl (cB, 6000, .inl (fun _ => 0))), (mq, .inl (cB, 1000, .inl (fun _ => 0))), (md, .inl (cB, 400, .inl (fun _ => 0)))] H := hP
    have hD : va_D A [(y, .inr (5, [.int (nI 0), .int (nI bi), .int (nI ne), .int (nI li), .int (nI sp), .int (nI q), .ref ms, .ref mw, .ref mu, .ref mc, .ref mn, .int (nI 0), .int (nI 0), .ref mr, .int (nI 0), .ref mq, .int (nI 0), .ref md, .int (nI 0), .int (nI 0)])), (ms, .inl (cI, 2, .inl (fun _ => 0))), (mw, .inl (cI, 2, .inl (fun _ => 0))), (mu, .inl (cI, 4, .inl (fun _ => 0))), (mc, .inl (cI, 4, .inl (fun _ => 0))), (mn, .inl (cI, 4, .inl (fun _ => 0))), (mr, .inl (cB, 6000, .inl (fun _ => 0))), (mq, .inl (cB, 1000, .inl (fun _ => 0))), (md, .inl (cB, 400, .inl (fun _ => 0)))] := hD
    refine lv_aload_n hx hb d_M_init_184 rfl (lv_at hl 2 rfl) ?_
    have hPc := hP.sub (ws' := [(y, .inr (5, [.int (nI 0), .int (nI bi), .int (nI ne), .int (nI li), .int (nI sp), .int (nI q), .ref ms, .ref mw, .ref mu, .ref mc, .ref mn, .int (nI 0), .int (nI 0), .ref mr, .int (nI 0), .ref mq, .int (nI 0), .ref md, .int (nI 0), .int (nI 0)])), (ms, .inl (cI, 2, .inl (fun _ => 0))), (mw, .inl (cI, 2, .inl (fun _ => 0))), (mu, .inl (cI, 4, .inl (fun _ => 0))), (mc, .inl (cI, 4, .inl (fun _ => 0))), (mn, .inl (cI, 4, .inl (fun _ => 0)))]) [0, 1, 2, 3, 4, 5] rfl
    have hDc := hD.sub (ws' := [(y, .inr (5, [.int (nI 0), .int (nI bi), .int (nI ne), .int (nI li), .int (nI sp), .int (nI q), .ref ms, .ref mw, .ref mu, .ref mc, .ref mn, .int (nI 0), .int (nI 0), .ref mr, .int (nI 0), .ref mq, .int (nI 0), .ref md, .int (nI 0), .int (nI 0)])), (ms, .inl (cI, 2, .inl (fun _ => 0))), (mw, .inl (cI, 2, .inl (fun _ => 0))), (mu, .inl (cI, 4, .inl (fun _ => 0))), (mc, .inl (cI, 4, .inl (fun _ => 0))), (mn, .inl (cI, 4, .inl (fun _ => 0)))]) [0, 1, 2, 3, 4, 5] (by decide) rfl
    have hKc := hK.sub (tys' := [(cI, .int)]) [0] rfl
    refine mcv (va_runV (As := []) (rest := []) ⟨hx, hb, hml, hown, hg⟩ (c_M_begin l D y ms mw mu mc mn mr mq md bi ne li sp q 0 0 (nI 0) (nI 0) (nI 0) (nI 0) (nI 0) cI (fun _ => 0) (fun _ => 0) (fun _ => 0) (fun _ => 0) (fun _ => 0) (by omega)) (cwV 0 hg (gV gw_520 gw_522 gs_12 gw_7 gw_523) rfl rfl rfl (by decide +kernel) ⟨Nat.le_of_ble_eq_true rfl, Nat.le_of_ble_eq_true rfl⟩) ⟨fun a U g mk q => by obtain ⟨q0, qP, qK, qD⟩ := q; exact ⟨q0, qP, va_K.moved (u := U) (U := U.calling g mk a) (Vm.Alike.refl U.vm) qK, qD⟩, va_recv hKc hPc (ci := 5) (q0 := 0) rfl rfl, fun U hU hW => ⟨rfl, by rw [hU]; exact hPc, va_K.moved hW.alike hKc, hDc.weaken (fun _ _ _ _ => trivial)⟩⟩ rfl rfl hl.1 rfl (lv_room (Nat.le_of_ble_eq_true rfl)) d_M_init_185 (⟨Nat.le_of_ble_eq_true rfl, Nat.le_of_ble_eq_true rfl⟩)) hS hP hD [0, 1, 2, 3, 4, 5] rfl rfl rfl (fun H locs hP hD hS => ?_)
    have hP : va_P D CLS [(y, .inr (5, [.int (nI 0), .int (nI bi), .int (nI ne), .int (nI li), .int (nI sp), .int (nI q), .ref ms, .ref mw, .ref mu, .ref mc, .ref mn, .int 0, .int (nI 0), .ref mr, .int (nI 0), .ref mq, .int (nI 0), .ref md, .int (nI 0), .int (nI 0)])), (ms, .inl (cI, 2, .inl (upd (upd (fun _ => 0) 0 0) 1 0))), (mw, .inl (cI, 2, .inl (upd (upd (fun _ => 0) 0 0) 1 0))), (mu, .inl (cI, 4, .inl (upd (upd (upd (upd (fun _ => 0) 0 (nI (if (sp + 32) / 64 < 2 then 2 else (sp + 32) / 64))) 1 (nI (if (sp + 32) / 64 < 2 then 2 else (sp + 32) / 64))) 2 (nI (if (sp + 32) / 64 < 2 then 2 else (sp + 32) / 64))) 3 (nI (if (sp + 32) / 64 < 2 then 2 else (sp + 32) / 64))))), (mc, .inl (cI, 4, .inl (upd (upd (upd (upd (fun _ => 0) 0 1) 1 1) 2 1) 3 1))), (mn, .inl (cI, 4, .inl (upd (upd (upd (upd (fun _ => 0) 0 0) 1 0) 2 0) 3 0))), (mr, .inl (cB, 6000, .inl (fun _ => 0))), (mq, .inl (cB, 1000, .inl (fun _ => 0))), (md, .inl (cB, 400, .inl (fun _ => 0)))] H := hP
    have hD : va_D A [(y, .inr (5, [.int (nI 0), .int (nI bi), .int (nI ne), .int (nI li), .int (nI sp), .int (nI q), .ref ms, .ref mw, .ref mu, .ref mc, .ref mn, .int 0, .int (nI 0), .ref mr, .int (nI 0), .ref mq, .int (nI 0), .ref md, .int (nI 0), .int (nI 0)])), (ms, .inl (cI, 2, .inl (upd (upd (fun _ => 0) 0 0) 1 0))), (mw, .inl (cI, 2, .inl (upd (upd (fun _ => 0) 0 0) 1 0))), (mu, .inl (cI, 4, .inl (upd (upd (upd (upd (fun _ => 0) 0 (nI (if (sp + 32) / 64 < 2 then 2 else (sp + 32) / 64))) 1 (nI (if (sp + 32) / 64 < 2 then 2 else (sp + 32) / 64))) 2 (nI (if (sp + 32) / 64 < 2 then 2 else (sp + 32) / 64))) 3 (nI (if (sp + 32) / 64 < 2 then 2 else (sp + 32) / 64))))), (mc, .inl (cI, 4, .inl (upd (upd (upd (upd (fun _ => 0) 0 1) 1 1) 2 1) 3 1))), (mn, .inl (cI, 4, .inl (upd (upd (upd (upd (fun _ => 0) 0 0) 1 0) 2 0) 3 0))), (mr, .inl (cB, 6000, .inl (fun _ => 0))), (mq, .inl (cB, 1000, .inl (fun _ => 0))), (md, .inl (cB, 400, .inl (fun _ => 0)))] := hD
    have hP9 := hP.sub (ws' := [(y, .inr (5, [.int (nI 0), .int (nI bi), .int (nI ne), .int (nI li), .int (nI sp), .int (nI q), .ref ms, .ref mw, .ref mu, .ref mc, .ref mn, .int 0, .int (nI 0), .ref mr, .int (nI 0), .ref mq, .int (nI 0), .ref md, .int (nI 0), .int (nI 0)])), (ms, .inl (cI, 2, .inl (upd (upd (fun _ => 0) 0 0) 1 0))), (mw, .inl (cI, 2, .inl (upd (upd (fun _ => 0) 0 0) 1 0))), (mu, .inl (cI, 4, .inl (upd (upd (upd (upd (fun _ => 0) 0 (nI (if (sp + 32) / 64 < 2 then 2 else (sp + 32) / 64))) 1 (nI (if (sp + 32) / 64 < 2 then 2 else (sp + 32) / 64))) 2 (nI (if (sp + 32) / 64 < 2 then 2 else (sp + 32) / 64))) 3 (nI (if (sp + 32) / 64 < 2 then 2 else (sp + 32) / 64))))), (mc, .inl (cI, 4, .inl (upd (upd (upd (upd (fun _ => 0) 0 1) 1 1) 2 1) 3 1))), (mn, .inl (cI, 4, .inl (upd (upd (upd (upd (fun _ => 0) 0 0) 1 0) 2 0) 3 0))), (mr, .inl (cB, 6000, .inl (fun _ => 0))), (mq, .inl (cB, 1000, .inl (fun _ => 0))), (md, .inl (cB, 400, .inl (fun _ => 0)))]) [0, 1, 2, 3, 4, 5, 6, 7, 8] rfl
    have hD9 := hD.sub (ws' := [(y, .inr (5, [.int (nI 0), .int (nI bi), .int (nI ne), .int (nI li), .int (nI sp), .int (nI q), .ref ms, .ref mw, .ref mu, .ref mc, .ref mn, .int 0, .int (nI 0), .ref mr, .int (nI 0), .ref mq, .int (nI 0), .ref md, .int (nI 0), .int (nI 0)])), (ms, .inl (cI, 2, .inl (upd (upd (fun _ => 0) 0 0) 1 0))), (mw, .inl (cI, 2, .inl (upd (upd (fun _ => 0) 0 0) 1 0))), (mu, .inl (cI, 4, .inl (upd (upd (upd (upd (fun _ => 0) 0 (nI (if (sp + 32) / 64 < 2 then 2 else (sp + 32) / 64))) 1 (nI (if (sp + 32) / 64 < 2 then 2 else (sp + 32) / 64))) 2 (nI (if (sp + 32) / 64 < 2 then 2 else (sp + 32) / 64))) 3 (nI (if (sp + 32) / 64 < 2 then 2 else (sp + 32) / 64))))), (mc, .inl (cI, 4, .inl (upd (upd (upd (upd (fun _ => 0) 0 1) 1 1) 2 1) 3 1))), (mn, .inl (cI, 4, .inl (upd (upd (upd (upd (fun _ => 0) 0 0) 1 0) 2 0) 3 0))), (mr, .inl (cB, 6000, .inl (fun _ => 0))), (mq, .inl (cB, 1000, .inl (fun _ => 0))), (md, .inl (cB, 400, .inl (fun _ => 0)))]) [0, 1, 2, 3, 4, 5, 6, 7, 8] (by decide) rfl
    have hK9 := hK.sub (tys' := [(cI, .int), (cB, .byte)]) [0, 1] rfl
    refine W.widen (k := 8) (n := 7416) (Nat.le_of_ble_eq_true rfl) (Nat.le_of_ble_eq_true rfl) ?_
    exact W.vret hx hb hr (fun t ht hW => ⟨⟨(), rfl, trivial, ms, mw, mu, mc, mn, mr, mq, md, cI, cB, by rw [ht]; exact hP9, va_K.moved hW.alike hK9, hD9⟩, hS.F ht⟩) hS.2.2 d_M_init_188
