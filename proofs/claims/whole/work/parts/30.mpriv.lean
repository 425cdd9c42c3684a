/-! LineGolombModel: the private methods -/
theorem wdtM : ∀ p, p < 32 → (p < 16 → wdt p = p / 4) ∧ (16 ≤ p → p < 24 → wdt p = 4 + (p - 16) / 2) ∧ (24 ≤ p → wdt p = p - 16) := by decide
theorem div4 {a : Nat} (h : a < 2 ^ 31) : nI a / 4 = nI (a / 4) := pk_div (d := 4) h (by decide) (by decide)
/-- k places copied -/
def cpw (wr : Nat → Int32) (sz : Nat) (dr : Nat → Int32) : Nat → Nat → Int32
  | 0 => wr
  | k + 1 => upd (cpw wr sz dr k) (sz + k) (dr k)
/-- a bit that waits, 0 beyond them -/
def mbt (wq : Nat → Int32) (wa : Nat) : Nat → Int32 := fun j => if j < wa then wq j else 0
/-- k bits moved down by n -/
def gof (wq : Nat → Int32) (n : Nat) : Nat → Nat → Int32
  | 0 => wq
  | k + 1 => upd (gof wq n k) k (gof wq n k (k + n))
theorem gof_hi (wq : Nat → Int32) (n : Nat) : ∀ k j, k ≤ j → gof wq n k j = wq j
  | 0, j, _ => rfl
  | k + 1, j, h => by
    show upd _ _ _ j = _
    rw [pk_un (by omega)]; exact gof_hi wq n k j (by omega)
theorem gof_lo (wq : Nat → Int32) (n : Nat) : ∀ k j, j < k → gof wq n k j = wq (j + n)
  | 0, j, h => absurd h (Nat.not_lt_zero _)
  | k + 1, j, h => by
    show upd _ _ _ j = _
    by_cases hj : j = k
    · subst hj; rw [pk_us]; exact gof_hi wq n j (j + n) (by omega)
    · rw [pk_un hj]; exact gof_lo wq n k j (by omega)
theorem updd (f : Nat → Int32) (k : Nat) (v w : Int32) : upd (upd f k v) k w = upd f k w := by
  funext j
  by_cases h : j = k
  · subst h; rw [pk_us, pk_us]
  · rw [pk_un h, pk_un h, pk_un h]
set_option maxHeartbeats 4000000 in
set_option maxRecDepth 100000 in
theorem c_M_within (l : Launch) (D : va_G) (v0 lo hi : Int32) : Met l y_M_within (WSY y_M_within b_M_within 3 (some .int)) ({ frames := 0, cells := 0, slots := 0, locals := 0 }) (va_Pc [.int v0, .int lo, .int hi] (fun U => va_P D CLS [] U.heap ∧ va_K D CLS [] U)) (QR (some (.int (if v0 < lo then lo else if hi < v0 then hi else v0)))) 0 0 (fun _ => False) := by
  refine Met.ofW (cc := b_M_within) (maxL := 3) (ret := (some .int)) (by decide) rfl ?_
  intro p e s m args below meth c s₁ B hml hv
  obtain ⟨rfl, hP, hK⟩ := hv
  have hx := B.exec
  have hb := B.bytes
  have hr := B.returns
  have hts := atoms_spec (ws := WSY y_M_within b_M_within 3 (some .int)) B.pre
  have hg : ∀ w ∈ GW, w.before _ s = true := fun w h => hts w (List.mem_cons_of_mem _ h)
  have hown : s.vm.findClass "LineGolombModel" = some m.cls := findClass_of_methodNamed B.named
  have hlocks := B.notSynchronized
  have hS : va_S (fun _ => False) s.heap s.heap [] := va_S.rf
  have hl := lv_entry ([.int v0, .int lo, .int hi]) (n := 3) (Nat.le_of_ble_eq_true rfl)
  rw [lg_entry_eq]
  generalize (lg_sl ([.int v0, .int lo, .int hi]) ++ List.replicate (3 - (lg_sl ([.int v0, .int lo, .int hi])).length) Slot.unset).toArray = ls at hl ⊢
  have hl : lv_has ls 3 [(0, .int v0), (1, .int lo), (2, .int hi)] := hl
  refine lv_iload_n hx hb d_M_within_0 rfl (lv_at hl 0 rfl) ?_
  refine lv_iload_n hx hb d_M_within_1 rfl (lv_at hl 1 rfl) ?_
  refine lv_icmp_ge (tgt := 9) hx hb d_M_within_2 (by decide) (fun c_1 => ?_) (fun c_1 => ?_)
  · skip
    refine lv_iload_n hx hb d_M_within_9 rfl (lv_at hl 0 rfl) ?_
    refine lv_iload_n hx hb d_M_within_10 rfl (lv_at hl 2 rfl) ?_
    refine lv_icmp_le (tgt := 18) hx hb d_M_within_11 (by decide) (fun c_2 => ?_) (fun c_2 => ?_)
    · skip
      refine lv_iload_n hx hb d_M_within_18 rfl (lv_at hl 0 rfl) ?_
      refine tpi (y := if v0 < lo then lo else if hi < v0 then hi else v0) (by rw [if_neg (Int32.not_lt.mpr c_1), if_neg (Int32.not_lt.mpr c_2)]) ?_
      exact W.iret (v := if v0 < lo then lo else if hi < v0 then hi else v0) hx hb hr (fun t ht hW => ⟨rfl, ht⟩) (fun q h => by cases h) d_M_within_19
    · skip
      refine lv_iload_n hx hb d_M_within_14 rfl (lv_at hl 2 rfl) ?_
      refine lv_goto (tgt := 19) hx hb d_M_within_15 (by decide) ?_
      refine tpi (y := if v0 < lo then lo else if hi < v0 then hi else v0) (by rw [if_neg (Int32.not_lt.mpr c_1), if_pos (Int32.not_le.mp c_2)]) ?_
      exact W.iret (v := if v0 < lo then lo else if hi < v0 then hi else v0) hx hb hr (fun t ht hW => ⟨rfl, ht⟩) (fun q h => by cases h) d_M_within_19
  · skip
    refine lv_iload_n hx hb d_M_within_5 rfl (lv_at hl 1 rfl) ?_
    refine lv_goto (tgt := 19) hx hb d_M_within_6 (by decide) ?_
    refine tpi (y := if v0 < lo then lo else if hi < v0 then hi else v0) (by rw [if_pos (Int32.not_le.mp c_1)]) ?_
    exact W.iret (v := if v0 < lo then lo else if hi < v0 then hi else v0) hx hb hr (fun t ht hW => ⟨rfl, ht⟩) (fun q h => by cases h) d_M_within_19
set_option maxHeartbeats 4000000 in
set_option maxRecDepth 100000 in
theorem c_M_power (l : Launch) (D : va_G) (n : Nat) (hn : n ≤ 30) : Met l y_M_power (WSY y_M_power b_M_power 3 (some .int)) ({ frames := 0, cells := 0, slots := 0, locals := 0 }) (va_Pc [.int (nI n)] (fun U => va_P D CLS [] U.heap ∧ va_K D CLS [] U)) (QR (some (.int (nI (2 ^ n))))) 0 0 (fun _ => False) := by
  refine Met.ofW (cc := b_M_power) (maxL := 3) (ret := (some .int)) (by decide) rfl ?_
  intro p e s m args below meth c s₁ B hml hv
  obtain ⟨rfl, hP, hK⟩ := hv
  have hx := B.exec
  have hb := B.bytes
  have hr := B.returns
  have hts := atoms_spec (ws := WSY y_M_power b_M_power 3 (some .int)) B.pre
  have hg : ∀ w ∈ GW, w.before _ s = true := fun w h => hts w (List.mem_cons_of_mem _ h)
  have hown : s.vm.findClass "LineGolombModel" = some m.cls := findClass_of_methodNamed B.named
  have hlocks := B.notSynchronized
  have hS : va_S (fun _ => False) s.heap s.heap [] := va_S.rf
  have hl := lv_entry ([.int (nI n)]) (n := 3) (Nat.le_of_ble_eq_true rfl)
  rw [lg_entry_eq]
  generalize (lg_sl ([.int (nI n)]) ++ List.replicate (3 - (lg_sl ([.int (nI n)])).length) Slot.unset).toArray = ls at hl ⊢
  have hl : lv_has ls 3 [(0, .int (nI n))] := hl
  refine lv_iconst (v := 1) hx hb d_M_power_0 (by decide) ?_
  refine lv_istore_n (lv' := [(1, .int 1), (0, .int (nI n))]) hx hb d_M_power_1 rfl hl (by decide) rfl (fun ls hl => ?_)
  refine lv_iconst (v := 0) hx hb d_M_power_2 (by decide) ?_
  refine lv_istore_n (lv' := [(2, .int 0), (1, .int 1), (0, .int (nI n))]) hx hb d_M_power_3 rfl hl (by decide) rfl (fun ls hl => ?_)
  have loop : ∀ (d k : Nat), k + d = n → ∀ (ls : Array Slot), lv_has ls 3 [(2, .int (nI k)), (1, .int (nI (2 ^ k))), (0, .int (nI n))] → W p l e (headSpec (WSY y_M_power b_M_power 3 (some .int)) ({ frames := 0, cells := 0, slots := 0, locals := 0 })).room s m ([.int (nI n)] : List Value).toArray below meth c s.heap [] 0 0 (MQ below (QR (some (.int (nI (2 ^ n))))) ([.int (nI n)] : List Value).toArray s 0 0 (fun _ => False)) (F0 m 4 ls []) := by
    intro d
    induction d with
    | zero =>
      intro k hk ls hl
      obtain rfl : n = k := by omega
      refine lv_iload_n hx hb d_M_power_4 rfl (lv_at hl 0 rfl) ?_
      refine lv_iload_n hx hb d_M_power_5 rfl (lv_at hl 2 rfl) ?_
      refine lv_icmp_ge (tgt := 19) hx hb d_M_power_6 (by decide) (fun c_1 => ?_) (fun c_1 => ?_)
      · skip
        refine lv_iload_n hx hb d_M_power_19 rfl (lv_at hl 1 rfl) ?_
        exact W.iret (v := nI (2 ^ n)) hx hb hr (fun t ht hW => ⟨rfl, ht⟩) (fun q h => by cases h) d_M_power_20
      · skip
        exact absurd (nI_le (Nat.le_refl _) (by omega)) c_1
    | succ d ih =>
      intro k hk ls hl
      refine lv_iload_n hx hb d_M_power_4 rfl (lv_at hl 0 rfl) ?_
      refine lv_iload_n hx hb d_M_power_5 rfl (lv_at hl 2 rfl) ?_
      refine lv_icmp_ge (tgt := 19) hx hb d_M_power_6 (by decide) (fun c_2 => ?_) (fun c_2 => ?_)
      · skip
        exact absurd ((nI_leI (by omega) (by omega)).mp c_2) (by omega)
      · skip
        refine lv_iconst (v := 2) hx hb d_M_power_9 (by decide) ?_
        refine lv_iload_n hx hb d_M_power_10 rfl (lv_at hl 1 rfl) ?_
        refine lv_imul hx hb d_M_power_11 ?_
        refine tpi (y := nI (2 ^ (k + 1))) (by rw [mul2, Nat.pow_succ, Nat.mul_comm]) ?_
        refine lv_istore_n (lv' := [(1, .int (nI (2 ^ (k + 1)))), (2, .int (nI k)), (0, .int (nI n))]) hx hb d_M_power_12 rfl hl (by decide) rfl (fun ls hl => ?_)
        refine lv_iinc (v := nI (k + 1)) (lv' := [(2, .int (nI (k + 1))), (1, .int (nI (2 ^ (k + 1)))), (0, .int (nI n))]) hx hb d_M_power_13 hl (k := 1) rfl (nI_1 k) (by decide) rfl (fun ls hl => ?_)
        refine lv_goto (tgt := 4) hx hb d_M_power_16 (by decide) ?_
        exact ih (k + 1) (by omega) ls (lv_sub hl [0, 1, 2] rfl)
  exact loop n 0 (by omega) ls hl
set_option maxHeartbeats 4000000 in
set_option maxRecDepth 100000 in
theorem c_M_widthOf (l : Launch) (D : va_G) (p0 : Nat) (hp : p0 < 32) : Met l y_M_widthOf (WSY y_M_widthOf b_M_widthOf 1 (some .int)) ({ frames := 0, cells := 0, slots := 0, locals := 0 }) (va_Pc [.int (nI p0)] (fun U => va_P D CLS [] U.heap ∧ va_K D CLS [] U)) (QR (some (.int (nI (wdt p0))))) 0 0 (fun _ => False) := by
  refine Met.ofW (cc := b_M_widthOf) (maxL := 1) (ret := (some .int)) (by decide) rfl ?_
  intro p e s m args below meth c s₁ B hml hv
  obtain ⟨rfl, hP, hK⟩ := hv
  have hx := B.exec
  have hb := B.bytes
  have hr := B.returns
  have hts := atoms_spec (ws := WSY y_M_widthOf b_M_widthOf 1 (some .int)) B.pre
  have hg : ∀ w ∈ GW, w.before _ s = true := fun w h => hts w (List.mem_cons_of_mem _ h)
  have hown : s.vm.findClass "LineGolombModel" = some m.cls := findClass_of_methodNamed B.named
  have hlocks := B.notSynchronized
  have hS : va_S (fun _ => False) s.heap s.heap [] := va_S.rf
  have hl := lv_entry ([.int (nI p0)]) (n := 1) (Nat.le_of_ble_eq_true rfl)
  rw [lg_entry_eq]
  generalize (lg_sl ([.int (nI p0)]) ++ List.replicate (1 - (lg_sl ([.int (nI p0)])).length) Slot.unset).toArray = ls at hl ⊢
  have hl : lv_has ls 1 [(0, .int (nI p0))] := hl
  obtain ⟨h1, h2, h3⟩ := wdtM p0 hp
  refine lv_iload_n hx hb d_M_widthOf_0 rfl (lv_at hl 0 rfl) ?_
  refine lv_bipush (v := 16) hx hb d_M_widthOf_1 (by decide) ?_
  refine lv_icmp_ge (tgt := 12) hx hb d_M_widthOf_3 (by decide) (fun c_1 => ?_) (fun c_1 => ?_)
  · skip
    have g1 := (nI_leI (a := 16) (by omega) (by omega)).mp c_1
    refine lv_iload_n hx hb d_M_widthOf_12 rfl (lv_at hl 0 rfl) ?_
    refine lv_bipush (v := 24) hx hb d_M_widthOf_13 (by decide) ?_
    refine lv_icmp_ge (tgt := 29) hx hb d_M_widthOf_15 (by decide) (fun c_2 => ?_) (fun c_2 => ?_)
    · skip
      have g2 := (nI_leI (a := 24) (by omega) (by omega)).mp c_2
      refine lv_iload_n hx hb d_M_widthOf_29 rfl (lv_at hl 0 rfl) ?_
      refine lv_bipush (v := 16) hx hb d_M_widthOf_30 (by decide) ?_
      refine lv_isub hx hb d_M_widthOf_32 ?_
      refine tpi (y := nI (wdt p0)) (by rw [h3 g2]; exact pk_sub (b := 16) (by omega)) ?_
      exact W.iret (v := nI (wdt p0)) hx hb hr (fun t ht hW => ⟨rfl, ht⟩) (fun q h => by cases h) d_M_widthOf_33
    · skip
      have g2 : ¬ 24 ≤ p0 := fun z => c_2 ((nI_leI (a := 24) (by omega) (by omega)).mpr z)
      refine lv_iconst (v := 4) hx hb d_M_widthOf_18 (by decide) ?_
      refine lv_iload_n hx hb d_M_widthOf_19 rfl (lv_at hl 0 rfl) ?_
      refine lv_bipush (v := 16) hx hb d_M_widthOf_20 (by decide) ?_
      refine lv_isub hx hb d_M_widthOf_22 ?_
      refine tpi (y := nI (p0 - 16)) (pk_sub (b := 16) (by omega)) ?_
      refine lv_iconst (v := 2) hx hb d_M_widthOf_23 (by decide) ?_
      refine lv_idiv hx hb d_M_widthOf_24 (by decide) ?_
      refine tpi (y := nI ((p0 - 16) / 2)) (div2 (by omega)) ?_
      refine lv_iadd hx hb d_M_widthOf_25 ?_
      refine tpi (y := nI (wdt p0)) (by rw [h2 g1 (by omega)]; exact nI_add 4 _) ?_
      refine lv_goto (tgt := 33) hx hb d_M_widthOf_26 (by decide) ?_
      exact W.iret (v := nI (wdt p0)) hx hb hr (fun t ht hW => ⟨rfl, ht⟩) (fun q h => by cases h) d_M_widthOf_33
  · skip
    have g1 : ¬ 16 ≤ p0 := fun z => c_1 ((nI_leI (a := 16) (by omega) (by omega)).mpr z)
    refine lv_iload_n hx hb d_M_widthOf_6 rfl (lv_at hl 0 rfl) ?_
    refine lv_iconst (v := 4) hx hb d_M_widthOf_7 (by decide) ?_
    refine lv_idiv hx hb d_M_widthOf_8 (by decide) ?_
    refine tpi (y := nI (wdt p0)) (by rw [h1 (by omega)]; exact div4 (by omega)) ?_
    refine lv_goto (tgt := 33) hx hb d_M_widthOf_9 (by decide) ?_
    exact W.iret (v := nI (wdt p0)) hx hb hr (fun t ht hW => ⟨rfl, ht⟩) (fun q h => by cases h) d_M_widthOf_33
set_option maxHeartbeats 4000000 in
set_option maxRecDepth 100000 in
theorem c_M_thrown (l : Launch) (D : va_G) (y ms mw mu mc mn mr mq md bi ne li sp q sz wa : Nat) (th en la at0 lk : Int32) : Met l y_M_thrown (WSY y_M_thrown b_M_thrown 1 (some .int)) ({ frames := 0, cells := 0, slots := 0, locals := 0 }) (va_Pc [.ref y] (fun U => va_P D CLS [(y, .inr (5, [.int th, .int (nI bi), .int (nI ne), .int (nI li), .int (nI sp), .int (nI q), .ref ms, .ref mw, .ref mu, .ref mc, .ref mn, .int en, .int (nI sz), .ref mr, .int (nI wa), .ref mq, .int la, .ref md, .int at0, .int lk]))] U.heap ∧ va_K D CLS [] U)) (QR (some (.int th))) 0 0 (fun _ => False) := by
  refine Met.ofW (cc := b_M_thrown) (maxL := 1) (ret := (some .int)) (by decide) rfl ?_
  intro p e s m args below meth c s₁ B hml hv
  obtain ⟨rfl, hP, hK⟩ := hv
  have hx := B.exec
  have hb := B.bytes
  have hr := B.returns
  have hts := atoms_spec (ws := WSY y_M_thrown b_M_thrown 1 (some .int)) B.pre
  have hg : ∀ w ∈ GW, w.before _ s = true := fun w h => hts w (List.mem_cons_of_mem _ h)
  have hown : s.vm.findClass "LineGolombModel" = some m.cls := findClass_of_methodNamed B.named
  have hlocks := B.notSynchronized
  have hS : va_S (fun _ => False) s.heap s.heap [] := va_S.rf
  have hl := lv_entry ([.ref y]) (n := 1) (Nat.le_of_ble_eq_true rfl)
  rw [lg_entry_eq]
  generalize (lg_sl ([.ref y]) ++ List.replicate (1 - (lg_sl ([.ref y])).length) Slot.unset).toArray = ls at hl ⊢
  have hl : lv_has ls 1 [(0, .ref y)] := hl
  refine lv_aload_n hx hb d_M_thrown_0 rfl (lv_at hl 0 rfl) ?_
  refine va_get (D := D) (ci := 5) (v := .int th) (C := R_M) (T := T_M) (N := 20) hx hb hg in_M hown hK hP 0 rfl rfl 0 (by decide) (hg _ gw_524) (fun _ h9 => h9) rfl d_M_thrown_1 ?_
  exact W.iret (v := th) hx hb hr (fun t ht hW => ⟨rfl, ht⟩) (fun q h => by cases h) d_M_thrown_4
set_option maxHeartbeats 4000000 in
set_option maxRecDepth 100000 in
theorem c_M_hasRoom (l : Launch) (D : va_G) (y ms mw mu mc mn mr mq md bi ne li sp q sz wa : Nat) (th en la at0 lk : Int32) (l0 : Nat) (hsz : sz ≤ 6000) (hl0 : l0 ≤ 400) : Met l y_M_hasRoom (WSY y_M_hasRoom b_M_hasRoom 1 (some .boolean)) ({ frames := 0, cells := 0, slots := 0, locals := 0 }) (va_Pc [.ref y] (fun U => va_P D CLS [(y, .inr (5, [.int th, .int (nI bi), .int (nI ne), .int (nI li), .int (nI sp), .int (nI q), .ref ms, .ref mw, .ref mu, .ref mc, .ref mn, .int en, .int (nI sz), .ref mr, .int (nI wa), .ref mq, .int (nI l0), .ref md, .int at0, .int lk]))] U.heap ∧ va_K D CLS [] U)) (QR (some (.int (if sz + l0 ≤ 6000 then 1 else 0)))) 0 0 (fun _ => False) := by
  refine Met.ofW (cc := b_M_hasRoom) (maxL := 1) (ret := (some .boolean)) (by decide) rfl ?_
  intro p e s m args below meth c s₁ B hml hv
  obtain ⟨rfl, hP, hK⟩ := hv
  have hx := B.exec
  have hb := B.bytes
  have hr := B.returns
  have hts := atoms_spec (ws := WSY y_M_hasRoom b_M_hasRoom 1 (some .boolean)) B.pre
  have hg : ∀ w ∈ GW, w.before _ s = true := fun w h => hts w (List.mem_cons_of_mem _ h)
  have hown : s.vm.findClass "LineGolombModel" = some m.cls := findClass_of_methodNamed B.named
  have hlocks := B.notSynchronized
  have hS : va_S (fun _ => False) s.heap s.heap [] := va_S.rf
  have hl := lv_entry ([.ref y]) (n := 1) (Nat.le_of_ble_eq_true rfl)
  rw [lg_entry_eq]
  generalize (lg_sl ([.ref y]) ++ List.replicate (1 - (lg_sl ([.ref y])).length) Slot.unset).toArray = ls at hl ⊢
  have hl : lv_has ls 1 [(0, .ref y)] := hl
  refine lv_aload_n hx hb d_M_hasRoom_0 rfl (lv_at hl 0 rfl) ?_
  refine va_get (D := D) (ci := 5) (v := .int (nI sz)) (C := R_M) (T := T_M) (N := 20) hx hb hg in_M hown hK hP 0 rfl rfl 12 (by decide) (hg _ gw_536) (fun _ h9 => h9) rfl d_M_hasRoom_1 ?_
  refine lv_aload_n hx hb d_M_hasRoom_4 rfl (lv_at hl 0 rfl) ?_
  refine va_get (D := D) (ci := 5) (v := .int (nI l0)) (C := R_M) (T := T_M) (N := 20) hx hb hg in_M hown hK hP 0 rfl rfl 16 (by decide) (hg _ gw_540) (fun _ h9 => h9) rfl d_M_hasRoom_5 ?_
  refine lv_iadd hx hb d_M_hasRoom_8 ?_
  refine tpi (y := nI (sz + l0)) (nI_add _ _) ?_
  refine lv_sipush (v := 6000) hx hb d_M_hasRoom_9 (by decide) ?_
  refine lv_icmp_gt (tgt := 19) hx hb d_M_hasRoom_12 (by decide) (fun c_1 => ?_) (fun c_1 => ?_)
  · skip
    have g1 := (nI_ltI (a := 6000) (by omega) (by omega)).mp c_1
    refine lv_iconst (v := 0) hx hb d_M_hasRoom_19 (by decide) ?_
    refine tpi (y := if sz + l0 ≤ 6000 then 1 else 0) ((if_neg (by omega)).symm) ?_
    exact W.zret (v := if sz + l0 ≤ 6000 then 1 else 0) hx hb hr (by rw [if_neg (by omega)]; rfl) (fun t ht hW => ⟨rfl, ht⟩) (fun q h => by cases h) d_M_hasRoom_20
  · skip
    have g1 : ¬ 6000 < sz + l0 := fun z => c_1 ((nI_ltI (a := 6000) (by omega) (by omega)).mpr z)
    refine lv_iconst (v := 1) hx hb d_M_hasRoom_15 (by decide) ?_
    refine lv_goto (tgt := 20) hx hb d_M_hasRoom_16 (by decide) ?_
    refine tpi (y := if sz + l0 ≤ 6000 then 1 else 0) ((if_pos (by omega)).symm) ?_
    exact W.zret (v := if sz + l0 ≤ 6000 then 1 else 0) hx hb hr (by rw [if_pos (by omega)]; rfl) (fun t ht hW => ⟨rfl, ht⟩) (fun q h => by cases h) d_M_hasRoom_20
set_option maxHeartbeats 4000000 in
set_option maxRecDepth 100000 in
theorem c_M_isKind (l : Launch) (D : va_G) (y ms mw mu mc mn mr mq md bi ne li sp q sz wa : Nat) (th en la at0 lk : Int32) (k : Int32) : Met l y_M_isKind (WSY y_M_isKind b_M_isKind 2 (some .boolean)) ({ frames := 0, cells := 0, slots := 0, locals := 0 }) (va_Pc [.ref y, .int k] (fun U => va_P D CLS [(y, .inr (5, [.int th, .int (nI bi), .int (nI ne), .int (nI li), .int (nI sp), .int (nI q), .ref ms, .ref mw, .ref mu, .ref mc, .ref mn, .int en, .int (nI sz), .ref mr, .int (nI wa), .ref mq, .int la, .ref md, .int at0, .int lk]))] U.heap ∧ va_K D CLS [] U)) (QR (some (.int (if k = 0 ∨ k = 1 then 1 else 0)))) 0 0 (fun _ => False) := by
  refine Met.ofW (cc := b_M_isKind) (maxL := 2) (ret := (some .boolean)) (by decide) rfl ?_
  intro p e s m args below meth c s₁ B hml hv
  obtain ⟨rfl, hP, hK⟩ := hv
  have hx := B.exec
  have hb := B.bytes
  have hr := B.returns
  have hts := atoms_spec (ws := WSY y_M_isKind b_M_isKind 2 (some .boolean)) B.pre
  have hg : ∀ w ∈ GW, w.before _ s = true := fun w h => hts w (List.mem_cons_of_mem _ h)
  have hown : s.vm.findClass "LineGolombModel" = some m.cls := findClass_of_methodNamed B.named
  have hlocks := B.notSynchronized
  have hS : va_S (fun _ => False) s.heap s.heap [] := va_S.rf
  have hl := lv_entry ([.ref y, .int k]) (n := 2) (Nat.le_of_ble_eq_true rfl)
  rw [lg_entry_eq]
  generalize (lg_sl ([.ref y, .int k]) ++ List.replicate (2 - (lg_sl ([.ref y, .int k])).length) Slot.unset).toArray = ls at hl ⊢
  have hl : lv_has ls 2 [(0, .ref y), (1, .int k)] := hl
  refine lv_iload_n hx hb d_M_isKind_0 rfl (lv_at hl 1 rfl) ?_
  refine lv_if_eq (tgt := 9) hx hb d_M_isKind_1 (by decide) (fun c_1 => ?_) (fun c_1 => ?_)
  · skip
    refine lv_iconst (v := 1) hx hb d_M_isKind_9 (by decide) ?_
    refine lv_goto (tgt := 14) hx hb d_M_isKind_10 (by decide) ?_
    refine tpi (y := if k = 0 ∨ k = 1 then 1 else 0) ((if_pos (Or.inl c_1)).symm) ?_
    exact W.zret (v := if k = 0 ∨ k = 1 then 1 else 0) hx hb hr (by rw [if_pos (Or.inl c_1)]; rfl) (fun t ht hW => ⟨rfl, ht⟩) (fun q h => by cases h) d_M_isKind_14
  · skip
    refine lv_iload_n hx hb d_M_isKind_4 rfl (lv_at hl 1 rfl) ?_
    refine lv_iconst (v := 1) hx hb d_M_isKind_5 (by decide) ?_
    refine lv_icmp_ne (tgt := 13) hx hb d_M_isKind_6 (by decide) (fun c_2 => ?_) (fun c_2 => ?_)
    · skip
      refine lv_iconst (v := 0) hx hb d_M_isKind_13 (by decide) ?_
      refine tpi (y := if k = 0 ∨ k = 1 then 1 else 0) ((if_neg (fun z => z.elim c_1 c_2)).symm) ?_
      exact W.zret (v := if k = 0 ∨ k = 1 then 1 else 0) hx hb hr (by rw [if_neg (fun z => z.elim c_1 c_2)]; rfl) (fun t ht hW => ⟨rfl, ht⟩) (fun q h => by cases h) d_M_isKind_14
    · skip
      refine lv_iconst (v := 1) hx hb d_M_isKind_9 (by decide) ?_
      refine lv_goto (tgt := 14) hx hb d_M_isKind_10 (by decide) ?_
      refine tpi (y := if k = 0 ∨ k = 1 then 1 else 0) ((if_pos (Or.inr c_2)).symm) ?_
      exact W.zret (v := if k = 0 ∨ k = 1 then 1 else 0) hx hb hr (by rw [if_pos (Or.inr c_2)]; rfl) (fun t ht hW => ⟨rfl, ht⟩) (fun q h => by cases h) d_M_isKind_14
set_option maxHeartbeats 4000000 in
set_option maxRecDepth 100000 in
theorem c_M_isError (l : Launch) (D : va_G) (y ms mw mu mc mn mr mq md bi ne li sp q sz wa : Nat) (th en la at0 lk : Int32) (kd e0 : Int32) (hsp : sp < 2 ^ 30) : Met l y_M_isError (WSY y_M_isError b_M_isError 3 (some .boolean)) ({ frames := 0, cells := 0, slots := 0, locals := 0 }) (va_Pc [.ref y, .int kd, .int e0] (fun U => va_P D CLS [(y, .inr (5, [.int th, .int (nI bi), .int (nI ne), .int (nI li), .int (nI sp), .int (nI q), .ref ms, .ref mw, .ref mu, .ref mc, .ref mn, .int en, .int (nI sz), .ref mr, .int (nI wa), .ref mq, .int la, .ref md, .int at0, .int lk]))] U.heap ∧ va_K D CLS [] U)) (QR (some (.int (if (-((sp / 2 : Nat) : Int) ≤ e0.toInt ∧ e0.toInt ≤ ((sp / 2 : Nat) : Int) ∧ (¬ e0 = 0 ∨ kd = 0)) then 1 else 0)))) 0 0 (fun _ => False) := by
  refine Met.ofW (cc := b_M_isError) (maxL := 3) (ret := (some .boolean)) (by decide) rfl ?_
  intro p e s m args below meth c s₁ B hml hv
  obtain ⟨rfl, hP, hK⟩ := hv
  have hx := B.exec
  have hb := B.bytes
  have hr := B.returns
  have hts := atoms_spec (ws := WSY y_M_isError b_M_isError 3 (some .boolean)) B.pre
  have hg : ∀ w ∈ GW, w.before _ s = true := fun w h => hts w (List.mem_cons_of_mem _ h)
  have hown : s.vm.findClass "LineGolombModel" = some m.cls := findClass_of_methodNamed B.named
  have hlocks := B.notSynchronized
  have hS : va_S (fun _ => False) s.heap s.heap [] := va_S.rf
  have hl := lv_entry ([.ref y, .int kd, .int e0]) (n := 3) (Nat.le_of_ble_eq_true rfl)
  rw [lg_entry_eq]
  generalize (lg_sl ([.ref y, .int kd, .int e0]) ++ List.replicate (3 - (lg_sl ([.ref y, .int kd, .int e0])).length) Slot.unset).toArray = ls at hl ⊢
  have hl : lv_has ls 3 [(0, .ref y), (1, .int kd), (2, .int e0)] := hl
  refine lv_iload_n hx hb d_M_isError_0 rfl (lv_at hl 2 rfl) ?_
  refine lv_aload_n hx hb d_M_isError_1 rfl (lv_at hl 0 rfl) ?_
  refine va_get (D := D) (ci := 5) (v := .int (nI sp)) (C := R_M) (T := T_M) (N := 20) hx hb hg in_M hown hK hP 0 rfl rfl 4 (by decide) (hg _ gw_528) (fun _ h9 => h9) rfl d_M_isError_2 ?_
  refine lv_iconst (v := 2) hx hb d_M_isError_5 (by decide) ?_
  refine lv_idiv hx hb d_M_isError_6 (by decide) ?_
  refine tpi (y := nI (sp / 2)) (div2 (by omega)) ?_
  refine lv_ineg hx hb d_M_isError_7 ?_
  refine lv_icmp_lt (tgt := 33) hx hb d_M_isError_8 (by decide) (fun c_1 => ?_) (fun c_1 => ?_)
  · skip
    have h1 : ¬ -((sp / 2 : Nat) : Int) ≤ e0.toInt := by have := ltT.mp c_1; rw [ngT (by omega)] at this; omega
    refine lv_iconst (v := 0) hx hb d_M_isError_33 (by decide) ?_
    refine tpi (y := if (-((sp / 2 : Nat) : Int) ≤ e0.toInt ∧ e0.toInt ≤ ((sp / 2 : Nat) : Int) ∧ (¬ e0 = 0 ∨ kd = 0)) then 1 else 0) ((if_neg (fun z => h1 z.1)).symm) ?_
    exact W.zret (v := if (-((sp / 2 : Nat) : Int) ≤ e0.toInt ∧ e0.toInt ≤ ((sp / 2 : Nat) : Int) ∧ (¬ e0 = 0 ∨ kd = 0)) then 1 else 0) hx hb hr (by rw [if_neg (fun z => h1 z.1)]; rfl) (fun t ht hW => ⟨rfl, ht⟩) (fun q h => by cases h) d_M_isError_34
  · skip
    have h1 : -((sp / 2 : Nat) : Int) ≤ e0.toInt := by have : ¬ e0.toInt < (-nI (sp / 2)).toInt := fun z => c_1 (ltT.mpr z); rw [ngT (by omega)] at this; omega
    refine lv_iload_n hx hb d_M_isError_11 rfl (lv_at hl 2 rfl) ?_
    refine lv_aload_n hx hb d_M_isError_12 rfl (lv_at hl 0 rfl) ?_
    refine va_get (D := D) (ci := 5) (v := .int (nI sp)) (C := R_M) (T := T_M) (N := 20) hx hb hg in_M hown hK hP 0 rfl rfl 4 (by decide) (hg _ gw_528) (fun _ h9 => h9) rfl d_M_isError_13 ?_
    refine lv_iconst (v := 2) hx hb d_M_isError_16 (by decide) ?_
    refine lv_idiv hx hb d_M_isError_17 (by decide) ?_
    refine tpi (y := nI (sp / 2)) (div2 (by omega)) ?_
    refine lv_icmp_gt (tgt := 33) hx hb d_M_isError_18 (by decide) (fun c_2 => ?_) (fun c_2 => ?_)
    · skip
      have h2 : ¬ e0.toInt ≤ ((sp / 2 : Nat) : Int) := by have := ltT.mp c_2; rw [nI_toInt (by omega)] at this; omega
      refine lv_iconst (v := 0) hx hb d_M_isError_33 (by decide) ?_
      refine tpi (y := if (-((sp / 2 : Nat) : Int) ≤ e0.toInt ∧ e0.toInt ≤ ((sp / 2 : Nat) : Int) ∧ (¬ e0 = 0 ∨ kd = 0)) then 1 else 0) ((if_neg (fun z => h2 z.2.1)).symm) ?_
      exact W.zret (v := if (-((sp / 2 : Nat) : Int) ≤ e0.toInt ∧ e0.toInt ≤ ((sp / 2 : Nat) : Int) ∧ (¬ e0 = 0 ∨ kd = 0)) then 1 else 0) hx hb hr (by rw [if_neg (fun z => h2 z.2.1)]; rfl) (fun t ht hW => ⟨rfl, ht⟩) (fun q h => by cases h) d_M_isError_34
    · skip
      have h2 : e0.toInt ≤ ((sp / 2 : Nat) : Int) := by have : ¬ (nI (sp / 2)).toInt < e0.toInt := fun z => c_2 (ltT.mpr z); rw [nI_toInt (by omega)] at this; omega
      refine lv_iload_n hx hb d_M_isError_21 rfl (lv_at hl 1 rfl) ?_
      refine lv_if_eq (tgt := 29) hx hb d_M_isError_22 (by decide) (fun c_3 => ?_) (fun c_3 => ?_)
      · skip
        refine lv_iconst (v := 1) hx hb d_M_isError_29 (by decide) ?_
        refine lv_goto (tgt := 34) hx hb d_M_isError_30 (by decide) ?_
        refine tpi (y := if (-((sp / 2 : Nat) : Int) ≤ e0.toInt ∧ e0.toInt ≤ ((sp / 2 : Nat) : Int) ∧ (¬ e0 = 0 ∨ kd = 0)) then 1 else 0) ((if_pos (⟨h1, h2, Or.inr c_3⟩)).symm) ?_
        exact W.zret (v := if (-((sp / 2 : Nat) : Int) ≤ e0.toInt ∧ e0.toInt ≤ ((sp / 2 : Nat) : Int) ∧ (¬ e0 = 0 ∨ kd = 0)) then 1 else 0) hx hb hr (by rw [if_pos (⟨h1, h2, Or.inr c_3⟩)]; rfl) (fun t ht hW => ⟨rfl, ht⟩) (fun q h => by cases h) d_M_isError_34
      · skip
        refine lv_iload_n hx hb d_M_isError_25 rfl (lv_at hl 2 rfl) ?_
        refine lv_if_eq (tgt := 33) hx hb d_M_isError_26 (by decide) (fun c_4 => ?_) (fun c_4 => ?_)
        · skip
          refine lv_iconst (v := 0) hx hb d_M_isError_33 (by decide) ?_
          refine tpi (y := if (-((sp / 2 : Nat) : Int) ≤ e0.toInt ∧ e0.toInt ≤ ((sp / 2 : Nat) : Int) ∧ (¬ e0 = 0 ∨ kd = 0)) then 1 else 0) ((if_neg (fun z => z.2.2.elim (fun q => q c_4) c_3)).symm) ?_
          exact W.zret (v := if (-((sp / 2 : Nat) : Int) ≤ e0.toInt ∧ e0.toInt ≤ ((sp / 2 : Nat) : Int) ∧ (¬ e0 = 0 ∨ kd = 0)) then 1 else 0) hx hb hr (by rw [if_neg (fun z => z.2.2.elim (fun q => q c_4) c_3)]; rfl) (fun t ht hW => ⟨rfl, ht⟩) (fun q h => by cases h) d_M_isError_34
        · skip
          refine lv_iconst (v := 1) hx hb d_M_isError_29 (by decide) ?_
          refine lv_goto (tgt := 34) hx hb d_M_isError_30 (by decide) ?_
          refine tpi (y := if (-((sp / 2 : Nat) : Int) ≤ e0.toInt ∧ e0.toInt ≤ ((sp / 2 : Nat) : Int) ∧ (¬ e0 = 0 ∨ kd = 0)) then 1 else 0) ((if_pos (⟨h1, h2, Or.inl c_4⟩)).symm) ?_
          exact W.zret (v := if (-((sp / 2 : Nat) : Int) ≤ e0.toInt ∧ e0.toInt ≤ ((sp / 2 : Nat) : Int) ∧ (¬ e0 = 0 ∨ kd = 0)) then 1 else 0) hx hb hr (by rw [if_pos (⟨h1, h2, Or.inl c_4⟩)]; rfl) (fun t ht hW => ⟨rfl, ht⟩) (fun q h => by cases h) d_M_isError_34
set_option maxHeartbeats 4000000 in
set_option maxRecDepth 100000 in
theorem c_M_kOf0 (l : Launch) (D : va_G) (y ms mw mu mc mn mr mq md bi ne li sp q sz wa : Nat) (th en la at0 lk : Int32) (cI : ClassId) (su cu nu : Nat → Int32) (sm ct ng K : Nat) (hsu : su 0 = nI sm) (hcu : cu 0 = nI ct) (hnu : nu 0 = nI ng) (hc0 : ct ≤ 64) (hn0 : ng ≤ 64) (hs0 : sm < 2 ^ 30) (hKb : K ≤ 29) (hK1 : sm ≤ ct * 2 ^ K) (hK2 : ∀ j, j < K → ct * 2 ^ j < sm) : Met l y_M_kOf (WSY y_M_kOf b_M_kOf 4 (some .int)) ({ frames := 1, cells := 0, slots := 0, locals := 22 }) (va_Pc [.ref y, .int 0] (fun U => va_P D CLS [(y, .inr (5, [.int th, .int (nI bi), .int (nI ne), .int (nI li), .int (nI sp), .int (nI q), .ref ms, .ref mw, .ref mu, .ref mc, .ref mn, .int en, .int (nI sz), .ref mr, .int (nI wa), .ref mq, .int la, .ref md, .int at0, .int lk])), (mu, .inl (cI, 4, .inl su)), (mc, .inl (cI, 4, .inl cu)), (mn, .inl (cI, 4, .inl nu))] U.heap ∧ va_K D CLS [(cI, .int)] U)) (QR (some (.int (nI K)))) 0 0 (fun _ => False) := by
  refine Met.ofW (cc := b_M_kOf) (maxL := 4) (ret := (some .int)) (by decide) rfl ?_
  intro p e s m args below meth c s₁ B hml hv
  obtain ⟨rfl, hP, hK⟩ := hv
  have hx := B.exec
  have hb := B.bytes
  have hr := B.returns
  have hts := atoms_spec (ws := WSY y_M_kOf b_M_kOf 4 (some .int)) B.pre
  have hg : ∀ w ∈ GW, w.before _ s = true := fun w h => hts w (List.mem_cons_of_mem _ h)
  have hown : s.vm.findClass "LineGolombModel" = some m.cls := findClass_of_methodNamed B.named
  have hlocks := B.notSynchronized
  have hS : va_S (fun _ => False) s.heap s.heap [] := va_S.rf
  have hl := lv_entry ([.ref y, .int 0]) (n := 4) (Nat.le_of_ble_eq_true rfl)
  rw [lg_entry_eq]
  generalize (lg_sl ([.ref y, .int 0]) ++ List.replicate (4 - (lg_sl ([.ref y, .int 0])).length) Slot.unset).toArray = ls at hl ⊢
  have hl : lv_has ls 4 [(0, .ref y), (1, .int 0)] := hl
  refine lv_aload_n hx hb d_M_kOf_0 rfl (lv_at hl 0 rfl) ?_
  refine va_get (D := D) (ci := 5) (v := .ref mu) (C := R_M) (T := T_M) (N := 20) hx hb hg in_M hown hK hP 0 rfl rfl 8 (by decide) (hg _ gw_532) (fun _ h9 => h9) rfl d_M_kOf_1 ?_
  refine lv_iload_n hx hb d_M_kOf_4 rfl (lv_at hl 1 rfl) ?_
  refine va_iald hx hb hK hP 1 0 rfl rfl (vp_in_nI (n := 0) (by decide) (by decide)) d_M_kOf_5 ?_
  refine tpi (y := nI sm) (hsu) ?_
  refine lv_iload_n hx hb d_M_kOf_6 rfl (lv_at hl 1 rfl) ?_
  refine lv_iconst (v := 2) hx hb d_M_kOf_7 (by decide) ?_
  refine lv_irem hx hb d_M_kOf_8 (by decide) ?_
  refine tpi (y := 0) (by decide) ?_
  refine lv_iconst (v := 1) hx hb d_M_kOf_9 (by decide) ?_
  refine lv_icmp_ne (tgt := 24) hx hb d_M_kOf_10 (by decide) (fun c_1 => ?_) (fun c_1 => ?_)
  · skip
    refine lv_iconst (v := 0) hx hb d_M_kOf_24 (by decide) ?_
    refine lv_iadd hx hb d_M_kOf_25 ?_
    refine tpi (y := nI sm) (nI_add sm 0) ?_
    refine lv_istore_n (lv' := [(2, .int (nI sm)), (0, .ref y), (1, .int 0)]) hx hb d_M_kOf_26 rfl hl (by decide) rfl (fun ls hl => ?_)
    refine lv_iconst (v := 0) hx hb d_M_kOf_27 (by decide) ?_
    refine lv_istore_n (lv' := [(3, .int 0), (2, .int (nI sm)), (0, .ref y), (1, .int 0)]) hx hb d_M_kOf_28 rfl hl (by decide) rfl (fun ls hl => ?_)
    have loop : ∀ (d k : Nat), k + d = K → ∀ (ls : Array Slot), lv_has ls 4 [(3, .int (nI k)), (2, .int (nI (sm))), (0, .ref y), (1, .int 0)] → W p l e (headSpec (WSY y_M_kOf b_M_kOf 4 (some .int)) ({ frames := 1, cells := 0, slots := 0, locals := 22 })).room s m ([.ref y, .int 0] : List Value).toArray below meth c s.heap [] 0 0 (MQ below (QR (some (.int (nI K)))) ([.ref y, .int 0] : List Value).toArray s 0 0 (fun _ => False)) (F0 m 29 ls []) := by
      intro d
      induction d with
      | zero =>
        intro k hk ls hl
        obtain rfl : K = k := by omega
        have h2 : ct * 2 ^ K < 2 ^ 63 := Nat.lt_of_le_of_lt (Nat.mul_le_mul hc0 (pw30 (show K ≤ 30 by omega))) (by decide)
        have h3 := pw30 (show K ≤ 30 by omega)
        refine lv_aload_n hx hb d_M_kOf_29 rfl (lv_at hl 2 rfl) ?_
        refine va_get (D := D) (ci := 5) (v := .ref mc) (C := R_M) (T := T_M) (N := 20) hx hb hg in_M hown hK hP 0 rfl rfl 9 (by decide) (hg _ gw_533) (fun _ h9 => h9) rfl d_M_kOf_30 ?_
        refine lv_iload_n hx hb d_M_kOf_33 rfl (lv_at hl 3 rfl) ?_
        refine va_iald hx hb hK hP 2 0 rfl rfl (vp_in_nI (n := 0) (by decide) (by decide)) d_M_kOf_34 ?_
        refine tpi (y := nI ct) (hcu) ?_
        refine lv_i2l (v := lN ct) hx hb d_M_kOf_35 (nI_l (by omega)) ?_
        refine lv_iload_n hx hb d_M_kOf_36 rfl (lv_at hl 0 rfl) ?_
        have hPc := hP.sub (ws' := []) [] rfl
        have hKc := hK.sub (tys' := []) [] rfl
        refine pci (va_runS (As := [.int (nI K)]) (rest := [.long (lN ct)]) ⟨hx, hb, hml, hown, hg⟩ (c_M_power l D K (by omega)) (va_cwS 1 hg (gS gw_517 gw_518 gw_7 gw_519) rfl rfl rfl (by decide +kernel) ⟨Nat.le_of_ble_eq_true rfl, Nat.le_of_ble_eq_true rfl⟩) ⟨fun a U g mk q => by obtain ⟨q0, qP, qK⟩ := q; exact ⟨q0, qP, va_K.moved (u := U) (U := U.calling g mk a) (Vm.Alike.refl U.vm) qK⟩, fun U hU hW => ⟨rfl, by rw [hU]; exact hPc, va_K.moved hW.alike hKc⟩⟩ rfl rfl hl.1 rfl (lv_room (Nat.le_of_ble_eq_true rfl)) d_M_kOf_37 (⟨Nat.le_of_ble_eq_true rfl, Nat.le_of_ble_eq_true rfl⟩)) ?_
        refine lv_i2l (v := lN (2 ^ K)) hx hb d_M_kOf_40 (nI_l (by omega)) ?_
        refine lv_lmul hx hb d_M_kOf_41 ?_
        refine tpl (y := lN (ct * 2 ^ K)) (lN_mul _ _) ?_
        refine lv_iload_n hx hb d_M_kOf_42 rfl (lv_at hl 1 rfl) ?_
        refine lv_i2l (v := lN (sm)) hx hb d_M_kOf_43 (nI_l (by omega)) ?_
        refine W.lcmp hx hb d_M_kOf_44 ?_
        refine lv_if_ge (tgt := 54) hx hb d_M_kOf_45 (by decide) (fun c_2 => ?_) (fun c_2 => ?_)
        · skip
          refine lv_iload_n hx hb d_M_kOf_54 rfl (lv_at hl 0 rfl) ?_
          exact W.iret (v := nI K) hx hb hr (fun t ht hW => ⟨rfl, ht⟩) (fun q h => by cases h) d_M_kOf_55
        · skip
          exact absurd ((lg_cmp_ge _ _).mpr ((pk_lLE (by omega) h2).mpr hK1)) c_2
      | succ d ih =>
        intro k hk ls hl
        have h2 : ct * 2 ^ k < 2 ^ 63 := Nat.lt_of_le_of_lt (Nat.mul_le_mul hc0 (pw30 (show k ≤ 30 by omega))) (by decide)
        have h3 := pw30 (show k ≤ 30 by omega)
        refine lv_aload_n hx hb d_M_kOf_29 rfl (lv_at hl 2 rfl) ?_
        refine va_get (D := D) (ci := 5) (v := .ref mc) (C := R_M) (T := T_M) (N := 20) hx hb hg in_M hown hK hP 0 rfl rfl 9 (by decide) (hg _ gw_533) (fun _ h9 => h9) rfl d_M_kOf_30 ?_
        refine lv_iload_n hx hb d_M_kOf_33 rfl (lv_at hl 3 rfl) ?_
        refine va_iald hx hb hK hP 2 0 rfl rfl (vp_in_nI (n := 0) (by decide) (by decide)) d_M_kOf_34 ?_
        refine tpi (y := nI ct) (hcu) ?_
        refine lv_i2l (v := lN ct) hx hb d_M_kOf_35 (nI_l (by omega)) ?_
        refine lv_iload_n hx hb d_M_kOf_36 rfl (lv_at hl 0 rfl) ?_
        have hPc := hP.sub (ws' := []) [] rfl
        have hKc := hK.sub (tys' := []) [] rfl
        refine pci (va_runS (As := [.int (nI k)]) (rest := [.long (lN ct)]) ⟨hx, hb, hml, hown, hg⟩ (c_M_power l D k (by omega)) (va_cwS 1 hg (gS gw_517 gw_518 gw_7 gw_519) rfl rfl rfl (by decide +kernel) ⟨Nat.le_of_ble_eq_true rfl, Nat.le_of_ble_eq_true rfl⟩) ⟨fun a U g mk q => by obtain ⟨q0, qP, qK⟩ := q; exact ⟨q0, qP, va_K.moved (u := U) (U := U.calling g mk a) (Vm.Alike.refl U.vm) qK⟩, fun U hU hW => ⟨rfl, by rw [hU]; exact hPc, va_K.moved hW.alike hKc⟩⟩ rfl rfl hl.1 rfl (lv_room (Nat.le_of_ble_eq_true rfl)) d_M_kOf_37 (⟨Nat.le_of_ble_eq_true rfl, Nat.le_of_ble_eq_true rfl⟩)) ?_
        refine lv_i2l (v := lN (2 ^ k)) hx hb d_M_kOf_40 (nI_l (by omega)) ?_
        refine lv_lmul hx hb d_M_kOf_41 ?_
        refine tpl (y := lN (ct * 2 ^ k)) (lN_mul _ _) ?_
        refine lv_iload_n hx hb d_M_kOf_42 rfl (lv_at hl 1 rfl) ?_
        refine lv_i2l (v := lN (sm)) hx hb d_M_kOf_43 (nI_l (by omega)) ?_
        refine W.lcmp hx hb d_M_kOf_44 ?_
        refine lv_if_ge (tgt := 54) hx hb d_M_kOf_45 (by decide) (fun c_3 => ?_) (fun c_3 => ?_)
        · skip
          exact absurd ((pk_lLE (by omega) h2).mp ((lg_cmp_ge _ _).mp c_3)) (by have := hK2 k (by omega); omega)
        · skip
          refine lv_iinc (v := nI (k + 1)) (lv' := [(3, .int (nI (k + 1))), (2, .int (nI (sm))), (0, .ref y), (1, .int 0)]) hx hb d_M_kOf_48 hl (k := 0) rfl (nI_1 k) (by decide) rfl (fun ls hl => ?_)
          refine lv_goto (tgt := 29) hx hb d_M_kOf_51 (by decide) ?_
          exact ih (k + 1) (by omega) ls (lv_sub hl [0, 1, 2, 3] rfl)
    exact loop K 0 (by omega) ls hl
  · skip
    exact absurd c_1 (by decide)
set_option maxHeartbeats 4000000 in
set_option maxRecDepth 100000 in
theorem c_M_isUp0 (l : Launch) (D : va_G) (y ms mw mu mc mn mr mq md bi ne li sp q sz wa : Nat) (th en la at0 lk : Int32) (cI : ClassId) (su cu nu : Nat → Int32) (sm ct ng K : Nat) (hsu : su 0 = nI sm) (hcu : cu 0 = nI ct) (hnu : nu 0 = nI ng) (hc0 : ct ≤ 64) (hn0 : ng ≤ 64) (hs0 : sm < 2 ^ 30) (hKb : K ≤ 29) (hK1 : sm ≤ ct * 2 ^ K) (hK2 : ∀ j, j < K → ct * 2 ^ j < sm) : Met l y_M_isUp (WSY y_M_isUp b_M_isUp 2 (some .boolean)) ({ frames := 2, cells := 0, slots := 0, locals := 45 }) (va_Pc [.ref y, .int 0] (fun U => va_P D CLS [(y, .inr (5, [.int th, .int (nI bi), .int (nI ne), .int (nI li), .int (nI sp), .int (nI q), .ref ms, .ref mw, .ref mu, .ref mc, .ref mn, .int en, .int (nI sz), .ref mr, .int (nI wa), .ref mq, .int la, .ref md, .int at0, .int lk])), (mu, .inl (cI, 4, .inl su)), (mc, .inl (cI, 4, .inl cu)), (mn, .inl (cI, 4, .inl nu))] U.heap ∧ va_K D CLS [(cI, .int)] U)) (QR (some (.int (if K = 0 ∧ 2 * ng < ct then 1 else 0)))) 0 0 (fun _ => False) := by
  refine Met.ofW (cc := b_M_isUp) (maxL := 2) (ret := (some .boolean)) (by decide) rfl ?_
  intro p e s m args below meth c s₁ B hml hv
  obtain ⟨rfl, hP, hK⟩ := hv
  have hx := B.exec
  have hb := B.bytes
  have hr := B.returns
  have hts := atoms_spec (ws := WSY y_M_isUp b_M_isUp 2 (some .boolean)) B.pre
  have hg : ∀ w ∈ GW, w.before _ s = true := fun w h => hts w (List.mem_cons_of_mem _ h)
  have hown : s.vm.findClass "LineGolombModel" = some m.cls := findClass_of_methodNamed B.named
  have hlocks := B.notSynchronized
  have hS : va_S (fun _ => False) s.heap s.heap [] := va_S.rf
  have hl := lv_entry ([.ref y, .int 0]) (n := 2) (Nat.le_of_ble_eq_true rfl)
  rw [lg_entry_eq]
  generalize (lg_sl ([.ref y, .int 0]) ++ List.replicate (2 - (lg_sl ([.ref y, .int 0])).length) Slot.unset).toArray = ls at hl ⊢
  have hl : lv_has ls 2 [(0, .ref y), (1, .int 0)] := hl
  refine lv_aload_n hx hb d_M_isUp_0 rfl (lv_at hl 0 rfl) ?_
  refine lv_iload_n hx hb d_M_isUp_1 rfl (lv_at hl 1 rfl) ?_
  have hPc := hP.sub (ws' := [(y, .inr (5, [.int th, .int (nI bi), .int (nI ne), .int (nI li), .int (nI sp), .int (nI q), .ref ms, .ref mw, .ref mu, .ref mc, .ref mn, .int en, .int (nI sz), .ref mr, .int (nI wa), .ref mq, .int la, .ref md, .int at0, .int lk])), (mu, .inl (cI, 4, .inl su)), (mc, .inl (cI, 4, .inl cu)), (mn, .inl (cI, 4, .inl nu))]) [0, 1, 2, 3] rfl
  have hKc := hK.sub (tys' := [(cI, .int)]) [0] rfl
  refine pci (va_runV (As := [.int 0]) (rest := []) ⟨hx, hb, hml, hown, hg⟩ (c_M_kOf0 l D y ms mw mu mc mn mr mq md bi ne li sp q sz wa th en la at0 lk cI su cu nu sm ct ng K hsu hcu hnu hc0 hn0 hs0 hKb hK1 hK2) (cwV 1 hg (gV gw_638 gw_640 gs_21 gw_7 gw_641) rfl rfl rfl (by decide +kernel) ⟨Nat.le_of_ble_eq_true rfl, Nat.le_of_ble_eq_true rfl⟩) ⟨fun a U g mk q => by obtain ⟨q0, qP, qK⟩ := q; exact ⟨q0, qP, va_K.moved (u := U) (U := U.calling g mk a) (Vm.Alike.refl U.vm) qK⟩, va_recv hKc hPc (ci := 5) (q0 := 0) rfl rfl, fun U hU hW => ⟨rfl, by rw [hU]; exact hPc, va_K.moved hW.alike hKc⟩⟩ rfl rfl hl.1 rfl (lv_room (Nat.le_of_ble_eq_true rfl)) d_M_isUp_2 (⟨Nat.le_of_ble_eq_true rfl, Nat.le_of_ble_eq_true rfl⟩)) ?_
  refine lv_if_ne (tgt := 29) hx hb d_M_isUp_5 (by decide) (fun c_1 => ?_) (fun c_1 => ?_)
  · skip
    have h1 : ¬ K = 0 := fun z => c_1 (by rw [z]; rfl)
    refine lv_iconst (v := 0) hx hb d_M_isUp_29 (by decide) ?_
    refine tpi (y := if K = 0 ∧ 2 * ng < ct then 1 else 0) ((if_neg (fun z => h1 z.1)).symm) ?_
    exact W.zret (v := if K = 0 ∧ 2 * ng < ct then 1 else 0) hx hb hr (by rw [if_neg (fun z => h1 z.1)]; rfl) (fun t ht hW => ⟨rfl, ht⟩) (fun q h => by cases h) d_M_isUp_30
  · skip
    have h1 : K = 0 := by have := (nI_eq (a := K) (b := 0) (by omega) (by omega)).mp c_1; omega
    refine lv_iconst (v := 2) hx hb d_M_isUp_8 (by decide) ?_
    refine lv_aload_n hx hb d_M_isUp_9 rfl (lv_at hl 0 rfl) ?_
    refine va_get (D := D) (ci := 5) (v := .ref mn) (C := R_M) (T := T_M) (N := 20) hx hb hg in_M hown hK hP 0 rfl rfl 10 (by decide) (hg _ gw_534) (fun _ h9 => h9) rfl d_M_isUp_10 ?_
    refine lv_iload_n hx hb d_M_isUp_13 rfl (lv_at hl 1 rfl) ?_
    refine va_iald hx hb hK hP 3 0 rfl rfl (vp_in_nI (n := 0) (by decide) (by decide)) d_M_isUp_14 ?_
    refine tpi (y := nI ng) (hnu) ?_
    refine lv_imul hx hb d_M_isUp_15 ?_
    refine tpi (y := nI (2 * ng)) (mul2 ng) ?_
    refine lv_aload_n hx hb d_M_isUp_16 rfl (lv_at hl 0 rfl) ?_
    refine va_get (D := D) (ci := 5) (v := .ref mc) (C := R_M) (T := T_M) (N := 20) hx hb hg in_M hown hK hP 0 rfl rfl 9 (by decide) (hg _ gw_533) (fun _ h9 => h9) rfl d_M_isUp_17 ?_
    refine lv_iload_n hx hb d_M_isUp_20 rfl (lv_at hl 1 rfl) ?_
    refine va_iald hx hb hK hP 2 0 rfl rfl (vp_in_nI (n := 0) (by decide) (by decide)) d_M_isUp_21 ?_
    refine tpi (y := nI ct) (hcu) ?_
    refine lv_icmp_ge (tgt := 29) hx hb d_M_isUp_22 (by decide) (fun c_2 => ?_) (fun c_2 => ?_)
    · skip
      have h2 := (nI_leI (by omega) (by omega)).mp c_2
      refine lv_iconst (v := 0) hx hb d_M_isUp_29 (by decide) ?_
      refine tpi (y := if K = 0 ∧ 2 * ng < ct then 1 else 0) ((if_neg (fun z => by omega)).symm) ?_
      exact W.zret (v := if K = 0 ∧ 2 * ng < ct then 1 else 0) hx hb hr (by rw [if_neg (fun z => by omega)]; rfl) (fun t ht hW => ⟨rfl, ht⟩) (fun q h => by cases h) d_M_isUp_30
    · skip
      have h2 : ¬ ct ≤ 2 * ng := fun z => c_2 ((nI_leI (by omega) (by omega)).mpr z)
      refine lv_iconst (v := 1) hx hb d_M_isUp_25 (by decide) ?_
      refine lv_goto (tgt := 30) hx hb d_M_isUp_26 (by decide) ?_
      refine tpi (y := if K = 0 ∧ 2 * ng < ct then 1 else 0) ((if_pos ⟨h1, by omega⟩).symm) ?_
      exact W.zret (v := if K = 0 ∧ 2 * ng < ct then 1 else 0) hx hb hr (by rw [if_pos ⟨h1, by omega⟩]; rfl) (fun t ht hW => ⟨rfl, ht⟩) (fun q h => by cases h) d_M_isUp_30
set_option maxHeartbeats 4000000 in
set_option maxRecDepth 100000 in
theorem c_M_kOf1 (l : Launch) (D : va_G) (y ms mw mu mc mn mr mq md bi ne li sp q sz wa : Nat) (th en la at0 lk : Int32) (cI : ClassId) (su cu nu : Nat → Int32) (sm ct ng K : Nat) (hsu : su 1 = nI sm) (hcu : cu 1 = nI ct) (hnu : nu 1 = nI ng) (hc0 : ct ≤ 64) (hn0 : ng ≤ 64) (hs0 : sm < 2 ^ 30) (hKb : K ≤ 29) (hK1 : sm + ct / 2 ≤ ct * 2 ^ K) (hK2 : ∀ j, j < K → ct * 2 ^ j < sm + ct / 2) : Met l y_M_kOf (WSY y_M_kOf b_M_kOf 4 (some .int)) ({ frames := 1, cells := 0, slots := 0, locals := 22 }) (va_Pc [.ref y, .int 1] (fun U => va_P D CLS [(y, .inr (5, [.int th, .int (nI bi), .int (nI ne), .int (nI li), .int (nI sp), .int (nI q), .ref ms, .ref mw, .ref mu, .ref mc, .ref mn, .int en, .int (nI sz), .ref mr, .int (nI wa), .ref mq, .int la, .ref md, .int at0, .int lk])), (mu, .inl (cI, 4, .inl su)), (mc, .inl (cI, 4, .inl cu)), (mn, .inl (cI, 4, .inl nu))] U.heap ∧ va_K D CLS [(cI, .int)] U)) (QR (some (.int (nI K)))) 0 0 (fun _ => False) := by
  refine Met.ofW (cc := b_M_kOf) (maxL := 4) (ret := (some .int)) (by decide) rfl ?_
  intro p e s m args below meth c s₁ B hml hv
  obtain ⟨rfl, hP, hK⟩ := hv
  have hx := B.exec
  have hb := B.bytes
  have hr := B.returns
  have hts := atoms_spec (ws := WSY y_M_kOf b_M_kOf 4 (some .int)) B.pre
  have hg : ∀ w ∈ GW, w.before _ s = true := fun w h => hts w (List.mem_cons_of_mem _ h)
  have hown : s.vm.findClass "LineGolombModel" = some m.cls := findClass_of_methodNamed B.named
  have hlocks := B.notSynchronized
  have hS : va_S (fun _ => False) s.heap s.heap [] := va_S.rf
  have hl := lv_entry ([.ref y, .int 1]) (n := 4) (Nat.le_of_ble_eq_true rfl)
  rw [lg_entry_eq]
  generalize (lg_sl ([.ref y, .int 1]) ++ List.replicate (4 - (lg_sl ([.ref y, .int 1])).length) Slot.unset).toArray = ls at hl ⊢
  have hl : lv_has ls 4 [(0, .ref y), (1, .int 1)] := hl
  refine lv_aload_n hx hb d_M_kOf_0 rfl (lv_at hl 0 rfl) ?_
  refine va_get (D := D) (ci := 5) (v := .ref mu) (C := R_M) (T := T_M) (N := 20) hx hb hg in_M hown hK hP 0 rfl rfl 8 (by decide) (hg _ gw_532) (fun _ h9 => h9) rfl d_M_kOf_1 ?_
  refine lv_iload_n hx hb d_M_kOf_4 rfl (lv_at hl 1 rfl) ?_
  refine va_iald hx hb hK hP 1 0 rfl rfl (vp_in_nI (n := 1) (by decide) (by decide)) d_M_kOf_5 ?_
  refine tpi (y := nI sm) (hsu) ?_
  refine lv_iload_n hx hb d_M_kOf_6 rfl (lv_at hl 1 rfl) ?_
  refine lv_iconst (v := 2) hx hb d_M_kOf_7 (by decide) ?_
  refine lv_irem hx hb d_M_kOf_8 (by decide) ?_
  refine tpi (y := 1) (by decide) ?_
  refine lv_iconst (v := 1) hx hb d_M_kOf_9 (by decide) ?_
  refine lv_icmp_ne (tgt := 24) hx hb d_M_kOf_10 (by decide) (fun c_1 => ?_) (fun c_1 => ?_)
  · skip
    exact absurd rfl c_1
  · skip
    refine lv_aload_n hx hb d_M_kOf_13 rfl (lv_at hl 0 rfl) ?_
    refine va_get (D := D) (ci := 5) (v := .ref mc) (C := R_M) (T := T_M) (N := 20) hx hb hg in_M hown hK hP 0 rfl rfl 9 (by decide) (hg _ gw_533) (fun _ h9 => h9) rfl d_M_kOf_14 ?_
    refine lv_iload_n hx hb d_M_kOf_17 rfl (lv_at hl 1 rfl) ?_
    refine va_iald hx hb hK hP 2 0 rfl rfl (vp_in_nI (n := 1) (by decide) (by decide)) d_M_kOf_18 ?_
    refine tpi (y := nI ct) (hcu) ?_
    refine lv_iconst (v := 2) hx hb d_M_kOf_19 (by decide) ?_
    refine lv_idiv hx hb d_M_kOf_20 (by decide) ?_
    refine tpi (y := nI (ct / 2)) (div2 (by omega)) ?_
    refine lv_goto (tgt := 25) hx hb d_M_kOf_21 (by decide) ?_
    refine lv_iadd hx hb d_M_kOf_25 ?_
    refine tpi (y := nI (sm + ct / 2)) (nI_add _ _) ?_
    refine lv_istore_n (lv' := [(2, .int (nI (sm + ct / 2))), (0, .ref y), (1, .int 1)]) hx hb d_M_kOf_26 rfl hl (by decide) rfl (fun ls hl => ?_)
    refine lv_iconst (v := 0) hx hb d_M_kOf_27 (by decide) ?_
    refine lv_istore_n (lv' := [(3, .int 0), (2, .int (nI (sm + ct / 2))), (0, .ref y), (1, .int 1)]) hx hb d_M_kOf_28 rfl hl (by decide) rfl (fun ls hl => ?_)
    have loop : ∀ (d k : Nat), k + d = K → ∀ (ls : Array Slot), lv_has ls 4 [(3, .int (nI k)), (2, .int (nI (sm + ct / 2))), (0, .ref y), (1, .int 1)] → W p l e (headSpec (WSY y_M_kOf b_M_kOf 4 (some .int)) ({ frames := 1, cells := 0, slots := 0, locals := 22 })).room s m ([.ref y, .int 1] : List Value).toArray below meth c s.heap [] 0 0 (MQ below (QR (some (.int (nI K)))) ([.ref y, .int 1] : List Value).toArray s 0 0 (fun _ => False)) (F0 m 29 ls []) := by
      intro d
      induction d with
      | zero =>
        intro k hk ls hl
        obtain rfl : K = k := by omega
        have h2 : ct * 2 ^ K < 2 ^ 63 := Nat.lt_of_le_of_lt (Nat.mul_le_mul hc0 (pw30 (show K ≤ 30 by omega))) (by decide)
        have h3 := pw30 (show K ≤ 30 by omega)
        refine lv_aload_n hx hb d_M_kOf_29 rfl (lv_at hl 2 rfl) ?_
        refine va_get (D := D) (ci := 5) (v := .ref mc) (C := R_M) (T := T_M) (N := 20) hx hb hg in_M hown hK hP 0 rfl rfl 9 (by decide) (hg _ gw_533) (fun _ h9 => h9) rfl d_M_kOf_30 ?_
        refine lv_iload_n hx hb d_M_kOf_33 rfl (lv_at hl 3 rfl) ?_
        refine va_iald hx hb hK hP 2 0 rfl rfl (vp_in_nI (n := 1) (by decide) (by decide)) d_M_kOf_34 ?_
        refine tpi (y := nI ct) (hcu) ?_
        refine lv_i2l (v := lN ct) hx hb d_M_kOf_35 (nI_l (by omega)) ?_
        refine lv_iload_n hx hb d_M_kOf_36 rfl (lv_at hl 0 rfl) ?_
        have hPc := hP.sub (ws' := []) [] rfl
        have hKc := hK.sub (tys' := []) [] rfl
        refine pci (va_runS (As := [.int (nI K)]) (rest := [.long (lN ct)]) ⟨hx, hb, hml, hown, hg⟩ (c_M_power l D K (by omega)) (va_cwS 1 hg (gS gw_517 gw_518 gw_7 gw_519) rfl rfl rfl (by decide +kernel) ⟨Nat.le_of_ble_eq_true rfl, Nat.le_of_ble_eq_true rfl⟩) ⟨fun a U g mk q => by obtain ⟨q0, qP, qK⟩ := q; exact ⟨q0, qP, va_K.moved (u := U) (U := U.calling g mk a) (Vm.Alike.refl U.vm) qK⟩, fun U hU hW => ⟨rfl, by rw [hU]; exact hPc, va_K.moved hW.alike hKc⟩⟩ rfl rfl hl.1 rfl (lv_room (Nat.le_of_ble_eq_true rfl)) d_M_kOf_37 (⟨Nat.le_of_ble_eq_true rfl, Nat.le_of_ble_eq_true rfl⟩)) ?_
        refine lv_i2l (v := lN (2 ^ K)) hx hb d_M_kOf_40 (nI_l (by omega)) ?_
        refine lv_lmul hx hb d_M_kOf_41 ?_
        refine tpl (y := lN (ct * 2 ^ K)) (lN_mul _ _) ?_
        refine lv_iload_n hx hb d_M_kOf_42 rfl (lv_at hl 1 rfl) ?_
        refine lv_i2l (v := lN (sm + ct / 2)) hx hb d_M_kOf_43 (nI_l (by omega)) ?_
        refine W.lcmp hx hb d_M_kOf_44 ?_
        refine lv_if_ge (tgt := 54) hx hb d_M_kOf_45 (by decide) (fun c_2 => ?_) (fun c_2 => ?_)
        · skip
          refine lv_iload_n hx hb d_M_kOf_54 rfl (lv_at hl 0 rfl) ?_
          exact W.iret (v := nI K) hx hb hr (fun t ht hW => ⟨rfl, ht⟩) (fun q h => by cases h) d_M_kOf_55
        · skip
          exact absurd ((lg_cmp_ge _ _).mpr ((pk_lLE (by omega) h2).mpr hK1)) c_2
      | succ d ih =>
        intro k hk ls hl
        have h2 : ct * 2 ^ k < 2 ^ 63 := Nat.lt_of_le_of_lt (Nat.mul_le_mul hc0 (pw30 (show k ≤ 30 by omega))) (by decide)
        have h3 := pw30 (show k ≤ 30 by omega)
        refine lv_aload_n hx hb d_M_kOf_29 rfl (lv_at hl 2 rfl) ?_
        refine va_get (D := D) (ci := 5) (v := .ref mc) (C := R_M) (T := T_M) (N := 20) hx hb hg in_M hown hK hP 0 rfl rfl 9 (by decide) (hg _ gw_533) (fun _ h9 => h9) rfl d_M_kOf_30 ?_
        refine lv_iload_n hx hb d_M_kOf_33 rfl (lv_at hl 3 rfl) ?_
        refine va_iald hx hb hK hP 2 0 rfl rfl (vp_in_nI (n := 1) (by decide) (by decide)) d_M_kOf_34 ?_
        refine tpi (y := nI ct) (hcu) ?_
        refine lv_i2l (v := lN ct) hx hb d_M_kOf_35 (nI_l (by omega)) ?_
        refine lv_iload_n hx hb d_M_kOf_36 rfl (lv_at hl 0 rfl) ?_
        have hPc := hP.sub (ws' := []) [] rfl
        have hKc := hK.sub (tys' := []) [] rfl
        refine pci (va_runS (As := [.int (nI k)]) (rest := [.long (lN ct)]) ⟨hx, hb, hml, hown, hg⟩ (c_M_power l D k (by omega)) (va_cwS 1 hg (gS gw_517 gw_518 gw_7 gw_519) rfl rfl rfl (by decide +kernel) ⟨Nat.le_of_ble_eq_true rfl, Nat.le_of_ble_eq_true rfl⟩) ⟨fun a U g mk q => by obtain ⟨q0, qP, qK⟩ := q; exact ⟨q0, qP, va_K.moved (u := U) (U := U.calling g mk a) (Vm.Alike.refl U.vm) qK⟩, fun U hU hW => ⟨rfl, by rw [hU]; exact hPc, va_K.moved hW.alike hKc⟩⟩ rfl rfl hl.1 rfl (lv_room (Nat.le_of_ble_eq_true rfl)) d_M_kOf_37 (⟨Nat.le_of_ble_eq_true rfl, Nat.le_of_ble_eq_true rfl⟩)) ?_
        refine lv_i2l (v := lN (2 ^ k)) hx hb d_M_kOf_40 (nI_l (by omega)) ?_
        refine lv_lmul hx hb d_M_kOf_41 ?_
        refine tpl (y := lN (ct * 2 ^ k)) (lN_mul _ _) ?_
        refine lv_iload_n hx hb d_M_kOf_42 rfl (lv_at hl 1 rfl) ?_
        refine lv_i2l (v := lN (sm + ct / 2)) hx hb d_M_kOf_43 (nI_l (by omega)) ?_
        refine W.lcmp hx hb d_M_kOf_44 ?_
        refine lv_if_ge (tgt := 54) hx hb d_M_kOf_45 (by decide) (fun c_3 => ?_) (fun c_3 => ?_)
        · skip
          exact absurd ((pk_lLE (by omega) h2).mp ((lg_cmp_ge _ _).mp c_3)) (by have := hK2 k (by omega); omega)
        · skip
          refine lv_iinc (v := nI (k + 1)) (lv' := [(3, .int (nI (k + 1))), (2, .int (nI (sm + ct / 2))), (0, .ref y), (1, .int 1)]) hx hb d_M_kOf_48 hl (k := 0) rfl (nI_1 k) (by decide) rfl (fun ls hl => ?_)
          refine lv_goto (tgt := 29) hx hb d_M_kOf_51 (by decide) ?_
          exact ih (k + 1) (by omega) ls (lv_sub hl [0, 1, 2, 3] rfl)
    exact loop K 0 (by omega) ls hl
set_option maxHeartbeats 4000000 in
set_option maxRecDepth 100000 in
theorem c_M_isUp1 (l : Launch) (D : va_G) (y ms mw mu mc mn mr mq md bi ne li sp q sz wa : Nat) (th en la at0 lk : Int32) (cI : ClassId) (su cu nu : Nat → Int32) (sm ct ng K : Nat) (hsu : su 1 = nI sm) (hcu : cu 1 = nI ct) (hnu : nu 1 = nI ng) (hc0 : ct ≤ 64) (hn0 : ng ≤ 64) (hs0 : sm < 2 ^ 30) (hKb : K ≤ 29) (hK1 : sm + ct / 2 ≤ ct * 2 ^ K) (hK2 : ∀ j, j < K → ct * 2 ^ j < sm + ct / 2) : Met l y_M_isUp (WSY y_M_isUp b_M_isUp 2 (some .boolean)) ({ frames := 2, cells := 0, slots := 0, locals := 45 }) (va_Pc [.ref y, .int 1] (fun U => va_P D CLS [(y, .inr (5, [.int th, .int (nI bi), .int (nI ne), .int (nI li), .int (nI sp), .int (nI q), .ref ms, .ref mw, .ref mu, .ref mc, .ref mn, .int en, .int (nI sz), .ref mr, .int (nI wa), .ref mq, .int la, .ref md, .int at0, .int lk])), (mu, .inl (cI, 4, .inl su)), (mc, .inl (cI, 4, .inl cu)), (mn, .inl (cI, 4, .inl nu))] U.heap ∧ va_K D CLS [(cI, .int)] U)) (QR (some (.int (if K = 0 ∧ 2 * ng < ct then 1 else 0)))) 0 0 (fun _ => False) := by
  refine Met.ofW (cc := b_M_isUp) (maxL := 2) (ret := (some .boolean)) (by decide) rfl ?_
  intro p e s m args below meth c s₁ B hml hv
  obtain ⟨rfl, hP, hK⟩ := hv
  have hx := B.exec
  have hb := B.bytes
  have hr := B.returns
  have hts := atoms_spec (ws := WSY y_M_isUp b_M_isUp 2 (some .boolean)) B.pre
  have hg : ∀ w ∈ GW, w.before _ s = true := fun w h => hts w (List.mem_cons_of_mem _ h)
  have hown : s.vm.findClass "LineGolombModel" = some m.cls := findClass_of_methodNamed B.named
  have hlocks := B.notSynchronized
  have hS : va_S (fun _ => False) s.heap s.heap [] := va_S.rf
  have hl := lv_entry ([.ref y, .int 1]) (n := 2) (Nat.le_of_ble_eq_true rfl)
  rw [lg_entry_eq]
  generalize (lg_sl ([.ref y, .int 1]) ++ List.replicate (2 - (lg_sl ([.ref y, .int 1])).length) Slot.unset).toArray = ls at hl ⊢
  have hl : lv_has ls 2 [(0, .ref y), (1, .int 1)] := hl
  refine lv_aload_n hx hb d_M_isUp_0 rfl (lv_at hl 0 rfl) ?_
  refine lv_iload_n hx hb d_M_isUp_1 rfl (lv_at hl 1 rfl) ?_
  have hPc := hP.sub (ws' := [(y, .inr (5, [.int th, .int (nI bi), .int (nI ne), .int (nI li), .int (nI sp), .int (nI q), .ref ms, .ref mw, .ref mu, .ref mc, .ref mn, .int en, .int (nI sz), .ref mr, .int (nI wa), .ref mq, .int la, .ref md, .int at0, .int lk])), (mu, .inl (cI, 4, .inl su)), (mc, .inl (cI, 4, .inl cu)), (mn, .inl (cI, 4, .inl nu))]) [0, 1, 2, 3] rfl
  have hKc := hK.sub (tys' := [(cI, .int)]) [0] rfl
  refine pci (va_runV (As := [.int 1]) (rest := []) ⟨hx, hb, hml, hown, hg⟩ (c_M_kOf1 l D y ms mw mu mc mn mr mq md bi ne li sp q sz wa th en la at0 lk cI su cu nu sm ct ng K hsu hcu hnu hc0 hn0 hs0 hKb hK1 hK2) (cwV 1 hg (gV gw_638 gw_640 gs_21 gw_7 gw_641) rfl rfl rfl (by decide +kernel) ⟨Nat.le_of_ble_eq_true rfl, Nat.le_of_ble_eq_true rfl⟩) ⟨fun a U g mk q => by obtain ⟨q0, qP, qK⟩ := q; exact ⟨q0, qP, va_K.moved (u := U) (U := U.calling g mk a) (Vm.Alike.refl U.vm) qK⟩, va_recv hKc hPc (ci := 5) (q0 := 0) rfl rfl, fun U hU hW => ⟨rfl, by rw [hU]; exact hPc, va_K.moved hW.alike hKc⟩⟩ rfl rfl hl.1 rfl (lv_room (Nat.le_of_ble_eq_true rfl)) d_M_isUp_2 (⟨Nat.le_of_ble_eq_true rfl, Nat.le_of_ble_eq_true rfl⟩)) ?_
  refine lv_if_ne (tgt := 29) hx hb d_M_isUp_5 (by decide) (fun c_1 => ?_) (fun c_1 => ?_)
  · skip
    have h1 : ¬ K = 0 := fun z => c_1 (by rw [z]; rfl)
    refine lv_iconst (v := 0) hx hb d_M_isUp_29 (by decide) ?_
    refine tpi (y := if K = 0 ∧ 2 * ng < ct then 1 else 0) ((if_neg (fun z => h1 z.1)).symm) ?_
    exact W.zret (v := if K = 0 ∧ 2 * ng < ct then 1 else 0) hx hb hr (by rw [if_neg (fun z => h1 z.1)]; rfl) (fun t ht hW => ⟨rfl, ht⟩) (fun q h => by cases h) d_M_isUp_30
  · skip
    have h1 : K = 0 := by have := (nI_eq (a := K) (b := 0) (by omega) (by omega)).mp c_1; omega
    refine lv_iconst (v := 2) hx hb d_M_isUp_8 (by decide) ?_
    refine lv_aload_n hx hb d_M_isUp_9 rfl (lv_at hl 0 rfl) ?_
    refine va_get (D := D) (ci := 5) (v := .ref mn) (C := R_M) (T := T_M) (N := 20) hx hb hg in_M hown hK hP 0 rfl rfl 10 (by decide) (hg _ gw_534) (fun _ h9 => h9) rfl d_M_isUp_10 ?_
    refine lv_iload_n hx hb d_M_isUp_13 rfl (lv_at hl 1 rfl) ?_
    refine va_iald hx hb hK hP 3 0 rfl rfl (vp_in_nI (n := 1) (by decide) (by decide)) d_M_isUp_14 ?_
    refine tpi (y := nI ng) (hnu) ?_
    refine lv_imul hx hb d_M_isUp_15 ?_
    refine tpi (y := nI (2 * ng)) (mul2 ng) ?_
    refine lv_aload_n hx hb d_M_isUp_16 rfl (lv_at hl 0 rfl) ?_
    refine va_get (D := D) (ci := 5) (v := .ref mc) (C := R_M) (T := T_M) (N := 20) hx hb hg in_M hown hK hP 0 rfl rfl 9 (by decide) (hg _ gw_533) (fun _ h9 => h9) rfl d_M_isUp_17 ?_
    refine lv_iload_n hx hb d_M_isUp_20 rfl (lv_at hl 1 rfl) ?_
    refine va_iald hx hb hK hP 2 0 rfl rfl (vp_in_nI (n := 1) (by decide) (by decide)) d_M_isUp_21 ?_
    refine tpi (y := nI ct) (hcu) ?_
    refine lv_icmp_ge (tgt := 29) hx hb d_M_isUp_22 (by decide) (fun c_2 => ?_) (fun c_2 => ?_)
    · skip
      have h2 := (nI_leI (by omega) (by omega)).mp c_2
      refine lv_iconst (v := 0) hx hb d_M_isUp_29 (by decide) ?_
      refine tpi (y := if K = 0 ∧ 2 * ng < ct then 1 else 0) ((if_neg (fun z => by omega)).symm) ?_
      exact W.zret (v := if K = 0 ∧ 2 * ng < ct then 1 else 0) hx hb hr (by rw [if_neg (fun z => by omega)]; rfl) (fun t ht hW => ⟨rfl, ht⟩) (fun q h => by cases h) d_M_isUp_30
    · skip
      have h2 : ¬ ct ≤ 2 * ng := fun z => c_2 ((nI_leI (by omega) (by omega)).mpr z)
      refine lv_iconst (v := 1) hx hb d_M_isUp_25 (by decide) ?_
      refine lv_goto (tgt := 30) hx hb d_M_isUp_26 (by decide) ?_
      refine tpi (y := if K = 0 ∧ 2 * ng < ct then 1 else 0) ((if_pos ⟨h1, by omega⟩).symm) ?_
      exact W.zret (v := if K = 0 ∧ 2 * ng < ct then 1 else 0) hx hb hr (by rw [if_pos ⟨h1, by omega⟩]; rfl) (fun t ht hW => ⟨rfl, ht⟩) (fun q h => by cases h) d_M_isUp_30
set_option maxHeartbeats 4000000 in
set_option maxRecDepth 100000 in
theorem c_M_kOf2 (l : Launch) (D : va_G) (y ms mw mu mc mn mr mq md bi ne li sp q sz wa : Nat) (th en la at0 lk : Int32) (cI : ClassId) (su cu nu : Nat → Int32) (sm ct ng K : Nat) (hsu : su 2 = nI sm) (hcu : cu 2 = nI ct) (hnu : nu 2 = nI ng) (hc0 : ct ≤ 64) (hn0 : ng ≤ 64) (hs0 : sm < 2 ^ 30) (hKb : K ≤ 29) (hK1 : sm ≤ ct * 2 ^ K) (hK2 : ∀ j, j < K → ct * 2 ^ j < sm) : Met l y_M_kOf (WSY y_M_kOf b_M_kOf 4 (some .int)) ({ frames := 1, cells := 0, slots := 0, locals := 22 }) (va_Pc [.ref y, .int 2] (fun U => va_P D CLS [(y, .inr (5, [.int th, .int (nI bi), .int (nI ne), .int (nI li), .int (nI sp), .int (nI q), .ref ms, .ref mw, .ref mu, .ref mc, .ref mn, .int en, .int (nI sz), .ref mr, .int (nI wa), .ref mq, .int la, .ref md, .int at0, .int lk])), (mu, .inl (cI, 4, .inl su)), (mc, .inl (cI, 4, .inl cu)), (mn, .inl (cI, 4, .inl nu))] U.heap ∧ va_K D CLS [(cI, .int)] U)) (QR (some (.int (nI K)))) 0 0 (fun _ => False) := by
  refine Met.ofW (cc := b_M_kOf) (maxL := 4) (ret := (some .int)) (by decide) rfl ?_
  intro p e s m args below meth c s₁ B hml hv
  obtain ⟨rfl, hP, hK⟩ := hv
  have hx := B.exec
  have hb := B.bytes
  have hr := B.returns
  have hts := atoms_spec (ws := WSY y_M_kOf b_M_kOf 4 (some .int)) B.pre
  have hg : ∀ w ∈ GW, w.before _ s = true := fun w h => hts w (List.mem_cons_of_mem _ h)
  have hown : s.vm.findClass "LineGolombModel" = some m.cls := findClass_of_methodNamed B.named
  have hlocks := B.notSynchronized
  have hS : va_S (fun _ => False) s.heap s.heap [] := va_S.rf
  have hl := lv_entry ([.ref y, .int 2]) (n := 4) (Nat.le_of_ble_eq_true rfl)
  rw [lg_entry_eq]
  generalize (lg_sl ([.ref y, .int 2]) ++ List.replicate (4 - (lg_sl ([.ref y, .int 2])).length) Slot.unset).toArray = ls at hl ⊢
  have hl : lv_has ls 4 [(0, .ref y), (1, .int 2)] := hl
  refine lv_aload_n hx hb d_M_kOf_0 rfl (lv_at hl 0 rfl) ?_
  refine va_get (D := D) (ci := 5) (v := .ref mu) (C := R_M) (T := T_M) (N := 20) hx hb hg in_M hown hK hP 0 rfl rfl 8 (by decide) (hg _ gw_532) (fun _ h9 => h9) rfl d_M_kOf_1 ?_
  refine lv_iload_n hx hb d_M_kOf_4 rfl (lv_at hl 1 rfl) ?_
  refine va_iald hx hb hK hP 1 0 rfl rfl (vp_in_nI (n := 2) (by decide) (by decide)) d_M_kOf_5 ?_
  refine tpi (y := nI sm) (hsu) ?_
  refine lv_iload_n hx hb d_M_kOf_6 rfl (lv_at hl 1 rfl) ?_
  refine lv_iconst (v := 2) hx hb d_M_kOf_7 (by decide) ?_
  refine lv_irem hx hb d_M_kOf_8 (by decide) ?_
  refine tpi (y := 0) (by decide) ?_
  refine lv_iconst (v := 1) hx hb d_M_kOf_9 (by decide) ?_
  refine lv_icmp_ne (tgt := 24) hx hb d_M_kOf_10 (by decide) (fun c_1 => ?_) (fun c_1 => ?_)
  · skip
    refine lv_iconst (v := 0) hx hb d_M_kOf_24 (by decide) ?_
    refine lv_iadd hx hb d_M_kOf_25 ?_
    refine tpi (y := nI sm) (nI_add sm 0) ?_
    refine lv_istore_n (lv' := [(2, .int (nI sm)), (0, .ref y), (1, .int 2)]) hx hb d_M_kOf_26 rfl hl (by decide) rfl (fun ls hl => ?_)
    refine lv_iconst (v := 0) hx hb d_M_kOf_27 (by decide) ?_
    refine lv_istore_n (lv' := [(3, .int 0), (2, .int (nI sm)), (0, .ref y), (1, .int 2)]) hx hb d_M_kOf_28 rfl hl (by decide) rfl (fun ls hl => ?_)
    have loop : ∀ (d k : Nat), k + d = K → ∀ (ls : Array Slot), lv_has ls 4 [(3, .int (nI k)), (2, .int (nI (sm))), (0, .ref y), (1, .int 2)] → W p l e (headSpec (WSY y_M_kOf b_M_kOf 4 (some .int)) ({ frames := 1, cells := 0, slots := 0, locals := 22 })).room s m ([.ref y, .int 2] : List Value).toArray below meth c s.heap [] 0 0 (MQ below (QR (some (.int (nI K)))) ([.ref y, .int 2] : List Value).toArray s 0 0 (fun _ => False)) (F0 m 29 ls []) := by
      intro d
      induction d with
      | zero =>
        intro k hk ls hl
        obtain rfl : K = k := by omega
        have h2 : ct * 2 ^ K < 2 ^ 63 := Nat.lt_of_le_of_lt (Nat.mul_le_mul hc0 (pw30 (show K ≤ 30 by omega))) (by decide)
        have h3 := pw30 (show K ≤ 30 by omega)
        refine lv_aload_n hx hb d_M_kOf_29 rfl (lv_at hl 2 rfl) ?_
        refine va_get (D := D) (ci := 5) (v := .ref mc) (C := R_M) (T := T_M) (N := 20) hx hb hg in_M hown hK hP 0 rfl rfl 9 (by decide) (hg _ gw_533) (fun _ h9 => h9) rfl d_M_kOf_30 ?_
        refine lv_iload_n hx hb d_M_kOf_33 rfl (lv_at hl 3 rfl) ?_
        refine va_iald hx hb hK hP 2 0 rfl rfl (vp_in_nI (n := 2) (by decide) (by decide)) d_M_kOf_34 ?_
        refine tpi (y := nI ct) (hcu) ?_
        refine lv_i2l (v := lN ct) hx hb d_M_kOf_35 (nI_l (by omega)) ?_
        refine lv_iload_n hx hb d_M_kOf_36 rfl (lv_at hl 0 rfl) ?_
        have hPc := hP.sub (ws' := []) [] rfl
        have hKc := hK.sub (tys' := []) [] rfl
        refine pci (va_runS (As := [.int (nI K)]) (rest := [.long (lN ct)]) ⟨hx, hb, hml, hown, hg⟩ (c_M_power l D K (by omega)) (va_cwS 1 hg (gS gw_517 gw_518 gw_7 gw_519) rfl rfl rfl (by decide +kernel) ⟨Nat.le_of_ble_eq_true rfl, Nat.le_of_ble_eq_true rfl⟩) ⟨fun a U g mk q => by obtain ⟨q0, qP, qK⟩ := q; exact ⟨q0, qP, va_K.moved (u := U) (U := U.calling g mk a) (Vm.Alike.refl U.vm) qK⟩, fun U hU hW => ⟨rfl, by rw [hU]; exact hPc, va_K.moved hW.alike hKc⟩⟩ rfl rfl hl.1 rfl (lv_room (Nat.le_of_ble_eq_true rfl)) d_M_kOf_37 (⟨Nat.le_of_ble_eq_true rfl, Nat.le_of_ble_eq_true rfl⟩)) ?_
        refine lv_i2l (v := lN (2 ^ K)) hx hb d_M_kOf_40 (nI_l (by omega)) ?_
        refine lv_lmul hx hb d_M_kOf_41 ?_
        refine tpl (y := lN (ct * 2 ^ K)) (lN_mul _ _) ?_
        refine lv_iload_n hx hb d_M_kOf_42 rfl (lv_at hl 1 rfl) ?_
        refine lv_i2l (v := lN (sm)) hx hb d_M_kOf_43 (nI_l (by omega)) ?_
        refine W.lcmp hx hb d_M_kOf_44 ?_
        refine lv_if_ge (tgt := 54) hx hb d_M_kOf_45 (by decide) (fun c_2 => ?_) (fun c_2 => ?_)
        · skip
          refine lv_iload_n hx hb d_M_kOf_54 rfl (lv_at hl 0 rfl) ?_
          exact W.iret (v := nI K) hx hb hr (fun t ht hW => ⟨rfl, ht⟩) (fun q h => by cases h) d_M_kOf_55
        · skip
          exact absurd ((lg_cmp_ge _ _).mpr ((pk_lLE (by omega) h2).mpr hK1)) c_2
      | succ d ih =>
        intro k hk ls hl
        have h2 : ct * 2 ^ k < 2 ^ 63 := Nat.lt_of_le_of_lt (Nat.mul_le_mul hc0 (pw30 (show k ≤ 30 by omega))) (by decide)
        have h3 := pw30 (show k ≤ 30 by omega)
        refine lv_aload_n hx hb d_M_kOf_29 rfl (lv_at hl 2 rfl) ?_
        refine va_get (D := D) (ci := 5) (v := .ref mc) (C := R_M) (T := T_M) (N := 20) hx hb hg in_M hown hK hP 0 rfl rfl 9 (by decide) (hg _ gw_533) (fun _ h9 => h9) rfl d_M_kOf_30 ?_
        refine lv_iload_n hx hb d_M_kOf_33 rfl (lv_at hl 3 rfl) ?_
        refine va_iald hx hb hK hP 2 0 rfl rfl (vp_in_nI (n := 2) (by decide) (by decide)) d_M_kOf_34 ?_
        refine tpi (y := nI ct) (hcu) ?_
        refine lv_i2l (v := lN ct) hx hb d_M_kOf_35 (nI_l (by omega)) ?_
        refine lv_iload_n hx hb d_M_kOf_36 rfl (lv_at hl 0 rfl) ?_
        have hPc := hP.sub (ws' := []) [] rfl
        have hKc := hK.sub (tys' := []) [] rfl
        refine pci (va_runS (As := [.int (nI k)]) (rest := [.long (lN ct)]) ⟨hx, hb, hml, hown, hg⟩ (c_M_power l D k (by omega)) (va_cwS 1 hg (gS gw_517 gw_518 gw_7 gw_519) rfl rfl rfl (by decide +kernel) ⟨Nat.le_of_ble_eq_true rfl, Nat.le_of_ble_eq_true rfl⟩) ⟨fun a U g mk q => by obtain ⟨q0, qP, qK⟩ := q; exact ⟨q0, qP, va_K.moved (u := U) (U := U.calling g mk a) (Vm.Alike.refl U.vm) qK⟩, fun U hU hW => ⟨rfl, by rw [hU]; exact hPc, va_K.moved hW.alike hKc⟩⟩ rfl rfl hl.1 rfl (lv_room (Nat.le_of_ble_eq_true rfl)) d_M_kOf_37 (⟨Nat.le_of_ble_eq_true rfl, Nat.le_of_ble_eq_true rfl⟩)) ?_
        refine lv_i2l (v := lN (2 ^ k)) hx hb d_M_kOf_40 (nI_l (by omega)) ?_
        refine lv_lmul hx hb d_M_kOf_41 ?_
        refine tpl (y := lN (ct * 2 ^ k)) (lN_mul _ _) ?_
        refine lv_iload_n hx hb d_M_kOf_42 rfl (lv_at hl 1 rfl) ?_
        refine lv_i2l (v := lN (sm)) hx hb d_M_kOf_43 (nI_l (by omega)) ?_
        refine W.lcmp hx hb d_M_kOf_44 ?_
        refine lv_if_ge (tgt := 54) hx hb d_M_kOf_45 (by decide) (fun c_3 => ?_) (fun c_3 => ?_)
        · skip
          exact absurd ((pk_lLE (by omega) h2).mp ((lg_cmp_ge _ _).mp c_3)) (by have := hK2 k (by omega); omega)
        · skip
          refine lv_iinc (v := nI (k + 1)) (lv' := [(3, .int (nI (k + 1))), (2, .int (nI (sm))), (0, .ref y), (1, .int 2)]) hx hb d_M_kOf_48 hl (k := 0) rfl (nI_1 k) (by decide) rfl (fun ls hl => ?_)
          refine lv_goto (tgt := 29) hx hb d_M_kOf_51 (by decide) ?_
          exact ih (k + 1) (by omega) ls (lv_sub hl [0, 1, 2, 3] rfl)
    exact loop K 0 (by omega) ls hl
  · skip
    exact absurd c_1 (by decide)
set_option maxHeartbeats 4000000 in
set_option maxRecDepth 100000 in
theorem c_M_isUp2 (l : Launch) (D : va_G) (y ms mw mu mc mn mr mq md bi ne li sp q sz wa : Nat) (th en la at0 lk : Int32) (cI : ClassId) (su cu nu : Nat → Int32) (sm ct ng K : Nat) (hsu : su 2 = nI sm) (hcu : cu 2 = nI ct) (hnu : nu 2 = nI ng) (hc0 : ct ≤ 64) (hn0 : ng ≤ 64) (hs0 : sm < 2 ^ 30) (hKb : K ≤ 29) (hK1 : sm ≤ ct * 2 ^ K) (hK2 : ∀ j, j < K → ct * 2 ^ j < sm) : Met l y_M_isUp (WSY y_M_isUp b_M_isUp 2 (some .boolean)) ({ frames := 2, cells := 0, slots := 0, locals := 45 }) (va_Pc [.ref y, .int 2] (fun U => va_P D CLS [(y, .inr (5, [.int th, .int (nI bi), .int (nI ne), .int (nI li), .int (nI sp), .int (nI q), .ref ms, .ref mw, .ref mu, .ref mc, .ref mn, .int en, .int (nI sz), .ref mr, .int (nI wa), .ref mq, .int la, .ref md, .int at0, .int lk])), (mu, .inl (cI, 4, .inl su)), (mc, .inl (cI, 4, .inl cu)), (mn, .inl (cI, 4, .inl nu))] U.heap ∧ va_K D CLS [(cI, .int)] U)) (QR (some (.int (if K = 0 ∧ 2 * ng < ct then 1 else 0)))) 0 0 (fun _ => False) := by
  refine Met.ofW (cc := b_M_isUp) (maxL := 2) (ret := (some .boolean)) (by decide) rfl ?_
  intro p e s m args below meth c s₁ B hml hv
  obtain ⟨rfl, hP, hK⟩ := hv
  have hx := B.exec
  have hb := B.bytes
  have hr := B.returns
  have hts := atoms_spec (ws := WSY y_M_isUp b_M_isUp 2 (some .boolean)) B.pre
  have hg : ∀ w ∈ GW, w.before _ s = true := fun w h => hts w (List.mem_cons_of_mem _ h)
  have hown : s.vm.findClass "LineGolombModel" = some m.cls := findClass_of_methodNamed B.named
  have hlocks := B.notSynchronized
  have hS : va_S (fun _ => False) s.heap s.heap [] := va_S.rf
  have hl := lv_entry ([.ref y, .int 2]) (n := 2) (Nat.le_of_ble_eq_true rfl)
  rw [lg_entry_eq]
  generalize (lg_sl ([.ref y, .int 2]) ++ List.replicate (2 - (lg_sl ([.ref y, .int 2])).length) Slot.unset).toArray = ls at hl ⊢
  have hl : lv_has ls 2 [(0, .ref y), (1, .int 2)] := hl
  refine lv_aload_n hx hb d_M_isUp_0 rfl (lv_at hl 0 rfl) ?_
  refine lv_iload_n hx hb d_M_isUp_1 rfl (lv_at hl 1 rfl) ?_
  have hPc := hP.sub (ws' := [(y, .inr (5, [.int th, .int (nI bi), .int (nI ne), .int (nI li), .int (nI sp), .int (nI q), .ref ms, .ref mw, .ref mu, .ref mc, .ref mn, .int en, .int (nI sz), .ref mr, .int (nI wa), .ref mq, .int la, .ref md, .int at0, .int lk])), (mu, .inl (cI, 4, .inl su)), (mc, .inl (cI, 4, .inl cu)), (mn, .inl (cI, 4, .inl nu))]) [0, 1, 2, 3] rfl
  have hKc := hK.sub (tys' := [(cI, .int)]) [0] rfl
  refine pci (va_runV (As := [.int 2]) (rest := []) ⟨hx, hb, hml, hown, hg⟩ (c_M_kOf2 l D y ms mw mu mc mn mr mq md bi ne li sp q sz wa th en la at0 lk cI su cu nu sm ct ng K hsu hcu hnu hc0 hn0 hs0 hKb hK1 hK2) (cwV 1 hg (gV gw_638 gw_640 gs_21 gw_7 gw_641) rfl rfl rfl (by decide +kernel) ⟨Nat.le_of_ble_eq_true rfl, Nat.le_of_ble_eq_true rfl⟩) ⟨fun a U g mk q => by obtain ⟨q0, qP, qK⟩ := q; exact ⟨q0, qP, va_K.moved (u := U) (U := U.calling g mk a) (Vm.Alike.refl U.vm) qK⟩, va_recv hKc hPc (ci := 5) (q0 := 0) rfl rfl, fun U hU hW => ⟨rfl, by rw [hU]; exact hPc, va_K.moved hW.alike hKc⟩⟩ rfl rfl hl.1 rfl (lv_room (Nat.le_of_ble_eq_true rfl)) d_M_isUp_2 (⟨Nat.le_of_ble_eq_true rfl, Nat.le_of_ble_eq_true rfl⟩)) ?_
  refine lv_if_ne (tgt := 29) hx hb d_M_isUp_5 (by decide) (fun c_1 => ?_) (fun c_1 => ?_)
  · skip
    have h1 : ¬ K = 0 := fun z => c_1 (by rw [z]; rfl)
    refine lv_iconst (v := 0) hx hb d_M_isUp_29 (by decide) ?_
    refine tpi (y := if K = 0 ∧ 2 * ng < ct then 1 else 0) ((if_neg (fun z => h1 z.1)).symm) ?_
    exact W.zret (v := if K = 0 ∧ 2 * ng < ct then 1 else 0) hx hb hr (by rw [if_neg (fun z => h1 z.1)]; rfl) (fun t ht hW => ⟨rfl, ht⟩) (fun q h => by cases h) d_M_isUp_30
  · skip
    have h1 : K = 0 := by have := (nI_eq (a := K) (b := 0) (by omega) (by omega)).mp c_1; omega
    refine lv_iconst (v := 2) hx hb d_M_isUp_8 (by decide) ?_
    refine lv_aload_n hx hb d_M_isUp_9 rfl (lv_at hl 0 rfl) ?_
    refine va_get (D := D) (ci := 5) (v := .ref mn) (C := R_M) (T := T_M) (N := 20) hx hb hg in_M hown hK hP 0 rfl rfl 10 (by decide) (hg _ gw_534) (fun _ h9 => h9) rfl d_M_isUp_10 ?_
    refine lv_iload_n hx hb d_M_isUp_13 rfl (lv_at hl 1 rfl) ?_
    refine va_iald hx hb hK hP 3 0 rfl rfl (vp_in_nI (n := 2) (by decide) (by decide)) d_M_isUp_14 ?_
    refine tpi (y := nI ng) (hnu) ?_
    refine lv_imul hx hb d_M_isUp_15 ?_
    refine tpi (y := nI (2 * ng)) (mul2 ng) ?_
    refine lv_aload_n hx hb d_M_isUp_16 rfl (lv_at hl 0 rfl) ?_
    refine va_get (D := D) (ci := 5) (v := .ref mc) (C := R_M) (T := T_M) (N := 20) hx hb hg in_M hown hK hP 0 rfl rfl 9 (by decide) (hg _ gw_533) (fun _ h9 => h9) rfl d_M_isUp_17 ?_
    refine lv_iload_n hx hb d_M_isUp_20 rfl (lv_at hl 1 rfl) ?_
    refine va_iald hx hb hK hP 2 0 rfl rfl (vp_in_nI (n := 2) (by decide) (by decide)) d_M_isUp_21 ?_
    refine tpi (y := nI ct) (hcu) ?_
    refine lv_icmp_ge (tgt := 29) hx hb d_M_isUp_22 (by decide) (fun c_2 => ?_) (fun c_2 => ?_)
    · skip
      have h2 := (nI_leI (by omega) (by omega)).mp c_2
      refine lv_iconst (v := 0) hx hb d_M_isUp_29 (by decide) ?_
      refine tpi (y := if K = 0 ∧ 2 * ng < ct then 1 else 0) ((if_neg (fun z => by omega)).symm) ?_
      exact W.zret (v := if K = 0 ∧ 2 * ng < ct then 1 else 0) hx hb hr (by rw [if_neg (fun z => by omega)]; rfl) (fun t ht hW => ⟨rfl, ht⟩) (fun q h => by cases h) d_M_isUp_30
    · skip
      have h2 : ¬ ct ≤ 2 * ng := fun z => c_2 ((nI_leI (by omega) (by omega)).mpr z)
      refine lv_iconst (v := 1) hx hb d_M_isUp_25 (by decide) ?_
      refine lv_goto (tgt := 30) hx hb d_M_isUp_26 (by decide) ?_
      refine tpi (y := if K = 0 ∧ 2 * ng < ct then 1 else 0) ((if_pos ⟨h1, by omega⟩).symm) ?_
      exact W.zret (v := if K = 0 ∧ 2 * ng < ct then 1 else 0) hx hb hr (by rw [if_pos ⟨h1, by omega⟩]; rfl) (fun t ht hW => ⟨rfl, ht⟩) (fun q h => by cases h) d_M_isUp_30
set_option maxHeartbeats 4000000 in
set_option maxRecDepth 100000 in
theorem c_M_kOf3 (l : Launch) (D : va_G) (y ms mw mu mc mn mr mq md bi ne li sp q sz wa : Nat) (th en la at0 lk : Int32) (cI : ClassId) (su cu nu : Nat → Int32) (sm ct ng K : Nat) (hsu : su 3 = nI sm) (hcu : cu 3 = nI ct) (hnu : nu 3 = nI ng) (hc0 : ct ≤ 64) (hn0 : ng ≤ 64) (hs0 : sm < 2 ^ 30) (hKb : K ≤ 29) (hK1 : sm + ct / 2 ≤ ct * 2 ^ K) (hK2 : ∀ j, j < K → ct * 2 ^ j < sm + ct / 2) : Met l y_M_kOf (WSY y_M_kOf b_M_kOf 4 (some .int)) ({ frames := 1, cells := 0, slots := 0, locals := 22 }) (va_Pc [.ref y, .int 3] (fun U => va_P D CLS [(y, .inr (5, [.int th, .int (nI bi), .int (nI ne), .int (nI li), .int (nI sp), .int (nI q), .ref ms, .ref mw, .ref mu, .ref mc, .ref mn, .int en, .int (nI sz), .ref mr, .int (nI wa), .ref mq, .int la, .ref md, .int at0, .int lk])), (mu, .inl (cI, 4, .inl su)), (mc, .inl (cI, 4, .inl cu)), (mn, .inl (cI, 4, .inl nu))] U.heap ∧ va_K D CLS [(cI, .int)] U)) (QR (some (.int (nI K)))) 0 0 (fun _ => False) := by
  refine Met.ofW (cc := b_M_kOf) (maxL := 4) (ret := (some .int)) (by decide) rfl ?_
  intro p e s m args below meth c s₁ B hml hv
  obtain ⟨rfl, hP, hK⟩ := hv
  have hx := B.exec
  have hb := B.bytes
  have hr := B.returns
  have hts := atoms_spec (ws := WSY y_M_kOf b_M_kOf 4 (some .int)) B.pre
  have hg : ∀ w ∈ GW, w.before _ s = true := fun w h => hts w (List.mem_cons_of_mem _ h)
  have hown : s.vm.findClass "LineGolombModel" = some m.cls := findClass_of_methodNamed B.named
  have hlocks := B.notSynchronized
  have hS : va_S (fun _ => False) s.heap s.heap [] := va_S.rf
  have hl := lv_entry ([.ref y, .int 3]) (n := 4) (Nat.le_of_ble_eq_true rfl)
  rw [lg_entry_eq]
  generalize (lg_sl ([.ref y, .int 3]) ++ List.replicate (4 - (lg_sl ([.ref y, .int 3])).length) Slot.unset).toArray = ls at hl ⊢
  have hl : lv_has ls 4 [(0, .ref y), (1, .int 3)] := hl
  refine lv_aload_n hx hb d_M_kOf_0 rfl (lv_at hl 0 rfl) ?_
  refine va_get (D := D) (ci := 5) (v := .ref mu) (C := R_M) (T := T_M) (N := 20) hx hb hg in_M hown hK hP 0 rfl rfl 8 (by decide) (hg _ gw_532) (fun _ h9 => h9) rfl d_M_kOf_1 ?_
  refine lv_iload_n hx hb d_M_kOf_4 rfl (lv_at hl 1 rfl) ?_
  refine va_iald hx hb hK hP 1 0 rfl rfl (vp_in_nI (n := 3) (by decide) (by decide)) d_M_kOf_5 ?_
  refine tpi (y := nI sm) (hsu) ?_
  refine lv_iload_n hx hb d_M_kOf_6 rfl (lv_at hl 1 rfl) ?_
  refine lv_iconst (v := 2) hx hb d_M_kOf_7 (by decide) ?_
  refine lv_irem hx hb d_M_kOf_8 (by decide) ?_
  refine tpi (y := 1) (by decide) ?_
  refine lv_iconst (v := 1) hx hb d_M_kOf_9 (by decide) ?_
  refine lv_icmp_ne (tgt := 24) hx hb d_M_kOf_10 (by decide) (fun c_1 => ?_) (fun c_1 => ?_)
  · skip
    exact absurd rfl c_1
  · skip
    refine lv_aload_n hx hb d_M_kOf_13 rfl (lv_at hl 0 rfl) ?_
    refine va_get (D := D) (ci := 5) (v := .ref mc) (C := R_M) (T := T_M) (N := 20) hx hb hg in_M hown hK hP 0 rfl rfl 9 (by decide) (hg _ gw_533) (fun _ h9 => h9) rfl d_M_kOf_14 ?_
    refine lv_iload_n hx hb d_M_kOf_17 rfl (lv_at hl 1 rfl) ?_
    refine va_iald hx hb hK hP 2 0 rfl rfl (vp_in_nI (n := 3) (by decide) (by decide)) d_M_kOf_18 ?_
    refine tpi (y := nI ct) (hcu) ?_
    refine lv_iconst (v := 2) hx hb d_M_kOf_19 (by decide) ?_
    refine lv_idiv hx hb d_M_kOf_20 (by decide) ?_
    refine tpi (y := nI (ct / 2)) (div2 (by omega)) ?_
    refine lv_goto (tgt := 25) hx hb d_M_kOf_21 (by decide) ?_
    refine lv_iadd hx hb d_M_kOf_25 ?_
    refine tpi (y := nI (sm + ct / 2)) (nI_add _ _) ?_
    refine lv_istore_n (lv' := [(2, .int (nI (sm + ct / 2))), (0, .ref y), (1, .int 3)]) hx hb d_M_kOf_26 rfl hl (by decide) rfl (fun ls hl => ?_)
    refine lv_iconst (v := 0) hx hb d_M_kOf_27 (by decide) ?_
    refine lv_istore_n (lv' := [(3, .int 0), (2, .int (nI (sm + ct / 2))), (0, .ref y), (1, .int 3)]) hx hb d_M_kOf_28 rfl hl (by decide) rfl (fun ls hl => ?_)
    have loop : ∀ (d k : Nat), k + d = K → ∀ (ls : Array Slot), lv_has ls 4 [(3, .int (nI k)), (2, .int (nI (sm + ct / 2))), (0, .ref y), (1, .int 3)] → W p l e (headSpec (WSY y_M_kOf b_M_kOf 4 (some .int)) ({ frames := 1, cells := 0, slots := 0, locals := 22 })).room s m ([.ref y, .int 3] : List Value).toArray below meth c s.heap [] 0 0 (MQ below (QR (some (.int (nI K)))) ([.ref y, .int 3] : List Value).toArray s 0 0 (fun _ => False)) (F0 m 29 ls []) := by
      intro d
      induction d with
      | zero =>
        intro k hk ls hl
        obtain rfl : K = k := by omega
        have h2 : ct * 2 ^ K < 2 ^ 63 := Nat.lt_of_le_of_lt (Nat.mul_le_mul hc0 (pw30 (show K ≤ 30 by omega))) (by decide)
        have h3 := pw30 (show K ≤ 30 by omega)
        refine lv_aload_n hx hb d_M_kOf_29 rfl (lv_at hl 2 rfl) ?_
        refine va_get (D := D) (ci := 5) (v := .ref mc) (C := R_M) (T := T_M) (N := 20) hx hb hg in_M hown hK hP 0 rfl rfl 9 (by decide) (hg _ gw_533) (fun _ h9 => h9) rfl d_M_kOf_30 ?_
        refine lv_iload_n hx hb d_M_kOf_33 rfl (lv_at hl 3 rfl) ?_
        refine va_iald hx hb hK hP 2 0 rfl rfl (vp_in_nI (n := 3) (by decide) (by decide)) d_M_kOf_34 ?_
        refine tpi (y := nI ct) (hcu) ?_
        refine lv_i2l (v := lN ct) hx hb d_M_kOf_35 (nI_l (by omega)) ?_
        refine lv_iload_n hx hb d_M_kOf_36 rfl (lv_at hl 0 rfl) ?_
        have hPc := hP.sub (ws' := []) [] rfl
        have hKc := hK.sub (tys' := []) [] rfl
        refine pci (va_runS (As := [.int (nI K)]) (rest := [.long (lN ct)]) ⟨hx, hb, hml, hown, hg⟩ (c_M_power l D K (by omega)) (va_cwS 1 hg (gS gw_517 gw_518 gw_7 gw_519) rfl rfl rfl (by decide +kernel) ⟨Nat.le_of_ble_eq_true rfl, Nat.le_of_ble_eq_true rfl⟩) ⟨fun a U g mk q => by obtain ⟨q0, qP, qK⟩ := q; exact ⟨q0, qP, va_K.moved (u := U) (U := U.calling g mk a) (Vm.Alike.refl U.vm) qK⟩, fun U hU hW => ⟨rfl, by rw [hU]; exact hPc, va_K.moved hW.alike hKc⟩⟩ rfl rfl hl.1 rfl (lv_room (Nat.le_of_ble_eq_true rfl)) d_M_kOf_37 (⟨Nat.le_of_ble_eq_true rfl, Nat.le_of_ble_eq_true rfl⟩)) ?_
        refine lv_i2l (v := lN (2 ^ K)) hx hb d_M_kOf_40 (nI_l (by omega)) ?_
        refine lv_lmul hx hb d_M_kOf_41 ?_
        refine tpl (y := lN (ct * 2 ^ K)) (lN_mul _ _) ?_
        refine lv_iload_n hx hb d_M_kOf_42 rfl (lv_at hl 1 rfl) ?_
        refine lv_i2l (v := lN (sm + ct / 2)) hx hb d_M_kOf_43 (nI_l (by omega)) ?_
        refine W.lcmp hx hb d_M_kOf_44 ?_
        refine lv_if_ge (tgt := 54) hx hb d_M_kOf_45 (by decide) (fun c_2 => ?_) (fun c_2 => ?_)
        · skip
          refine lv_iload_n hx hb d_M_kOf_54 rfl (lv_at hl 0 rfl) ?_
          exact W.iret (v := nI K) hx hb hr (fun t ht hW => ⟨rfl, ht⟩) (fun q h => by cases h) d_M_kOf_55
        · skip
          exact absurd ((lg_cmp_ge _ _).mpr ((pk_lLE (by omega) h2).mpr hK1)) c_2
      | succ d ih =>
        intro k hk ls hl
        have h2 : ct * 2 ^ k < 2 ^ 63 := Nat.lt_of_le_of_lt (Nat.mul_le_mul hc0 (pw30 (show k ≤ 30 by omega))) (by decide)
        have h3 := pw30 (show k ≤ 30 by omega)
        refine lv_aload_n hx hb d_M_kOf_29 rfl (lv_at hl 2 rfl) ?_
        refine va_get (D := D) (ci := 5) (v := .ref mc) (C := R_M) (T := T_M) (N := 20) hx hb hg in_M hown hK hP 0 rfl rfl 9 (by decide) (hg _ gw_533) (fun _ h9 => h9) rfl d_M_kOf_30 ?_
        refine lv_iload_n hx hb d_M_kOf_33 rfl (lv_at hl 3 rfl) ?_
        refine va_iald hx hb hK hP 2 0 rfl rfl (vp_in_nI (n := 3) (by decide) (by decide)) d_M_kOf_34 ?_
        refine tpi (y := nI ct) (hcu) ?_
        refine lv_i2l (v := lN ct) hx hb d_M_kOf_35 (nI_l (by omega)) ?_
        refine lv_iload_n hx hb d_M_kOf_36 rfl (lv_at hl 0 rfl) ?_
        have hPc := hP.sub (ws' := []) [] rfl
        have hKc := hK.sub (tys' := []) [] rfl
        refine pci (va_runS (As := [.int (nI k)]) (rest := [.long (lN ct)]) ⟨hx, hb, hml, hown, hg⟩ (c_M_power l D k (by omega)) (va_cwS 1 hg (gS gw_517 gw_518 gw_7 gw_519) rfl rfl rfl (by decide +kernel) ⟨Nat.le_of_ble_eq_true rfl, Nat.le_of_ble_eq_true rfl⟩) ⟨fun a U g mk q => by obtain ⟨q0, qP, qK⟩ := q; exact ⟨q0, qP, va_K.moved (u := U) (U := U.calling g mk a) (Vm.Alike.refl U.vm) qK⟩, fun U hU hW => ⟨rfl, by rw [hU]; exact hPc, va_K.moved hW.alike hKc⟩⟩ rfl rfl hl.1 rfl (lv_room (Nat.le_of_ble_eq_true rfl)) d_M_kOf_37 (⟨Nat.le_of_ble_eq_true rfl, Nat.le_of_ble_eq_true rfl⟩)) ?_
        refine lv_i2l (v := lN (2 ^ k)) hx hb d_M_kOf_40 (nI_l (by omega)) ?_
        refine lv_lmul hx hb d_M_kOf_41 ?_
        refine tpl (y := lN (ct * 2 ^ k)) (lN_mul _ _) ?_
        refine lv_iload_n hx hb d_M_kOf_42 rfl (lv_at hl 1 rfl) ?_
        refine lv_i2l (v := lN (sm + ct / 2)) hx hb d_M_kOf_43 (nI_l (by omega)) ?_
        refine W.lcmp hx hb d_M_kOf_44 ?_
        refine lv_if_ge (tgt := 54) hx hb d_M_kOf_45 (by decide) (fun c_3 => ?_) (fun c_3 => ?_)
        · skip
          exact absurd ((pk_lLE (by omega) h2).mp ((lg_cmp_ge _ _).mp c_3)) (by have := hK2 k (by omega); omega)
        · skip
          refine lv_iinc (v := nI (k + 1)) (lv' := [(3, .int (nI (k + 1))), (2, .int (nI (sm + ct / 2))), (0, .ref y), (1, .int 3)]) hx hb d_M_kOf_48 hl (k := 0) rfl (nI_1 k) (by decide) rfl (fun ls hl => ?_)
          refine lv_goto (tgt := 29) hx hb d_M_kOf_51 (by decide) ?_
          exact ih (k + 1) (by omega) ls (lv_sub hl [0, 1, 2, 3] rfl)
    exact loop K 0 (by omega) ls hl
set_option maxHeartbeats 4000000 in
set_option maxRecDepth 100000 in
theorem c_M_isUp3 (l : Launch) (D : va_G) (y ms mw mu mc mn mr mq md bi ne li sp q sz wa : Nat) (th en la at0 lk : Int32) (cI : ClassId) (su cu nu : Nat → Int32) (sm ct ng K : Nat) (hsu : su 3 = nI sm) (hcu : cu 3 = nI ct) (hnu : nu 3 = nI ng) (hc0 : ct ≤ 64) (hn0 : ng ≤ 64) (hs0 : sm < 2 ^ 30) (hKb : K ≤ 29) (hK1 : sm + ct / 2 ≤ ct * 2 ^ K) (hK2 : ∀ j, j < K → ct * 2 ^ j < sm + ct / 2) : Met l y_M_isUp (WSY y_M_isUp b_M_isUp 2 (some .boolean)) ({ frames := 2, cells := 0, slots := 0, locals := 45 }) (va_Pc [.ref y, .int 3] (fun U => va_P D CLS [(y, .inr (5, [.int th, .int (nI bi), .int (nI ne), .int (nI li), .int (nI sp), .int (nI q), .ref ms, .ref mw, .ref mu, .ref mc, .ref mn, .int en, .int (nI sz), .ref mr, .int (nI wa), .ref mq, .int la, .ref md, .int at0, .int lk])), (mu, .inl (cI, 4, .inl su)), (mc, .inl (cI, 4, .inl cu)), (mn, .inl (cI, 4, .inl nu))] U.heap ∧ va_K D CLS [(cI, .int)] U)) (QR (some (.int (if K = 0 ∧ 2 * ng < ct then 1 else 0)))) 0 0 (fun _ => False) := by
  refine Met.ofW (cc := b_M_isUp) (maxL := 2) (ret := (some .boolean)) (by decide) rfl ?_
  intro p e s m args below meth c s₁ B hml hv
  obtain ⟨rfl, hP, hK⟩ := hv
  have hx := B.exec
  have hb := B.bytes
  have hr := B.returns
  have hts := atoms_spec (ws := WSY y_M_isUp b_M_isUp 2 (some .boolean)) B.pre
  have hg : ∀ w ∈ GW, w.before _ s = true := fun w h => hts w (List.mem_cons_of_mem _ h)
  have hown : s.vm.findClass "LineGolombModel" = some m.cls := findClass_of_methodNamed B.named
  have hlocks := B.notSynchronized
  have hS : va_S (fun _ => False) s.heap s.heap [] := va_S.rf
  have hl := lv_entry ([.ref y, .int 3]) (n := 2) (Nat.le_of_ble_eq_true rfl)
  rw [lg_entry_eq]
  generalize (lg_sl ([.ref y, .int 3]) ++ List.replicate (2 - (lg_sl ([.ref y, .int 3])).length) Slot.unset).toArray = ls at hl ⊢
  have hl : lv_has ls 2 [(0, .ref y), (1, .int 3)] := hl
  refine lv_aload_n hx hb d_M_isUp_0 rfl (lv_at hl 0 rfl) ?_
  refine lv_iload_n hx hb d_M_isUp_1 rfl (lv_at hl 1 rfl) ?_
  have hPc := hP.sub (ws' := [(y, .inr (5, [.int th, .int (nI bi), .int (nI ne), .int (nI li), .int (nI sp), .int (nI q), .ref ms, .ref mw, .ref mu, .ref mc, .ref mn, .int en, .int (nI sz), .ref mr, .int (nI wa), .ref mq, .int la, .ref md, .int at0, .int lk])), (mu, .inl (cI, 4, .inl su)), (mc, .inl (cI, 4, .inl cu)), (mn, .inl (cI, 4, .inl nu))]) [0, 1, 2, 3] rfl
  have hKc := hK.sub (tys' := [(cI, .int)]) [0] rfl
  refine pci (va_runV (As := [.int 3]) (rest := []) ⟨hx, hb, hml, hown, hg⟩ (c_M_kOf3 l D y ms mw mu mc mn mr mq md bi ne li sp q sz wa th en la at0 lk cI su cu nu sm ct ng K hsu hcu hnu hc0 hn0 hs0 hKb hK1 hK2) (cwV 1 hg (gV gw_638 gw_640 gs_21 gw_7 gw_641) rfl rfl rfl (by decide +kernel) ⟨Nat.le_of_ble_eq_true rfl, Nat.le_of_ble_eq_true rfl⟩) ⟨fun a U g mk q => by obtain ⟨q0, qP, qK⟩ := q; exact ⟨q0, qP, va_K.moved (u := U) (U := U.calling g mk a) (Vm.Alike.refl U.vm) qK⟩, va_recv hKc hPc (ci := 5) (q0 := 0) rfl rfl, fun U hU hW => ⟨rfl, by rw [hU]; exact hPc, va_K.moved hW.alike hKc⟩⟩ rfl rfl hl.1 rfl (lv_room (Nat.le_of_ble_eq_true rfl)) d_M_isUp_2 (⟨Nat.le_of_ble_eq_true rfl, Nat.le_of_ble_eq_true rfl⟩)) ?_
  refine lv_if_ne (tgt := 29) hx hb d_M_isUp_5 (by decide) (fun c_1 => ?_) (fun c_1 => ?_)
  · skip
    have h1 : ¬ K = 0 := fun z => c_1 (by rw [z]; rfl)
    refine lv_iconst (v := 0) hx hb d_M_isUp_29 (by decide) ?_
    refine tpi (y := if K = 0 ∧ 2 * ng < ct then 1 else 0) ((if_neg (fun z => h1 z.1)).symm) ?_
    exact W.zret (v := if K = 0 ∧ 2 * ng < ct then 1 else 0) hx hb hr (by rw [if_neg (fun z => h1 z.1)]; rfl) (fun t ht hW => ⟨rfl, ht⟩) (fun q h => by cases h) d_M_isUp_30
  · skip
    have h1 : K = 0 := by have := (nI_eq (a := K) (b := 0) (by omega) (by omega)).mp c_1; omega
    refine lv_iconst (v := 2) hx hb d_M_isUp_8 (by decide) ?_
    refine lv_aload_n hx hb d_M_isUp_9 rfl (lv_at hl 0 rfl) ?_
    refine va_get (D := D) (ci := 5) (v := .ref mn) (C := R_M) (T := T_M) (N := 20) hx hb hg in_M hown hK hP 0 rfl rfl 10 (by decide) (hg _ gw_534) (fun _ h9 => h9) rfl d_M_isUp_10 ?_
    refine lv_iload_n hx hb d_M_isUp_13 rfl (lv_at hl 1 rfl) ?_
    refine va_iald hx hb hK hP 3 0 rfl rfl (vp_in_nI (n := 3) (by decide) (by decide)) d_M_isUp_14 ?_
    refine tpi (y := nI ng) (hnu) ?_
    refine lv_imul hx hb d_M_isUp_15 ?_
    refine tpi (y := nI (2 * ng)) (mul2 ng) ?_
    refine lv_aload_n hx hb d_M_isUp_16 rfl (lv_at hl 0 rfl) ?_
    refine va_get (D := D) (ci := 5) (v := .ref mc) (C := R_M) (T := T_M) (N := 20) hx hb hg in_M hown hK hP 0 rfl rfl 9 (by decide) (hg _ gw_533) (fun _ h9 => h9) rfl d_M_isUp_17 ?_
    refine lv_iload_n hx hb d_M_isUp_20 rfl (lv_at hl 1 rfl) ?_
    refine va_iald hx hb hK hP 2 0 rfl rfl (vp_in_nI (n := 3) (by decide) (by decide)) d_M_isUp_21 ?_
    refine tpi (y := nI ct) (hcu) ?_
    refine lv_icmp_ge (tgt := 29) hx hb d_M_isUp_22 (by decide) (fun c_2 => ?_) (fun c_2 => ?_)
    · skip
      have h2 := (nI_leI (by omega) (by omega)).mp c_2
      refine lv_iconst (v := 0) hx hb d_M_isUp_29 (by decide) ?_
      refine tpi (y := if K = 0 ∧ 2 * ng < ct then 1 else 0) ((if_neg (fun z => by omega)).symm) ?_
      exact W.zret (v := if K = 0 ∧ 2 * ng < ct then 1 else 0) hx hb hr (by rw [if_neg (fun z => by omega)]; rfl) (fun t ht hW => ⟨rfl, ht⟩) (fun q h => by cases h) d_M_isUp_30
    · skip
      have h2 : ¬ ct ≤ 2 * ng := fun z => c_2 ((nI_leI (by omega) (by omega)).mpr z)
      refine lv_iconst (v := 1) hx hb d_M_isUp_25 (by decide) ?_
      refine lv_goto (tgt := 30) hx hb d_M_isUp_26 (by decide) ?_
      refine tpi (y := if K = 0 ∧ 2 * ng < ct then 1 else 0) ((if_pos ⟨h1, by omega⟩).symm) ?_
      exact W.zret (v := if K = 0 ∧ 2 * ng < ct then 1 else 0) hx hb hr (by rw [if_pos ⟨h1, by omega⟩]; rfl) (fun t ht hW => ⟨rfl, ht⟩) (fun q h => by cases h) d_M_isUp_30
set_option maxHeartbeats 4000000 in
set_option maxRecDepth 100000 in
theorem c_M_limitFor0 (l : Launch) (D : va_G) (y ms mw mu mc mn mr mq md bi ne li sp q sz wa : Nat) (th en la at0 lk : Int32) (cI : ClassId) (lw : Nat → Int32) (rw : Nat) (hlw : lw 0 = nI rw) (hli : rw + 1 ≤ li) : Met l y_M_limitFor (WSY y_M_limitFor b_M_limitFor 2 (some .int)) ({ frames := 0, cells := 0, slots := 0, locals := 0 }) (va_Pc [.ref y, .int 0] (fun U => va_P D CLS [(y, .inr (5, [.int th, .int (nI bi), .int (nI ne), .int (nI li), .int (nI sp), .int (nI q), .ref ms, .ref mw, .ref mu, .ref mc, .ref mn, .int en, .int (nI sz), .ref mr, .int (nI wa), .ref mq, .int la, .ref md, .int at0, .int lk])), (mw, .inl (cI, 2, .inl lw))] U.heap ∧ va_K D CLS [(cI, .int)] U)) (QR (some (.int (nI (li - 1 - rw))))) 0 0 (fun _ => False) := by
  refine Met.ofW (cc := b_M_limitFor) (maxL := 2) (ret := (some .int)) (by decide) rfl ?_
  intro p e s m args below meth c s₁ B hml hv
  obtain ⟨rfl, hP, hK⟩ := hv
  have hx := B.exec
  have hb := B.bytes
  have hr := B.returns
  have hts := atoms_spec (ws := WSY y_M_limitFor b_M_limitFor 2 (some .int)) B.pre
  have hg : ∀ w ∈ GW, w.before _ s = true := fun w h => hts w (List.mem_cons_of_mem _ h)
  have hown : s.vm.findClass "LineGolombModel" = some m.cls := findClass_of_methodNamed B.named
  have hlocks := B.notSynchronized
  have hS : va_S (fun _ => False) s.heap s.heap [] := va_S.rf
  have hl := lv_entry ([.ref y, .int 0]) (n := 2) (Nat.le_of_ble_eq_true rfl)
  rw [lg_entry_eq]
  generalize (lg_sl ([.ref y, .int 0]) ++ List.replicate (2 - (lg_sl ([.ref y, .int 0])).length) Slot.unset).toArray = ls at hl ⊢
  have hl : lv_has ls 2 [(0, .ref y), (1, .int 0)] := hl
  refine lv_aload_n hx hb d_M_limitFor_0 rfl (lv_at hl 0 rfl) ?_
  refine va_get (D := D) (ci := 5) (v := .int (nI li)) (C := R_M) (T := T_M) (N := 20) hx hb hg in_M hown hK hP 0 rfl rfl 3 (by decide) (hg _ gw_527) (fun _ h9 => h9) rfl d_M_limitFor_1 ?_
  refine lv_iconst (v := 1) hx hb d_M_limitFor_4 (by decide) ?_
  refine lv_isub hx hb d_M_limitFor_5 ?_
  refine tpi (y := nI (li - 1)) (pk_sub (b := 1) (by omega)) ?_
  refine lv_aload_n hx hb d_M_limitFor_6 rfl (lv_at hl 0 rfl) ?_
  refine va_get (D := D) (ci := 5) (v := .ref mw) (C := R_M) (T := T_M) (N := 20) hx hb hg in_M hown hK hP 0 rfl rfl 7 (by decide) (hg _ gw_531) (fun _ h9 => h9) rfl d_M_limitFor_7 ?_
  refine lv_iload_n hx hb d_M_limitFor_10 rfl (lv_at hl 1 rfl) ?_
  refine va_iald hx hb hK hP 1 0 rfl rfl (vp_in_nI (n := 0) (by decide) (by decide)) d_M_limitFor_11 ?_
  refine tpi (y := nI rw) (hlw) ?_
  refine lv_isub hx hb d_M_limitFor_12 ?_
  refine tpi (y := nI (li - 1 - rw)) (pk_sub (by omega)) ?_
  exact W.iret (v := nI (li - 1 - rw)) hx hb hr (fun t ht hW => ⟨rfl, ht⟩) (fun q h => by cases h) d_M_limitFor_13
set_option maxHeartbeats 4000000 in
set_option maxRecDepth 100000 in
theorem c_M_limitFor1 (l : Launch) (D : va_G) (y ms mw mu mc mn mr mq md bi ne li sp q sz wa : Nat) (th en la at0 lk : Int32) (cI : ClassId) (lw : Nat → Int32) (rw : Nat) (hlw : lw 1 = nI rw) (hli : rw + 1 ≤ li) : Met l y_M_limitFor (WSY y_M_limitFor b_M_limitFor 2 (some .int)) ({ frames := 0, cells := 0, slots := 0, locals := 0 }) (va_Pc [.ref y, .int 1] (fun U => va_P D CLS [(y, .inr (5, [.int th, .int (nI bi), .int (nI ne), .int (nI li), .int (nI sp), .int (nI q), .ref ms, .ref mw, .ref mu, .ref mc, .ref mn, .int en, .int (nI sz), .ref mr, .int (nI wa), .ref mq, .int la, .ref md, .int at0, .int lk])), (mw, .inl (cI, 2, .inl lw))] U.heap ∧ va_K D CLS [(cI, .int)] U)) (QR (some (.int (nI (li - 1 - rw))))) 0 0 (fun _ => False) := by
  refine Met.ofW (cc := b_M_limitFor) (maxL := 2) (ret := (some .int)) (by decide) rfl ?_
  intro p e s m args below meth c s₁ B hml hv
  obtain ⟨rfl, hP, hK⟩ := hv
  have hx := B.exec
  have hb := B.bytes
  have hr := B.returns
  have hts := atoms_spec (ws := WSY y_M_limitFor b_M_limitFor 2 (some .int)) B.pre
  have hg : ∀ w ∈ GW, w.before _ s = true := fun w h => hts w (List.mem_cons_of_mem _ h)
  have hown : s.vm.findClass "LineGolombModel" = some m.cls := findClass_of_methodNamed B.named
  have hlocks := B.notSynchronized
  have hS : va_S (fun _ => False) s.heap s.heap [] := va_S.rf
  have hl := lv_entry ([.ref y, .int 1]) (n := 2) (Nat.le_of_ble_eq_true rfl)
  rw [lg_entry_eq]
  generalize (lg_sl ([.ref y, .int 1]) ++ List.replicate (2 - (lg_sl ([.ref y, .int 1])).length) Slot.unset).toArray = ls at hl ⊢
  have hl : lv_has ls 2 [(0, .ref y), (1, .int 1)] := hl
  refine lv_aload_n hx hb d_M_limitFor_0 rfl (lv_at hl 0 rfl) ?_
  refine va_get (D := D) (ci := 5) (v := .int (nI li)) (C := R_M) (T := T_M) (N := 20) hx hb hg in_M hown hK hP 0 rfl rfl 3 (by decide) (hg _ gw_527) (fun _ h9 => h9) rfl d_M_limitFor_1 ?_
  refine lv_iconst (v := 1) hx hb d_M_limitFor_4 (by decide) ?_
  refine lv_isub hx hb d_M_limitFor_5 ?_
  refine tpi (y := nI (li - 1)) (pk_sub (b := 1) (by omega)) ?_
  refine lv_aload_n hx hb d_M_limitFor_6 rfl (lv_at hl 0 rfl) ?_
  refine va_get (D := D) (ci := 5) (v := .ref mw) (C := R_M) (T := T_M) (N := 20) hx hb hg in_M hown hK hP 0 rfl rfl 7 (by decide) (hg _ gw_531) (fun _ h9 => h9) rfl d_M_limitFor_7 ?_
  refine lv_iload_n hx hb d_M_limitFor_10 rfl (lv_at hl 1 rfl) ?_
  refine va_iald hx hb hK hP 1 0 rfl rfl (vp_in_nI (n := 1) (by decide) (by decide)) d_M_limitFor_11 ?_
  refine tpi (y := nI rw) (hlw) ?_
  refine lv_isub hx hb d_M_limitFor_12 ?_
  refine tpi (y := nI (li - 1 - rw)) (pk_sub (by omega)) ?_
  exact W.iret (v := nI (li - 1 - rw)) hx hb hr (fun t ht hW => ⟨rfl, ht⟩) (fun q h => by cases h) d_M_limitFor_13
set_option maxHeartbeats 4000000 in
set_option maxRecDepth 100000 in
theorem c_M_lay (l : Launch) (D : va_G) (y ms mw mu mc mn mr mq md bi ne li sp q sz wa : Nat) (th en la at0 lk : Int32) (cB : ClassId) (dr : Nat → Int32) (l0 : Nat) (b0 : Int32) (hb0 : b0 = 0 ∨ b0 = 1) (hl0 : l0 < 400) : Met l y_M_lay (WSY y_M_lay b_M_lay 2 none) ({ frames := 0, cells := 0, slots := 0, locals := 0 }) (va_Pc [.ref y, .int b0] (fun U => va_P D CLS [(y, .inr (5, [.int th, .int (nI bi), .int (nI ne), .int (nI li), .int (nI sp), .int (nI q), .ref ms, .ref mw, .ref mu, .ref mc, .ref mn, .int en, .int (nI sz), .ref mr, .int (nI wa), .ref mq, .int (nI l0), .ref md, .int at0, .int lk])), (md, .inl (cB, 400, .inl dr))] U.heap ∧ va_K D CLS [(cB, .byte)] U ∧ va_D (fun _ => True) [(y, .inr (5, [.int th, .int (nI bi), .int (nI ne), .int (nI li), .int (nI sp), .int (nI q), .ref ms, .ref mw, .ref mu, .ref mc, .ref mn, .int en, .int (nI sz), .ref mr, .int (nI wa), .ref mq, .int (nI l0), .ref md, .int at0, .int lk])), (md, .inl (cB, 400, .inl dr))])) (QM none [(y, .inr (5, [.int th, .int (nI bi), .int (nI ne), .int (nI li), .int (nI sp), .int (nI q), .ref ms, .ref mw, .ref mu, .ref mc, .ref mn, .int en, .int (nI sz), .ref mr, .int (nI wa), .ref mq, .int (nI l0), .ref md, .int at0, .int lk])), (md, .inl (cB, 400, .inl dr))] [(y, .inr (5, [.int th, .int (nI bi), .int (nI ne), .int (nI li), .int (nI sp), .int (nI q), .ref ms, .ref mw, .ref mu, .ref mc, .ref mn, .int en, .int (nI sz), .ref mr, .int (nI wa), .ref mq, .int (nI (l0 + 1)), .ref md, .int at0, .int lk])), (md, .inl (cB, 400, .inl (upd dr l0 b0)))] D) 0 0 (ad [(y, .inr (5, [.int th, .int (nI bi), .int (nI ne), .int (nI li), .int (nI sp), .int (nI q), .ref ms, .ref mw, .ref mu, .ref mc, .ref mn, .int en, .int (nI sz), .ref mr, .int (nI wa), .ref mq, .int (nI l0), .ref md, .int at0, .int lk])), (md, .inl (cB, 400, .inl dr))]) := by
  refine Met.ofW (cc := b_M_lay) (maxL := 2) (ret := none) (by decide) rfl ?_
  intro p e s m args below meth c s₁ B hml hv
  obtain ⟨rfl, hP, hK, hD0⟩ := hv
  have hx := B.exec
  have hb := B.bytes
  have hr := B.returns
  have hts := atoms_spec (ws := WSY y_M_lay b_M_lay 2 none) B.pre
  have hg : ∀ w ∈ GW, w.before _ s = true := fun w h => hts w (List.mem_cons_of_mem _ h)
  have hown : s.vm.findClass "LineGolombModel" = some m.cls := findClass_of_methodNamed B.named
  have hlocks := B.notSynchronized
  obtain ⟨A, hAe⟩ : ∃ A, A = ad [(y, .inr (5, [.int th, .int (nI bi), .int (nI ne), .int (nI li), .int (nI sp), .int (nI q), .ref ms, .ref mw, .ref mu, .ref mc, .ref mn, .int en, .int (nI sz), .ref mr, .int (nI wa), .ref mq, .int (nI l0), .ref md, .int at0, .int lk])), (md, .inl (cB, 400, .inl dr))] := ⟨_, rfl⟩
  have hD : va_D A [(y, .inr (5, [.int th, .int (nI bi), .int (nI ne), .int (nI li), .int (nI sp), .int (nI q), .ref ms, .ref mw, .ref mu, .ref mc, .ref mn, .int en, .int (nI sz), .ref mr, .int (nI wa), .ref mq, .int (nI l0), .ref md, .int at0, .int lk])), (md, .inl (cB, 400, .inl dr))] := by rw [hAe]; exact va_D_ad hD0
  have hS : va_S A s.heap s.heap [] := va_S.rf
  have hl := lv_entry ([.ref y, .int b0]) (n := 2) (Nat.le_of_ble_eq_true rfl)
  rw [lg_entry_eq]
  generalize (lg_sl ([.ref y, .int b0]) ++ List.replicate (2 - (lg_sl ([.ref y, .int b0])).length) Slot.unset).toArray = ls at hl ⊢
  have hl : lv_has ls 2 [(0, .ref y), (1, .int b0)] := hl
  refine lv_aload_n hx hb d_M_lay_0 rfl (lv_at hl 0 rfl) ?_
  refine va_get (D := D) (ci := 5) (v := .ref md) (C := R_M) (T := T_M) (N := 20) hx hb hg in_M hown hK hP 0 rfl rfl 17 (by decide) (hg _ gw_541) (fun _ h9 => h9) rfl d_M_lay_1 ?_
  refine lv_aload_n hx hb d_M_lay_4 rfl (lv_at hl 0 rfl) ?_
  refine va_get (D := D) (ci := 5) (v := .int (nI l0)) (C := R_M) (T := T_M) (N := 20) hx hb hg in_M hown hK hP 0 rfl rfl 16 (by decide) (hg _ gw_540) (fun _ h9 => h9) rfl d_M_lay_5 ?_
  refine lv_iload_n hx hb d_M_lay_8 rfl (lv_at hl 1 rfl) ?_
  refine lv_i2b (v := b0) hx hb d_M_lay_9 (b8 hb0) ?_
  refine va_bast hx hb hK hP hD hS 1 0 rfl rfl (vp_in_nI hl0 (by omega)) d_M_lay_10 (fun H locs hP hD hS => ?_)
  rw [nI_clamp (show l0 < 2 ^ 31 by omega), n8 hb0] at hP hD
  have hP : va_P D CLS [(y, .inr (5, [.int th, .int (nI bi), .int (nI ne), .int (nI li), .int (nI sp), .int (nI q), .ref ms, .ref mw, .ref mu, .ref mc, .ref mn, .int en, .int (nI sz), .ref mr, .int (nI wa), .ref mq, .int (nI l0), .ref md, .int at0, .int lk])), (md, .inl (cB, 400, .inl (upd dr l0 b0)))] H := hP
  have hD : va_D A [(y, .inr (5, [.int th, .int (nI bi), .int (nI ne), .int (nI li), .int (nI sp), .int (nI q), .ref ms, .ref mw, .ref mu, .ref mc, .ref mn, .int en, .int (nI sz), .ref mr, .int (nI wa), .ref mq, .int (nI l0), .ref md, .int at0, .int lk])), (md, .inl (cB, 400, .inl (upd dr l0 b0)))] := hD
  refine lv_aload_n hx hb d_M_lay_11 rfl (lv_at hl 0 rfl) ?_
  refine lv_dup hx hb d_M_lay_12 rfl ?_
  refine va_get (D := D) (ci := 5) (v := .int (nI l0)) (C := R_M) (T := T_M) (N := 20) hx hb hg in_M hown hK hP 0 rfl rfl 16 (by decide) (hg _ gw_540) (fun _ h9 => h9) rfl d_M_lay_13 ?_
  refine lv_iconst (v := 1) hx hb d_M_lay_16 (by decide) ?_
  refine lv_iadd hx hb d_M_lay_17 ?_
  refine tpi (y := nI (l0 + 1)) (nI_1 l0) ?_
  refine va_put (D := D) (ci := 5) (v := .int (nI (l0 + 1))) (ty := .int) (C := R_M) (T := T_M) (N := 20) hx hb hg in_M ty_M tok_M nm_M hown hK hP hD hS 0 rfl rfl 16 (by decide) (hg _ gw_540) (fun _ h9 => h9) rfl (by decide +kernel) (rfl) (rfl) (Nat.le_of_ble_eq_true rfl) d_M_lay_18 (fun H locs hP hD hS => ?_)
  have hP : va_P D CLS [(y, .inr (5, [.int th, .int (nI bi), .int (nI ne), .int (nI li), .int (nI sp), .int (nI q), .ref ms, .ref mw, .ref mu, .ref mc, .ref mn, .int en, .int (nI sz), .ref mr, .int (nI wa), .ref mq, .int (nI (l0 + 1)), .ref md, .int at0, .int lk])), (md, .inl (cB, 400, .inl (upd dr l0 b0)))] H := hP
  have hD : va_D A [(y, .inr (5, [.int th, .int (nI bi), .int (nI ne), .int (nI li), .int (nI sp), .int (nI q), .ref ms, .ref mw, .ref mu, .ref mc, .ref mn, .int en, .int (nI sz), .ref mr, .int (nI wa), .ref mq, .int (nI (l0 + 1)), .ref md, .int at0, .int lk])), (md, .inl (cB, 400, .inl (upd dr l0 b0)))] := hD
  exact W.vret hx hb hr (fun t ht hW => ⟨rfl, by rw [ht]; exact hP, (hAe ▸ hS).F ht⟩) (hAe ▸ hS).2.2 d_M_lay_21
set_option maxHeartbeats 4000000 in
set_option maxRecDepth 100000 in
theorem c_M_layLow (l : Launch) (D : va_G) (y ms mw mu mc mn mr mq md bi ne li sp q sz wa : Nat) (th en la at0 lk : Int32) (cB : ClassId) (dr : Nat → Int32) (l0 : Nat) (v0 : Int32) (n : Nat) (hn : n < 32) (hl0 : l0 + n ≤ 400) : Met l y_M_layLow (WSY y_M_layLow b_M_layLow 4 none) ({ frames := 1, cells := 0, slots := 0, locals := 21 }) (va_Pc [.ref y, .int v0, .int (nI n)] (fun U => va_P D CLS [(y, .inr (5, [.int th, .int (nI bi), .int (nI ne), .int (nI li), .int (nI sp), .int (nI q), .ref ms, .ref mw, .ref mu, .ref mc, .ref mn, .int en, .int (nI sz), .ref mr, .int (nI wa), .ref mq, .int (nI l0), .ref md, .int at0, .int lk])), (md, .inl (cB, 400, .inl dr))] U.heap ∧ va_K D CLS [(cB, .byte)] U ∧ va_D (fun _ => True) [(y, .inr (5, [.int th, .int (nI bi), .int (nI ne), .int (nI li), .int (nI sp), .int (nI q), .ref ms, .ref mw, .ref mu, .ref mc, .ref mn, .int en, .int (nI sz), .ref mr, .int (nI wa), .ref mq, .int (nI l0), .ref md, .int at0, .int lk])), (md, .inl (cB, 400, .inl dr))])) (QM none [(y, .inr (5, [.int th, .int (nI bi), .int (nI ne), .int (nI li), .int (nI sp), .int (nI q), .ref ms, .ref mw, .ref mu, .ref mc, .ref mn, .int en, .int (nI sz), .ref mr, .int (nI wa), .ref mq, .int (nI l0), .ref md, .int at0, .int lk])), (md, .inl (cB, 400, .inl dr))] [(y, .inr (5, [.int th, .int (nI bi), .int (nI ne), .int (nI li), .int (nI sp), .int (nI q), .ref ms, .ref mw, .ref mu, .ref mc, .ref mn, .int en, .int (nI sz), .ref mr, .int (nI wa), .ref mq, .int (nI (l0 + n)), .ref md, .int at0, .int lk])), (md, .inl (cB, 400, .inl (flw dr v0 n l0 n)))] D) 0 0 (ad [(y, .inr (5, [.int th, .int (nI bi), .int (nI ne), .int (nI li), .int (nI sp), .int (nI q), .ref ms, .ref mw, .ref mu, .ref mc, .ref mn, .int en, .int (nI sz), .ref mr, .int (nI wa), .ref mq, .int (nI l0), .ref md, .int at0, .int lk])), (md, .inl (cB, 400, .inl dr))]) := by
  refine Met.ofW (cc := b_M_layLow) (maxL := 4) (ret := none) (by decide) rfl ?_
  intro p e s m args below meth c s₁ B hml hv
  obtain ⟨rfl, hP, hK, hD0⟩ := hv
  have hx := B.exec
  have hb := B.bytes
  have hr := B.returns
  have hts := atoms_spec (ws := WSY y_M_layLow b_M_layLow 4 none) B.pre
  have hg : ∀ w ∈ GW, w.before _ s = true := fun w h => hts w (List.mem_cons_of_mem _ h)
  have hown : s.vm.findClass "LineGolombModel" = some m.cls := findClass_of_methodNamed B.named
  have hlocks := B.notSynchronized
  obtain ⟨A, hAe⟩ : ∃ A, A = ad [(y, .inr (5, [.int th, .int (nI bi), .int (nI ne), .int (nI li), .int (nI sp), .int (nI q), .ref ms, .ref mw, .ref mu, .ref mc, .ref mn, .int en, .int (nI sz), .ref mr, .int (nI wa), .ref mq, .int (nI l0), .ref md, .int at0, .int lk])), (md, .inl (cB, 400, .inl dr))] := ⟨_, rfl⟩
  have hD : va_D A [(y, .inr (5, [.int th, .int (nI bi), .int (nI ne), .int (nI li), .int (nI sp), .int (nI q), .ref ms, .ref mw, .ref mu, .ref mc, .ref mn, .int en, .int (nI sz), .ref mr, .int (nI wa), .ref mq, .int (nI l0), .ref md, .int at0, .int lk])), (md, .inl (cB, 400, .inl dr))] := by rw [hAe]; exact va_D_ad hD0
  have hS : va_S A s.heap s.heap [] := va_S.rf
  have hl := lv_entry ([.ref y, .int v0, .int (nI n)]) (n := 4) (Nat.le_of_ble_eq_true rfl)
  rw [lg_entry_eq]
  generalize (lg_sl ([.ref y, .int v0, .int (nI n)]) ++ List.replicate (4 - (lg_sl ([.ref y, .int v0, .int (nI n)])).length) Slot.unset).toArray = ls at hl ⊢
  have hl : lv_has ls 4 [(0, .ref y), (1, .int v0), (2, .int (nI n))] := hl
  refine lv_iload_n hx hb d_M_layLow_0 rfl (lv_at hl 2 rfl) ?_
  refine lv_iconst (v := 1) hx hb d_M_layLow_1 (by decide) ?_
  refine lv_isub hx hb d_M_layLow_2 ?_
  refine lv_istore_n (lv' := [(3, .int ((nI n) - 1)), (0, .ref y), (1, .int v0), (2, .int (nI n))]) hx hb d_M_layLow_3 rfl hl (by decide) rfl (fun ls hl => ?_)
  have loop : ∀ (d k : Nat), k + d = n → ∀ (H : Heap) (locs : List Loc), va_P D CLS [(y, .inr (5, [.int th, .int (nI bi), .int (nI ne), .int (nI li), .int (nI sp), .int (nI q), .ref ms, .ref mw, .ref mu, .ref mc, .ref mn, .int en, .int (nI sz), .ref mr, .int (nI wa), .ref mq, .int (nI (l0 + k)), .ref md, .int at0, .int lk])), (md, .inl (cB, 400, .inl (flw dr v0 n l0 k)))] H → va_D A [(y, .inr (5, [.int th, .int (nI bi), .int (nI ne), .int (nI li), .int (nI sp), .int (nI q), .ref ms, .ref mw, .ref mu, .ref mc, .ref mn, .int en, .int (nI sz), .ref mr, .int (nI wa), .ref mq, .int (nI (l0 + k)), .ref md, .int at0, .int lk])), (md, .inl (cB, 400, .inl (flw dr v0 n l0 k)))] → va_S A s.heap H locs → ∀ (ls : Array Slot), lv_has ls 4 [(3, .int (nI d - 1)), (0, .ref y), (1, .int v0), (2, .int (nI n))] → W p l e (headSpec (WSY y_M_layLow b_M_layLow 4 none) ({ frames := 1, cells := 0, slots := 0, locals := 21 })).room s m ([.ref y, .int v0, .int (nI n)] : List Value).toArray below meth c H locs 0 0 (MQ below (QM none [(y, .inr (5, [.int th, .int (nI bi), .int (nI ne), .int (nI li), .int (nI sp), .int (nI q), .ref ms, .ref mw, .ref mu, .ref mc, .ref mn, .int en, .int (nI sz), .ref mr, .int (nI wa), .ref mq, .int (nI l0), .ref md, .int at0, .int lk])), (md, .inl (cB, 400, .inl dr))] [(y, .inr (5, [.int th, .int (nI bi), .int (nI ne), .int (nI li), .int (nI sp), .int (nI q), .ref ms, .ref mw, .ref mu, .ref mc, .ref mn, .int en, .int (nI sz), .ref mr, .int (nI wa), .ref mq, .int (nI (l0 + n)), .ref md, .int at0, .int lk])), (md, .inl (cB, 400, .inl (flw dr v0 n l0 n)))] D) ([.ref y, .int v0, .int (nI n)] : List Value).toArray s 0 0 (ad [(y, .inr (5, [.int th, .int (nI bi), .int (nI ne), .int (nI li), .int (nI sp), .int (nI q), .ref ms, .ref mw, .ref mu, .ref mc, .ref mn, .int en, .int (nI sz), .ref mr, .int (nI wa), .ref mq, .int (nI l0), .ref md, .int at0, .int lk])), (md, .inl (cB, 400, .inl dr))])) (F0 m 4 ls []) := by
    intro d
    induction d with
    | zero =>
      intro k hk H locs hP hD hS ls hl
      obtain rfl : k = n := by omega
      refine lv_iload_n hx hb d_M_layLow_4 rfl (lv_at hl 0 rfl) ?_
      refine lv_if_lt (tgt := 23) hx hb d_M_layLow_5 (by decide) (fun c_1 => ?_) (fun c_1 => ?_)
      · skip
        exact W.vret hx hb hr (fun t ht hW => ⟨rfl, by rw [ht]; exact hP, (hAe ▸ hS).F ht⟩) (hAe ▸ hS).2.2 d_M_layLow_23
      · skip
        exact absurd (by decide) c_1
    | succ d ih =>
      intro k hk H locs hP hD hS ls hl
      refine lv_iload_n hx hb d_M_layLow_4 rfl (lv_at hl 0 rfl) ?_
      refine tpi (y := nI d) (nI_pred d) ?_
      refine lv_if_lt (tgt := 23) hx hb d_M_layLow_5 (by decide) (fun c_2 => ?_) (fun c_2 => ?_)
      · skip
        exact absurd c_2 (nI_pos (by omega))
      · skip
        rw [nI_pred d] at hl
        refine lv_aload_n hx hb d_M_layLow_8 rfl (lv_at hl 1 rfl) ?_
        refine lv_iload_n hx hb d_M_layLow_9 rfl (lv_at hl 2 rfl) ?_
        refine lv_iload_n hx hb d_M_layLow_10 rfl (lv_at hl 0 rfl) ?_
        refine lv_ishr hx hb d_M_layLow_11 ?_
        refine lv_iconst (v := 1) hx hb d_M_layLow_12 (by decide) ?_
        refine lv_iand hx hb d_M_layLow_13 ?_
        refine tpi (y := bitv v0 (n - 1 - k)) (by rw [show n - 1 - k = d by omega]; rfl) ?_
        have hPc := hP.sub (ws' := [(y, .inr (5, [.int th, .int (nI bi), .int (nI ne), .int (nI li), .int (nI sp), .int (nI q), .ref ms, .ref mw, .ref mu, .ref mc, .ref mn, .int en, .int (nI sz), .ref mr, .int (nI wa), .ref mq, .int (nI (l0 + k)), .ref md, .int at0, .int lk])), (md, .inl (cB, 400, .inl (flw dr v0 n l0 k)))]) [0, 1] rfl
        have hDc := hD.sub (ws' := [(y, .inr (5, [.int th, .int (nI bi), .int (nI ne), .int (nI li), .int (nI sp), .int (nI q), .ref ms, .ref mw, .ref mu, .ref mc, .ref mn, .int en, .int (nI sz), .ref mr, .int (nI wa), .ref mq, .int (nI (l0 + k)), .ref md, .int at0, .int lk])), (md, .inl (cB, 400, .inl (flw dr v0 n l0 k)))]) [0, 1] (by decide) rfl
        have hKc := hK.sub (tys' := [(cB, .byte)]) [0] rfl
        refine mcv (va_runV (As := [.int (bitv v0 (n - 1 - k))]) (rest := []) ⟨hx, hb, hml, hown, hg⟩ (c_M_lay l D y ms mw mu mc mn mr mq md bi ne li sp q sz wa th en la at0 lk cB (flw dr v0 n l0 k) (l0 + k) (bitv v0 (n - 1 - k)) (bitv01 _ _) (by omega)) (cwV 1 hg (gV gw_598 gw_600 gs_14 gw_7 gw_601) rfl rfl rfl (by decide +kernel) ⟨Nat.le_of_ble_eq_true rfl, Nat.le_of_ble_eq_true rfl⟩) ⟨fun a U g mk q => by obtain ⟨q0, qP, qK, qD⟩ := q; exact ⟨q0, qP, va_K.moved (u := U) (U := U.calling g mk a) (Vm.Alike.refl U.vm) qK, qD⟩, va_recv hKc hPc (ci := 5) (q0 := 0) rfl rfl, fun U hU hW => ⟨rfl, by rw [hU]; exact hPc, va_K.moved hW.alike hKc, hDc.weaken (fun _ _ _ _ => trivial)⟩⟩ rfl rfl hl.1 rfl (lv_room (Nat.le_of_ble_eq_true rfl)) d_M_layLow_14 (⟨Nat.le_of_ble_eq_true rfl, Nat.le_of_ble_eq_true rfl⟩)) hS hP hD [0, 1] rfl rfl rfl (fun H locs hP hD hS => ?_)
        have hP : va_P D CLS [(y, .inr (5, [.int th, .int (nI bi), .int (nI ne), .int (nI li), .int (nI sp), .int (nI q), .ref ms, .ref mw, .ref mu, .ref mc, .ref mn, .int en, .int (nI sz), .ref mr, .int (nI wa), .ref mq, .int (nI (l0 + (k + 1))), .ref md, .int at0, .int lk])), (md, .inl (cB, 400, .inl (flw dr v0 n l0 (k + 1))))] H := hP
        have hD : va_D A [(y, .inr (5, [.int th, .int (nI bi), .int (nI ne), .int (nI li), .int (nI sp), .int (nI q), .ref ms, .ref mw, .ref mu, .ref mc, .ref mn, .int en, .int (nI sz), .ref mr, .int (nI wa), .ref mq, .int (nI (l0 + (k + 1))), .ref md, .int at0, .int lk])), (md, .inl (cB, 400, .inl (flw dr v0 n l0 (k + 1))))] := hD
        refine lv_iinc (v := nI d - 1) (lv' := [(3, .int (nI d - 1)), (0, .ref y), (1, .int v0), (2, .int (nI n))]) hx hb d_M_layLow_17 hl (k := 0) rfl (dec1 _) (by decide) rfl (fun ls hl => ?_)
        refine lv_goto (tgt := 4) hx hb d_M_layLow_20 (by decide) ?_
        exact ih (k + 1) (by omega) H locs hP hD hS ls (lv_sub hl [0, 1, 2, 3] rfl)
  exact loop n 0 (by omega) s.heap [] hP hD hS ls hl
set_option maxHeartbeats 4000000 in
set_option maxRecDepth 100000 in
theorem c_M_layNumber (l : Launch) (D : va_G) (y ms mw mu mc mn mr mq md bi ne li sp q sz wa : Nat) (th en la at0 lk : Int32) (cB : ClassId) (dr : Nat → Int32) (l0 : Nat) (N K mx : Nat) (hN : N < 2 ^ 30) (hKb : K < 32) (hq : q < 32) (hmx : q + 1 ≤ mx) (hmx2 : mx ≤ 200) (hl0 : l0 + nlen q K N (mx - q - 1) ≤ 400) : Met l y_M_layNumber (WSY y_M_layNumber b_M_layNumber 7 none) ({ frames := 2, cells := 0, slots := 0, locals := 44 }) (va_Pc [.ref y, .int (nI N), .int (nI K), .int (nI mx)] (fun U => va_P D CLS [(y, .inr (5, [.int th, .int (nI bi), .int (nI ne), .int (nI li), .int (nI sp), .int (nI q), .ref ms, .ref mw, .ref mu, .ref mc, .ref mn, .int en, .int (nI sz), .ref mr, .int (nI wa), .ref mq, .int (nI l0), .ref md, .int at0, .int lk])), (md, .inl (cB, 400, .inl dr))] U.heap ∧ va_K D CLS [(cB, .byte)] U ∧ va_D (fun _ => True) [(y, .inr (5, [.int th, .int (nI bi), .int (nI ne), .int (nI li), .int (nI sp), .int (nI q), .ref ms, .ref mw, .ref mu, .ref mc, .ref mn, .int en, .int (nI sz), .ref mr, .int (nI wa), .ref mq, .int (nI l0), .ref md, .int at0, .int lk])), (md, .inl (cB, 400, .inl dr))])) (QM none [(y, .inr (5, [.int th, .int (nI bi), .int (nI ne), .int (nI li), .int (nI sp), .int (nI q), .ref ms, .ref mw, .ref mu, .ref mc, .ref mn, .int en, .int (nI sz), .ref mr, .int (nI wa), .ref mq, .int (nI l0), .ref md, .int at0, .int lk])), (md, .inl (cB, 400, .inl dr))] [(y, .inr (5, [.int th, .int (nI bi), .int (nI ne), .int (nI li), .int (nI sp), .int (nI q), .ref ms, .ref mw, .ref mu, .ref mc, .ref mn, .int en, .int (nI sz), .ref mr, .int (nI wa), .ref mq, .int (nI (l0 + nlen q K N (mx - q - 1))), .ref md, .int at0, .int lk])), (md, .inl (cB, 400, .inl (wnum dr q K N (mx - q - 1) l0)))] D) 0 0 (ad [(y, .inr (5, [.int th, .int (nI bi), .int (nI ne), .int (nI li), .int (nI sp), .int (nI q), .ref ms, .ref mw, .ref mu, .ref mc, .ref mn, .int en, .int (nI sz), .ref mr, .int (nI wa), .ref mq, .int (nI l0), .ref md, .int at0, .int lk])), (md, .inl (cB, 400, .inl dr))]) := by
  refine Met.ofW (cc := b_M_layNumber) (maxL := 7) (ret := none) (by decide) rfl ?_
  intro p e s m args below meth c s₁ B hml hv
  obtain ⟨rfl, hP, hK, hD0⟩ := hv
  have hx := B.exec
  have hb := B.bytes
  have hr := B.returns
  have hts := atoms_spec (ws := WSY y_M_layNumber b_M_layNumber 7 none) B.pre
  have hg : ∀ w ∈ GW, w.before _ s = true := fun w h => hts w (List.mem_cons_of_mem _ h)
  have hown : s.vm.findClass "LineGolombModel" = some m.cls := findClass_of_methodNamed B.named
  have hlocks := B.notSynchronized
  obtain ⟨A, hAe⟩ : ∃ A, A = ad [(y, .inr (5, [.int th, .int (nI bi), .int (nI ne), .int (nI li), .int (nI sp), .int (nI q), .ref ms, .ref mw, .ref mu, .ref mc, .ref mn, .int en, .int (nI sz), .ref mr, .int (nI wa), .ref mq, .int (nI l0), .ref md, .int at0, .int lk])), (md, .inl (cB, 400, .inl dr))] := ⟨_, rfl⟩
  have hD : va_D A [(y, .inr (5, [.int th, .int (nI bi), .int (nI ne), .int (nI li), .int (nI sp), .int (nI q), .ref ms, .ref mw, .ref mu, .ref mc, .ref mn, .int en, .int (nI sz), .ref mr, .int (nI wa), .ref mq, .int (nI l0), .ref md, .int at0, .int lk])), (md, .inl (cB, 400, .inl dr))] := by rw [hAe]; exact va_D_ad hD0
  have hS : va_S A s.heap s.heap [] := va_S.rf
  have hl := lv_entry ([.ref y, .int (nI N), .int (nI K), .int (nI mx)]) (n := 7) (Nat.le_of_ble_eq_true rfl)
  rw [lg_entry_eq]
  generalize (lg_sl ([.ref y, .int (nI N), .int (nI K), .int (nI mx)]) ++ List.replicate (7 - (lg_sl ([.ref y, .int (nI N), .int (nI K), .int (nI mx)])).length) Slot.unset).toArray = ls at hl ⊢
  have hl : lv_has ls 7 [(0, .ref y), (1, .int (nI N)), (2, .int (nI K)), (3, .int (nI mx))] := hl
  have hz : N / 2 ^ K ≤ N := Nat.div_le_self _ _
  refine lv_iload_n hx hb d_M_layNumber_0 rfl (lv_at hl 1 rfl) ?_
  refine lv_iload_n hx hb d_M_layNumber_1 rfl (lv_at hl 2 rfl) ?_
  refine lv_ishr hx hb d_M_layNumber_2 ?_
  refine tpi (y := nI (N / 2 ^ K)) (shr (by omega) hKb) ?_
  refine lv_istore (lv' := [(4, .int (nI (N / 2 ^ K))), (0, .ref y), (1, .int (nI N)), (2, .int (nI K)), (3, .int (nI mx))]) hx hb d_M_layNumber_3 hl (by decide) rfl (fun ls hl => ?_)
  refine lv_iload_n hx hb d_M_layNumber_5 rfl (lv_at hl 4 rfl) ?_
  refine lv_aload_n hx hb d_M_layNumber_6 rfl (lv_at hl 1 rfl) ?_
  refine va_get (D := D) (ci := 5) (v := .int (nI q)) (C := R_M) (T := T_M) (N := 20) hx hb hg in_M hown hK hP 0 rfl rfl 5 (by decide) (hg _ gw_529) (fun _ h9 => h9) rfl d_M_layNumber_7 ?_
  refine lv_isub hx hb d_M_layNumber_10 ?_
  refine tpi (y := nI (mx - q)) (pk_sub (by omega)) ?_
  refine lv_iconst (v := 1) hx hb d_M_layNumber_11 (by decide) ?_
  refine lv_isub hx hb d_M_layNumber_12 ?_
  refine tpi (y := nI (mx - q - 1)) (pk_sub (b := 1) (by omega)) ?_
  refine lv_istore (lv' := [(5, .int (nI (mx - q - 1))), (4, .int (nI (N / 2 ^ K))), (0, .ref y), (1, .int (nI N)), (2, .int (nI K)), (3, .int (nI mx))]) hx hb d_M_layNumber_13 hl (by decide) rfl (fun ls hl => ?_)
  refine lv_iload hx hb d_M_layNumber_15 (lv_at hl 1 rfl) ?_
  refine lv_iload hx hb d_M_layNumber_17 (lv_at hl 0 rfl) ?_
  refine lv_icmp_ge (tgt := 55) hx hb d_M_layNumber_19 (by decide) (fun c_1 => ?_) (fun c_1 => ?_)
  · skip
    have hzm : ¬ N / 2 ^ K < (mx - q - 1) := by have := (nI_leI (by omega) (by omega)).mp c_1; omega
    have hln : nlen q K N (mx - q - 1) = (mx - q - 1) + 1 + q := if_neg hzm
    obtain ⟨zz, hzz⟩ : ∃ zz : Nat, zz = (mx - q - 1) := ⟨_, rfl⟩
    refine lv_iconst (v := 0) hx hb d_M_layNumber_55 (by decide) ?_
    refine lv_istore (lv' := [(6, .int 0), (5, .int (nI (mx - q - 1))), (4, .int (nI (N / 2 ^ K))), (0, .ref y), (1, .int (nI N)), (2, .int (nI K)), (3, .int (nI mx))]) hx hb d_M_layNumber_56 hl (by decide) rfl (fun ls hl => ?_)
    have tail : ∀ (H : Heap) (locs : List Loc), va_P D CLS [(y, .inr (5, [.int th, .int (nI bi), .int (nI ne), .int (nI li), .int (nI sp), .int (nI q), .ref ms, .ref mw, .ref mu, .ref mc, .ref mn, .int en, .int (nI sz), .ref mr, .int (nI wa), .ref mq, .int (nI (l0 + zz)), .ref md, .int at0, .int lk])), (md, .inl (cB, 400, .inl (fil dr 0 l0 zz)))] H → va_D A [(y, .inr (5, [.int th, .int (nI bi), .int (nI ne), .int (nI li), .int (nI sp), .int (nI q), .ref ms, .ref mw, .ref mu, .ref mc, .ref mn, .int en, .int (nI sz), .ref mr, .int (nI wa), .ref mq, .int (nI (l0 + zz)), .ref md, .int at0, .int lk])), (md, .inl (cB, 400, .inl (fil dr 0 l0 zz)))] → va_S A s.heap H locs → ∀ (ls : Array Slot), lv_has ls 7 [(5, .int (nI (mx - q - 1))), (4, .int (nI (N / 2 ^ K))), (0, .ref y), (1, .int (nI N)), (2, .int (nI K)), (3, .int (nI mx))] → W p l e (headSpec (WSY y_M_layNumber b_M_layNumber 7 none) ({ frames := 2, cells := 0, slots := 0, locals := 44 })).room s m ([.ref y, .int (nI N), .int (nI K), .int (nI mx)] : List Value).toArray below meth c H locs 0 0 (MQ below (QM none [(y, .inr (5, [.int th, .int (nI bi), .int (nI ne), .int (nI li), .int (nI sp), .int (nI q), .ref ms, .ref mw, .ref mu, .ref mc, .ref mn, .int en, .int (nI sz), .ref mr, .int (nI wa), .ref mq, .int (nI l0), .ref md, .int at0, .int lk])), (md, .inl (cB, 400, .inl dr))] [(y, .inr (5, [.int th, .int (nI bi), .int (nI ne), .int (nI li), .int (nI sp), .int (nI q), .ref ms, .ref mw, .ref mu, .ref mc, .ref mn, .int en, .int (nI sz), .ref mr, .int (nI wa), .ref mq, .int (nI (l0 + nlen q K N (mx - q - 1))), .ref md, .int at0, .int lk])), (md, .inl (cB, 400, .inl (wnum dr q K N (mx - q - 1) l0)))] D) ([.ref y, .int (nI N), .int (nI K), .int (nI mx)] : List Value).toArray s 0 0 (ad [(y, .inr (5, [.int th, .int (nI bi), .int (nI ne), .int (nI li), .int (nI sp), .int (nI q), .ref ms, .ref mw, .ref mu, .ref mc, .ref mn, .int en, .int (nI sz), .ref mr, .int (nI wa), .ref mq, .int (nI l0), .ref md, .int at0, .int lk])), (md, .inl (cB, 400, .inl dr))])) (F0 m 76 ls []) := by
      intro H locs hP hD hS ls hl
      refine lv_aload_n hx hb d_M_layNumber_76 rfl (lv_at hl 2 rfl) ?_
      refine lv_iconst (v := 1) hx hb d_M_layNumber_77 (by decide) ?_
      have hPc := hP.sub (ws' := [(y, .inr (5, [.int th, .int (nI bi), .int (nI ne), .int (nI li), .int (nI sp), .int (nI q), .ref ms, .ref mw, .ref mu, .ref mc, .ref mn, .int en, .int (nI sz), .ref mr, .int (nI wa), .ref mq, .int (nI (l0 + zz)), .ref md, .int at0, .int lk])), (md, .inl (cB, 400, .inl (fil dr 0 l0 zz)))]) [0, 1] rfl
      have hDc := hD.sub (ws' := [(y, .inr (5, [.int th, .int (nI bi), .int (nI ne), .int (nI li), .int (nI sp), .int (nI q), .ref ms, .ref mw, .ref mu, .ref mc, .ref mn, .int en, .int (nI sz), .ref mr, .int (nI wa), .ref mq, .int (nI (l0 + zz)), .ref md, .int at0, .int lk])), (md, .inl (cB, 400, .inl (fil dr 0 l0 zz)))]) [0, 1] (by decide) rfl
      have hKc := hK.sub (tys' := [(cB, .byte)]) [0] rfl
      refine mcv (va_runV (As := [.int 1]) (rest := []) ⟨hx, hb, hml, hown, hg⟩ (c_M_lay l D y ms mw mu mc mn mr mq md bi ne li sp q sz wa th en la at0 lk cB (fil dr 0 l0 zz) (l0 + zz) 1 (Or.inr rfl) (by omega)) (cwV 1 hg (gV gw_598 gw_600 gs_14 gw_7 gw_601) rfl rfl rfl (by decide +kernel) ⟨Nat.le_of_ble_eq_true rfl, Nat.le_of_ble_eq_true rfl⟩) ⟨fun a U g mk q => by obtain ⟨q0, qP, qK, qD⟩ := q; exact ⟨q0, qP, va_K.moved (u := U) (U := U.calling g mk a) (Vm.Alike.refl U.vm) qK, qD⟩, va_recv hKc hPc (ci := 5) (q0 := 0) rfl rfl, fun U hU hW => ⟨rfl, by rw [hU]; exact hPc, va_K.moved hW.alike hKc, hDc.weaken (fun _ _ _ _ => trivial)⟩⟩ rfl rfl hl.1 rfl (lv_room (Nat.le_of_ble_eq_true rfl)) d_M_layNumber_78 (⟨Nat.le_of_ble_eq_true rfl, Nat.le_of_ble_eq_true rfl⟩)) hS hP hD [0, 1] rfl rfl rfl (fun H locs hP hD hS => ?_)
      have hP : va_P D CLS [(y, .inr (5, [.int th, .int (nI bi), .int (nI ne), .int (nI li), .int (nI sp), .int (nI q), .ref ms, .ref mw, .ref mu, .ref mc, .ref mn, .int en, .int (nI sz), .ref mr, .int (nI wa), .ref mq, .int (nI (l0 + zz + 1)), .ref md, .int at0, .int lk])), (md, .inl (cB, 400, .inl (fil (fil dr 0 l0 zz) 1 (l0 + zz) 1)))] H := hP
      have hD : va_D A [(y, .inr (5, [.int th, .int (nI bi), .int (nI ne), .int (nI li), .int (nI sp), .int (nI q), .ref ms, .ref mw, .ref mu, .ref mc, .ref mn, .int en, .int (nI sz), .ref mr, .int (nI wa), .ref mq, .int (nI (l0 + zz + 1)), .ref md, .int at0, .int lk])), (md, .inl (cB, 400, .inl (fil (fil dr 0 l0 zz) 1 (l0 + zz) 1)))] := hD
      refine lv_aload_n hx hb d_M_layNumber_81 rfl (lv_at hl 2 rfl) ?_
      refine lv_iload_n hx hb d_M_layNumber_82 rfl (lv_at hl 3 rfl) ?_
      refine lv_iconst (v := 1) hx hb d_M_layNumber_83 (by decide) ?_
      refine lv_isub hx hb d_M_layNumber_84 ?_
      refine lv_aload_n hx hb d_M_layNumber_85 rfl (lv_at hl 2 rfl) ?_
      refine va_get (D := D) (ci := 5) (v := .int (nI q)) (C := R_M) (T := T_M) (N := 20) hx hb hg in_M hown hK hP 0 rfl rfl 5 (by decide) (hg _ gw_529) (fun _ h9 => h9) rfl d_M_layNumber_86 ?_
      have hPc := hP.sub (ws' := [(y, .inr (5, [.int th, .int (nI bi), .int (nI ne), .int (nI li), .int (nI sp), .int (nI q), .ref ms, .ref mw, .ref mu, .ref mc, .ref mn, .int en, .int (nI sz), .ref mr, .int (nI wa), .ref mq, .int (nI (l0 + zz + 1)), .ref md, .int at0, .int lk])), (md, .inl (cB, 400, .inl (fil (fil dr 0 l0 zz) 1 (l0 + zz) 1)))]) [0, 1] rfl
      have hDc := hD.sub (ws' := [(y, .inr (5, [.int th, .int (nI bi), .int (nI ne), .int (nI li), .int (nI sp), .int (nI q), .ref ms, .ref mw, .ref mu, .ref mc, .ref mn, .int en, .int (nI sz), .ref mr, .int (nI wa), .ref mq, .int (nI (l0 + zz + 1)), .ref md, .int at0, .int lk])), (md, .inl (cB, 400, .inl (fil (fil dr 0 l0 zz) 1 (l0 + zz) 1)))]) [0, 1] (by decide) rfl
      have hKc := hK.sub (tys' := [(cB, .byte)]) [0] rfl
      refine mcv (va_runV (As := [.int ((nI N) - 1), .int (nI q)]) (rest := []) ⟨hx, hb, hml, hown, hg⟩ (c_M_layLow l D y ms mw mu mc mn mr mq md bi ne li sp q sz wa th en la at0 lk cB (fil (fil dr 0 l0 zz) 1 (l0 + zz) 1) (l0 + zz + 1) (nI N - 1) q (by omega) (by omega)) (cwV 2 hg (gV gw_602 gw_604 gs_15 gw_7 gw_605) rfl rfl rfl (by decide +kernel) ⟨Nat.le_of_ble_eq_true rfl, Nat.le_of_ble_eq_true rfl⟩) ⟨fun a U g mk q => by obtain ⟨q0, qP, qK, qD⟩ := q; exact ⟨q0, qP, va_K.moved (u := U) (U := U.calling g mk a) (Vm.Alike.refl U.vm) qK, qD⟩, va_recv hKc hPc (ci := 5) (q0 := 0) rfl rfl, fun U hU hW => ⟨rfl, by rw [hU]; exact hPc, va_K.moved hW.alike hKc, hDc.weaken (fun _ _ _ _ => trivial)⟩⟩ rfl rfl hl.1 rfl (lv_room (Nat.le_of_ble_eq_true rfl)) d_M_layNumber_89 (⟨Nat.le_of_ble_eq_true rfl, Nat.le_of_ble_eq_true rfl⟩)) hS hP hD [0, 1] rfl rfl rfl (fun H locs hP hD hS => ?_)
      have hP : va_P D CLS [(y, .inr (5, [.int th, .int (nI bi), .int (nI ne), .int (nI li), .int (nI sp), .int (nI q), .ref ms, .ref mw, .ref mu, .ref mc, .ref mn, .int en, .int (nI sz), .ref mr, .int (nI wa), .ref mq, .int (nI (l0 + zz + 1 + q)), .ref md, .int at0, .int lk])), (md, .inl (cB, 400, .inl (flw (fil (fil dr 0 l0 zz) 1 (l0 + zz) 1) (nI N - 1) q (l0 + zz + 1) q)))] H := hP
      have hD : va_D A [(y, .inr (5, [.int th, .int (nI bi), .int (nI ne), .int (nI li), .int (nI sp), .int (nI q), .ref ms, .ref mw, .ref mu, .ref mc, .ref mn, .int en, .int (nI sz), .ref mr, .int (nI wa), .ref mq, .int (nI (l0 + zz + 1 + q)), .ref md, .int at0, .int lk])), (md, .inl (cB, 400, .inl (flw (fil (fil dr 0 l0 zz) 1 (l0 + zz) 1) (nI N - 1) q (l0 + zz + 1) q)))] := hD
      rw [hzz] at hP
      exact W.vret hx hb hr (fun t ht hW => ⟨rfl, by rw [ht]; exact (by rw [hln, show l0 + ((mx - q - 1) + 1 + q) = l0 + (mx - q - 1) + 1 + q by omega, show wnum dr q K N (mx - q - 1) l0 = flw (fil (fil dr 0 l0 (mx - q - 1)) 1 (l0 + (mx - q - 1)) 1) (nI N - 1) q (l0 + (mx - q - 1) + 1) q from if_neg hzm]; exact hP), (hAe ▸ hS).F ht⟩) (hAe ▸ hS).2.2 d_M_layNumber_92
    have loop : ∀ (d k : Nat), k + d = zz → ∀ (H : Heap) (locs : List Loc), va_P D CLS [(y, .inr (5, [.int th, .int (nI bi), .int (nI ne), .int (nI li), .int (nI sp), .int (nI q), .ref ms, .ref mw, .ref mu, .ref mc, .ref mn, .int en, .int (nI sz), .ref mr, .int (nI wa), .ref mq, .int (nI (l0 + k)), .ref md, .int at0, .int lk])), (md, .inl (cB, 400, .inl (fil dr 0 l0 k)))] H → va_D A [(y, .inr (5, [.int th, .int (nI bi), .int (nI ne), .int (nI li), .int (nI sp), .int (nI q), .ref ms, .ref mw, .ref mu, .ref mc, .ref mn, .int en, .int (nI sz), .ref mr, .int (nI wa), .ref mq, .int (nI (l0 + k)), .ref md, .int at0, .int lk])), (md, .inl (cB, 400, .inl (fil dr 0 l0 k)))] → va_S A s.heap H locs → ∀ (ls : Array Slot), lv_has ls 7 [(6, .int (nI k)), (5, .int (nI (mx - q - 1))), (4, .int (nI (N / 2 ^ K))), (0, .ref y), (1, .int (nI N)), (2, .int (nI K)), (3, .int (nI mx))] → W p l e (headSpec (WSY y_M_layNumber b_M_layNumber 7 none) ({ frames := 2, cells := 0, slots := 0, locals := 44 })).room s m ([.ref y, .int (nI N), .int (nI K), .int (nI mx)] : List Value).toArray below meth c H locs 0 0 (MQ below (QM none [(y, .inr (5, [.int th, .int (nI bi), .int (nI ne), .int (nI li), .int (nI sp), .int (nI q), .ref ms, .ref mw, .ref mu, .ref mc, .ref mn, .int en, .int (nI sz), .ref mr, .int (nI wa), .ref mq, .int (nI l0), .ref md, .int at0, .int lk])), (md, .inl (cB, 400, .inl dr))] [(y, .inr (5, [.int th, .int (nI bi), .int (nI ne), .int (nI li), .int (nI sp), .int (nI q), .ref ms, .ref mw, .ref mu, .ref mc, .ref mn, .int en, .int (nI sz), .ref mr, .int (nI wa), .ref mq, .int (nI (l0 + nlen q K N (mx - q - 1))), .ref md, .int at0, .int lk])), (md, .inl (cB, 400, .inl (wnum dr q K N (mx - q - 1) l0)))] D) ([.ref y, .int (nI N), .int (nI K), .int (nI mx)] : List Value).toArray s 0 0 (ad [(y, .inr (5, [.int th, .int (nI bi), .int (nI ne), .int (nI li), .int (nI sp), .int (nI q), .ref ms, .ref mw, .ref mu, .ref mc, .ref mn, .int en, .int (nI sz), .ref mr, .int (nI wa), .ref mq, .int (nI l0), .ref md, .int at0, .int lk])), (md, .inl (cB, 400, .inl dr))])) (F0 m 58 ls []) := by
      intro d
      induction d with
      | zero =>
        intro k hk H locs hP hD hS ls hl
        obtain rfl : k = zz := by omega
        refine lv_iload hx hb d_M_layNumber_58 (lv_at hl 0 rfl) ?_
        refine lv_iload hx hb d_M_layNumber_60 (lv_at hl 1 rfl) ?_
        refine lv_icmp_ge (tgt := 76) hx hb d_M_layNumber_62 (by decide) (fun c_2 => ?_) (fun c_2 => ?_)
        · skip
          exact tail H locs hP hD hS ls (lv_sub hl [1, 2, 3, 4, 5, 6] rfl)
        · skip
          exact absurd (nI_le (by omega) (by omega)) c_2
      | succ d ih =>
        intro k hk H locs hP hD hS ls hl
        refine lv_iload hx hb d_M_layNumber_58 (lv_at hl 0 rfl) ?_
        refine lv_iload hx hb d_M_layNumber_60 (lv_at hl 1 rfl) ?_
        refine lv_icmp_ge (tgt := 76) hx hb d_M_layNumber_62 (by decide) (fun c_3 => ?_) (fun c_3 => ?_)
        · skip
          exact absurd ((nI_leI (by omega) (by omega)).mp c_3) (by omega)
        · skip
          refine lv_aload_n hx hb d_M_layNumber_65 rfl (lv_at hl 3 rfl) ?_
          refine lv_iconst (v := 0) hx hb d_M_layNumber_66 (by decide) ?_
          have hPc := hP.sub (ws' := [(y, .inr (5, [.int th, .int (nI bi), .int (nI ne), .int (nI li), .int (nI sp), .int (nI q), .ref ms, .ref mw, .ref mu, .ref mc, .ref mn, .int en, .int (nI sz), .ref mr, .int (nI wa), .ref mq, .int (nI (l0 + k)), .ref md, .int at0, .int lk])), (md, .inl (cB, 400, .inl (fil dr 0 l0 k)))]) [0, 1] rfl
          have hDc := hD.sub (ws' := [(y, .inr (5, [.int th, .int (nI bi), .int (nI ne), .int (nI li), .int (nI sp), .int (nI q), .ref ms, .ref mw, .ref mu, .ref mc, .ref mn, .int en, .int (nI sz), .ref mr, .int (nI wa), .ref mq, .int (nI (l0 + k)), .ref md, .int at0, .int lk])), (md, .inl (cB, 400, .inl (fil dr 0 l0 k)))]) [0, 1] (by decide) rfl
          have hKc := hK.sub (tys' := [(cB, .byte)]) [0] rfl
          refine mcv (va_runV (As := [.int 0]) (rest := []) ⟨hx, hb, hml, hown, hg⟩ (c_M_lay l D y ms mw mu mc mn mr mq md bi ne li sp q sz wa th en la at0 lk cB (fil dr 0 l0 k) (l0 + k) 0 (Or.inl rfl) (by omega)) (cwV 1 hg (gV gw_598 gw_600 gs_14 gw_7 gw_601) rfl rfl rfl (by decide +kernel) ⟨Nat.le_of_ble_eq_true rfl, Nat.le_of_ble_eq_true rfl⟩) ⟨fun a U g mk q => by obtain ⟨q0, qP, qK, qD⟩ := q; exact ⟨q0, qP, va_K.moved (u := U) (U := U.calling g mk a) (Vm.Alike.refl U.vm) qK, qD⟩, va_recv hKc hPc (ci := 5) (q0 := 0) rfl rfl, fun U hU hW => ⟨rfl, by rw [hU]; exact hPc, va_K.moved hW.alike hKc, hDc.weaken (fun _ _ _ _ => trivial)⟩⟩ rfl rfl hl.1 rfl (lv_room (Nat.le_of_ble_eq_true rfl)) d_M_layNumber_67 (⟨Nat.le_of_ble_eq_true rfl, Nat.le_of_ble_eq_true rfl⟩)) hS hP hD [0, 1] rfl rfl rfl (fun H locs hP hD hS => ?_)
          have hP : va_P D CLS [(y, .inr (5, [.int th, .int (nI bi), .int (nI ne), .int (nI li), .int (nI sp), .int (nI q), .ref ms, .ref mw, .ref mu, .ref mc, .ref mn, .int en, .int (nI sz), .ref mr, .int (nI wa), .ref mq, .int (nI (l0 + (k + 1))), .ref md, .int at0, .int lk])), (md, .inl (cB, 400, .inl (fil dr 0 l0 (k + 1))))] H := hP
          have hD : va_D A [(y, .inr (5, [.int th, .int (nI bi), .int (nI ne), .int (nI li), .int (nI sp), .int (nI q), .ref ms, .ref mw, .ref mu, .ref mc, .ref mn, .int en, .int (nI sz), .ref mr, .int (nI wa), .ref mq, .int (nI (l0 + (k + 1))), .ref md, .int at0, .int lk])), (md, .inl (cB, 400, .inl (fil dr 0 l0 (k + 1))))] := hD
          refine lv_iinc (v := nI (k + 1)) (lv' := [(6, .int (nI (k + 1))), (5, .int (nI (mx - q - 1))), (4, .int (nI (N / 2 ^ K))), (0, .ref y), (1, .int (nI N)), (2, .int (nI K)), (3, .int (nI mx))]) hx hb d_M_layNumber_70 hl (k := 0) rfl (nI_1 k) (by decide) rfl (fun ls hl => ?_)
          refine lv_goto (tgt := 58) hx hb d_M_layNumber_73 (by decide) ?_
          exact ih (k + 1) (by omega) H locs hP hD hS ls (lv_sub hl [0, 1, 2, 3, 4, 5, 6] rfl)
    exact loop zz 0 (by omega) s.heap [] hP hD hS ls hl
  · skip
    have hzm : N / 2 ^ K < (mx - q - 1) := by have : ¬ (mx - q - 1) ≤ N / 2 ^ K := fun q9 => c_1 ((nI_leI (by omega) (by omega)).mpr q9); omega
    have hln : nlen q K N (mx - q - 1) = N / 2 ^ K + 1 + K := if_pos hzm
    obtain ⟨zz, hzz⟩ : ∃ zz : Nat, zz = N / 2 ^ K := ⟨_, rfl⟩
    refine lv_iconst (v := 0) hx hb d_M_layNumber_22 (by decide) ?_
    refine lv_istore (lv' := [(6, .int 0), (5, .int (nI (mx - q - 1))), (4, .int (nI (N / 2 ^ K))), (0, .ref y), (1, .int (nI N)), (2, .int (nI K)), (3, .int (nI mx))]) hx hb d_M_layNumber_23 hl (by decide) rfl (fun ls hl => ?_)
    have tail : ∀ (H : Heap) (locs : List Loc), va_P D CLS [(y, .inr (5, [.int th, .int (nI bi), .int (nI ne), .int (nI li), .int (nI sp), .int (nI q), .ref ms, .ref mw, .ref mu, .ref mc, .ref mn, .int en, .int (nI sz), .ref mr, .int (nI wa), .ref mq, .int (nI (l0 + zz)), .ref md, .int at0, .int lk])), (md, .inl (cB, 400, .inl (fil dr 0 l0 zz)))] H → va_D A [(y, .inr (5, [.int th, .int (nI bi), .int (nI ne), .int (nI li), .int (nI sp), .int (nI q), .ref ms, .ref mw, .ref mu, .ref mc, .ref mn, .int en, .int (nI sz), .ref mr, .int (nI wa), .ref mq, .int (nI (l0 + zz)), .ref md, .int at0, .int lk])), (md, .inl (cB, 400, .inl (fil dr 0 l0 zz)))] → va_S A s.heap H locs → ∀ (ls : Array Slot), lv_has ls 7 [(5, .int (nI (mx - q - 1))), (4, .int (nI (N / 2 ^ K))), (0, .ref y), (1, .int (nI N)), (2, .int (nI K)), (3, .int (nI mx))] → W p l e (headSpec (WSY y_M_layNumber b_M_layNumber 7 none) ({ frames := 2, cells := 0, slots := 0, locals := 44 })).room s m ([.ref y, .int (nI N), .int (nI K), .int (nI mx)] : List Value).toArray below meth c H locs 0 0 (MQ below (QM none [(y, .inr (5, [.int th, .int (nI bi), .int (nI ne), .int (nI li), .int (nI sp), .int (nI q), .ref ms, .ref mw, .ref mu, .ref mc, .ref mn, .int en, .int (nI sz), .ref mr, .int (nI wa), .ref mq, .int (nI l0), .ref md, .int at0, .int lk])), (md, .inl (cB, 400, .inl dr))] [(y, .inr (5, [.int th, .int (nI bi), .int (nI ne), .int (nI li), .int (nI sp), .int (nI q), .ref ms, .ref mw, .ref mu, .ref mc, .ref mn, .int en, .int (nI sz), .ref mr, .int (nI wa), .ref mq, .int (nI (l0 + nlen q K N (mx - q - 1))), .ref md, .int at0, .int lk])), (md, .inl (cB, 400, .inl (wnum dr q K N (mx - q - 1) l0)))] D) ([.ref y, .int (nI N), .int (nI K), .int (nI mx)] : List Value).toArray s 0 0 (ad [(y, .inr (5, [.int th, .int (nI bi), .int (nI ne), .int (nI li), .int (nI sp), .int (nI q), .ref ms, .ref mw, .ref mu, .ref mc, .ref mn, .int en, .int (nI sz), .ref mr, .int (nI wa), .ref mq, .int (nI l0), .ref md, .int at0, .int lk])), (md, .inl (cB, 400, .inl dr))])) (F0 m 43 ls []) := by
      intro H locs hP hD hS ls hl
      refine lv_aload_n hx hb d_M_layNumber_43 rfl (lv_at hl 2 rfl) ?_
      refine lv_iconst (v := 1) hx hb d_M_layNumber_44 (by decide) ?_
      have hPc := hP.sub (ws' := [(y, .inr (5, [.int th, .int (nI bi), .int (nI ne), .int (nI li), .int (nI sp), .int (nI q), .ref ms, .ref mw, .ref mu, .ref mc, .ref mn, .int en, .int (nI sz), .ref mr, .int (nI wa), .ref mq, .int (nI (l0 + zz)), .ref md, .int at0, .int lk])), (md, .inl (cB, 400, .inl (fil dr 0 l0 zz)))]) [0, 1] rfl
      have hDc := hD.sub (ws' := [(y, .inr (5, [.int th, .int (nI bi), .int (nI ne), .int (nI li), .int (nI sp), .int (nI q), .ref ms, .ref mw, .ref mu, .ref mc, .ref mn, .int en, .int (nI sz), .ref mr, .int (nI wa), .ref mq, .int (nI (l0 + zz)), .ref md, .int at0, .int lk])), (md, .inl (cB, 400, .inl (fil dr 0 l0 zz)))]) [0, 1] (by decide) rfl
      have hKc := hK.sub (tys' := [(cB, .byte)]) [0] rfl
      refine mcv (va_runV (As := [.int 1]) (rest := []) ⟨hx, hb, hml, hown, hg⟩ (c_M_lay l D y ms mw mu mc mn mr mq md bi ne li sp q sz wa th en la at0 lk cB (fil dr 0 l0 zz) (l0 + zz) 1 (Or.inr rfl) (by omega)) (cwV 1 hg (gV gw_598 gw_600 gs_14 gw_7 gw_601) rfl rfl rfl (by decide +kernel) ⟨Nat.le_of_ble_eq_true rfl, Nat.le_of_ble_eq_true rfl⟩) ⟨fun a U g mk q => by obtain ⟨q0, qP, qK, qD⟩ := q; exact ⟨q0, qP, va_K.moved (u := U) (U := U.calling g mk a) (Vm.Alike.refl U.vm) qK, qD⟩, va_recv hKc hPc (ci := 5) (q0 := 0) rfl rfl, fun U hU hW => ⟨rfl, by rw [hU]; exact hPc, va_K.moved hW.alike hKc, hDc.weaken (fun _ _ _ _ => trivial)⟩⟩ rfl rfl hl.1 rfl (lv_room (Nat.le_of_ble_eq_true rfl)) d_M_layNumber_45 (⟨Nat.le_of_ble_eq_true rfl, Nat.le_of_ble_eq_true rfl⟩)) hS hP hD [0, 1] rfl rfl rfl (fun H locs hP hD hS => ?_)
      have hP : va_P D CLS [(y, .inr (5, [.int th, .int (nI bi), .int (nI ne), .int (nI li), .int (nI sp), .int (nI q), .ref ms, .ref mw, .ref mu, .ref mc, .ref mn, .int en, .int (nI sz), .ref mr, .int (nI wa), .ref mq, .int (nI (l0 + zz + 1)), .ref md, .int at0, .int lk])), (md, .inl (cB, 400, .inl (fil (fil dr 0 l0 zz) 1 (l0 + zz) 1)))] H := hP
      have hD : va_D A [(y, .inr (5, [.int th, .int (nI bi), .int (nI ne), .int (nI li), .int (nI sp), .int (nI q), .ref ms, .ref mw, .ref mu, .ref mc, .ref mn, .int en, .int (nI sz), .ref mr, .int (nI wa), .ref mq, .int (nI (l0 + zz + 1)), .ref md, .int at0, .int lk])), (md, .inl (cB, 400, .inl (fil (fil dr 0 l0 zz) 1 (l0 + zz) 1)))] := hD
      refine lv_aload_n hx hb d_M_layNumber_48 rfl (lv_at hl 2 rfl) ?_
      refine lv_iload_n hx hb d_M_layNumber_49 rfl (lv_at hl 3 rfl) ?_
      refine lv_iload_n hx hb d_M_layNumber_50 rfl (lv_at hl 4 rfl) ?_
      have hPc := hP.sub (ws' := [(y, .inr (5, [.int th, .int (nI bi), .int (nI ne), .int (nI li), .int (nI sp), .int (nI q), .ref ms, .ref mw, .ref mu, .ref mc, .ref mn, .int en, .int (nI sz), .ref mr, .int (nI wa), .ref mq, .int (nI (l0 + zz + 1)), .ref md, .int at0, .int lk])), (md, .inl (cB, 400, .inl (fil (fil dr 0 l0 zz) 1 (l0 + zz) 1)))]) [0, 1] rfl
      have hDc := hD.sub (ws' := [(y, .inr (5, [.int th, .int (nI bi), .int (nI ne), .int (nI li), .int (nI sp), .int (nI q), .ref ms, .ref mw, .ref mu, .ref mc, .ref mn, .int en, .int (nI sz), .ref mr, .int (nI wa), .ref mq, .int (nI (l0 + zz + 1)), .ref md, .int at0, .int lk])), (md, .inl (cB, 400, .inl (fil (fil dr 0 l0 zz) 1 (l0 + zz) 1)))]) [0, 1] (by decide) rfl
      have hKc := hK.sub (tys' := [(cB, .byte)]) [0] rfl
      refine mcv (va_runV (As := [.int (nI N), .int (nI K)]) (rest := []) ⟨hx, hb, hml, hown, hg⟩ (c_M_layLow l D y ms mw mu mc mn mr mq md bi ne li sp q sz wa th en la at0 lk cB (fil (fil dr 0 l0 zz) 1 (l0 + zz) 1) (l0 + zz + 1) (nI N) K (by omega) (by omega)) (cwV 2 hg (gV gw_602 gw_604 gs_15 gw_7 gw_605) rfl rfl rfl (by decide +kernel) ⟨Nat.le_of_ble_eq_true rfl, Nat.le_of_ble_eq_true rfl⟩) ⟨fun a U g mk q => by obtain ⟨q0, qP, qK, qD⟩ := q; exact ⟨q0, qP, va_K.moved (u := U) (U := U.calling g mk a) (Vm.Alike.refl U.vm) qK, qD⟩, va_recv hKc hPc (ci := 5) (q0 := 0) rfl rfl, fun U hU hW => ⟨rfl, by rw [hU]; exact hPc, va_K.moved hW.alike hKc, hDc.weaken (fun _ _ _ _ => trivial)⟩⟩ rfl rfl hl.1 rfl (lv_room (Nat.le_of_ble_eq_true rfl)) d_M_layNumber_51 (⟨Nat.le_of_ble_eq_true rfl, Nat.le_of_ble_eq_true rfl⟩)) hS hP hD [0, 1] rfl rfl rfl (fun H locs hP hD hS => ?_)
      have hP : va_P D CLS [(y, .inr (5, [.int th, .int (nI bi), .int (nI ne), .int (nI li), .int (nI sp), .int (nI q), .ref ms, .ref mw, .ref mu, .ref mc, .ref mn, .int en, .int (nI sz), .ref mr, .int (nI wa), .ref mq, .int (nI (l0 + zz + 1 + K)), .ref md, .int at0, .int lk])), (md, .inl (cB, 400, .inl (flw (fil (fil dr 0 l0 zz) 1 (l0 + zz) 1) (nI N) K (l0 + zz + 1) K)))] H := hP
      have hD : va_D A [(y, .inr (5, [.int th, .int (nI bi), .int (nI ne), .int (nI li), .int (nI sp), .int (nI q), .ref ms, .ref mw, .ref mu, .ref mc, .ref mn, .int en, .int (nI sz), .ref mr, .int (nI wa), .ref mq, .int (nI (l0 + zz + 1 + K)), .ref md, .int at0, .int lk])), (md, .inl (cB, 400, .inl (flw (fil (fil dr 0 l0 zz) 1 (l0 + zz) 1) (nI N) K (l0 + zz + 1) K)))] := hD
      rw [hzz] at hP
      exact W.vret hx hb hr (fun t ht hW => ⟨rfl, by rw [ht]; exact (by rw [hln, show l0 + (N / 2 ^ K + 1 + K) = l0 + N / 2 ^ K + 1 + K by omega, show wnum dr q K N (mx - q - 1) l0 = flw (fil (fil dr 0 l0 (N / 2 ^ K)) 1 (l0 + N / 2 ^ K) 1) (nI N) K (l0 + N / 2 ^ K + 1) K from if_pos hzm]; exact hP), (hAe ▸ hS).F ht⟩) (hAe ▸ hS).2.2 d_M_layNumber_54
    have loop : ∀ (d k : Nat), k + d = zz → ∀ (H : Heap) (locs : List Loc), va_P D CLS [(y, .inr (5, [.int th, .int (nI bi), .int (nI ne), .int (nI li), .int (nI sp), .int (nI q), .ref ms, .ref mw, .ref mu, .ref mc, .ref mn, .int en, .int (nI sz), .ref mr, .int (nI wa), .ref mq, .int (nI (l0 + k)), .ref md, .int at0, .int lk])), (md, .inl (cB, 400, .inl (fil dr 0 l0 k)))] H → va_D A [(y, .inr (5, [.int th, .int (nI bi), .int (nI ne), .int (nI li), .int (nI sp), .int (nI q), .ref ms, .ref mw, .ref mu, .ref mc, .ref mn, .int en, .int (nI sz), .ref mr, .int (nI wa), .ref mq, .int (nI (l0 + k)), .ref md, .int at0, .int lk])), (md, .inl (cB, 400, .inl (fil dr 0 l0 k)))] → va_S A s.heap H locs → ∀ (ls : Array Slot), lv_has ls 7 [(6, .int (nI k)), (5, .int (nI (mx - q - 1))), (4, .int (nI (N / 2 ^ K))), (0, .ref y), (1, .int (nI N)), (2, .int (nI K)), (3, .int (nI mx))] → W p l e (headSpec (WSY y_M_layNumber b_M_layNumber 7 none) ({ frames := 2, cells := 0, slots := 0, locals := 44 })).room s m ([.ref y, .int (nI N), .int (nI K), .int (nI mx)] : List Value).toArray below meth c H locs 0 0 (MQ below (QM none [(y, .inr (5, [.int th, .int (nI bi), .int (nI ne), .int (nI li), .int (nI sp), .int (nI q), .ref ms, .ref mw, .ref mu, .ref mc, .ref mn, .int en, .int (nI sz), .ref mr, .int (nI wa), .ref mq, .int (nI l0), .ref md, .int at0, .int lk])), (md, .inl (cB, 400, .inl dr))] [(y, .inr (5, [.int th, .int (nI bi), .int (nI ne), .int (nI li), .int (nI sp), .int (nI q), .ref ms, .ref mw, .ref mu, .ref mc, .ref mn, .int en, .int (nI sz), .ref mr, .int (nI wa), .ref mq, .int (nI (l0 + nlen q K N (mx - q - 1))), .ref md, .int at0, .int lk])), (md, .inl (cB, 400, .inl (wnum dr q K N (mx - q - 1) l0)))] D) ([.ref y, .int (nI N), .int (nI K), .int (nI mx)] : List Value).toArray s 0 0 (ad [(y, .inr (5, [.int th, .int (nI bi), .int (nI ne), .int (nI li), .int (nI sp), .int (nI q), .ref ms, .ref mw, .ref mu, .ref mc, .ref mn, .int en, .int (nI sz), .ref mr, .int (nI wa), .ref mq, .int (nI l0), .ref md, .int at0, .int lk])), (md, .inl (cB, 400, .inl dr))])) (F0 m 25 ls []) := by
      intro d
      induction d with
      | zero =>
        intro k hk H locs hP hD hS ls hl
        obtain rfl : k = zz := by omega
        refine lv_iload hx hb d_M_layNumber_25 (lv_at hl 0 rfl) ?_
        refine lv_iload hx hb d_M_layNumber_27 (lv_at hl 2 rfl) ?_
        refine lv_icmp_ge (tgt := 43) hx hb d_M_layNumber_29 (by decide) (fun c_4 => ?_) (fun c_4 => ?_)
        · skip
          exact tail H locs hP hD hS ls (lv_sub hl [1, 2, 3, 4, 5, 6] rfl)
        · skip
          exact absurd (nI_le (by omega) (by omega)) c_4
      | succ d ih =>
        intro k hk H locs hP hD hS ls hl
        refine lv_iload hx hb d_M_layNumber_25 (lv_at hl 0 rfl) ?_
        refine lv_iload hx hb d_M_layNumber_27 (lv_at hl 2 rfl) ?_
        refine lv_icmp_ge (tgt := 43) hx hb d_M_layNumber_29 (by decide) (fun c_5 => ?_) (fun c_5 => ?_)
        · skip
          exact absurd ((nI_leI (by omega) (by omega)).mp c_5) (by omega)
        · skip
          refine lv_aload_n hx hb d_M_layNumber_32 rfl (lv_at hl 3 rfl) ?_
          refine lv_iconst (v := 0) hx hb d_M_layNumber_33 (by decide) ?_
          have hPc := hP.sub (ws' := [(y, .inr (5, [.int th, .int (nI bi), .int (nI ne), .int (nI li), .int (nI sp), .int (nI q), .ref ms, .ref mw, .ref mu, .ref mc, .ref mn, .int en, .int (nI sz), .ref mr, .int (nI wa), .ref mq, .int (nI (l0 + k)), .ref md, .int at0, .int lk])), (md, .inl (cB, 400, .inl (fil dr 0 l0 k)))]) [0, 1] rfl
          have hDc := hD.sub (ws' := [(y, .inr (5, [.int th, .int (nI bi), .int (nI ne), .int (nI li), .int (nI sp), .int (nI q), .ref ms, .ref mw, .ref mu, .ref mc, .ref mn, .int en, .int (nI sz), .ref mr, .int (nI wa), .ref mq, .int (nI (l0 + k)), .ref md, .int at0, .int lk])), (md, .inl (cB, 400, .inl (fil dr 0 l0 k)))]) [0, 1] (by decide) rfl
          have hKc := hK.sub (tys' := [(cB, .byte)]) [0] rfl
          refine mcv (va_runV (As := [.int 0]) (rest := []) ⟨hx, hb, hml, hown, hg⟩ (c_M_lay l D y ms mw mu mc mn mr mq md bi ne li sp q sz wa th en la at0 lk cB (fil dr 0 l0 k) (l0 + k) 0 (Or.inl rfl) (by omega)) (cwV 1 hg (gV gw_598 gw_600 gs_14 gw_7 gw_601) rfl rfl rfl (by decide +kernel) ⟨Nat.le_of_ble_eq_true rfl, Nat.le_of_ble_eq_true rfl⟩) ⟨fun a U g mk q => by obtain ⟨q0, qP, qK, qD⟩ := q; exact ⟨q0, qP, va_K.moved (u := U) (U := U.calling g mk a) (Vm.Alike.refl U.vm) qK, qD⟩, va_recv hKc hPc (ci := 5) (q0 := 0) rfl rfl, fun U hU hW => ⟨rfl, by rw [hU]; exact hPc, va_K.moved hW.alike hKc, hDc.weaken (fun _ _ _ _ => trivial)⟩⟩ rfl rfl hl.1 rfl (lv_room (Nat.le_of_ble_eq_true rfl)) d_M_layNumber_34 (⟨Nat.le_of_ble_eq_true rfl, Nat.le_of_ble_eq_true rfl⟩)) hS hP hD [0, 1] rfl rfl rfl (fun H locs hP hD hS => ?_)
          have hP : va_P D CLS [(y, .inr (5, [.int th, .int (nI bi), .int (nI ne), .int (nI li), .int (nI sp), .int (nI q), .ref ms, .ref mw, .ref mu, .ref mc, .ref mn, .int en, .int (nI sz), .ref mr, .int (nI wa), .ref mq, .int (nI (l0 + (k + 1))), .ref md, .int at0, .int lk])), (md, .inl (cB, 400, .inl (fil dr 0 l0 (k + 1))))] H := hP
          have hD : va_D A [(y, .inr (5, [.int th, .int (nI bi), .int (nI ne), .int (nI li), .int (nI sp), .int (nI q), .ref ms, .ref mw, .ref mu, .ref mc, .ref mn, .int en, .int (nI sz), .ref mr, .int (nI wa), .ref mq, .int (nI (l0 + (k + 1))), .ref md, .int at0, .int lk])), (md, .inl (cB, 400, .inl (fil dr 0 l0 (k + 1))))] := hD
          refine lv_iinc (v := nI (k + 1)) (lv' := [(6, .int (nI (k + 1))), (5, .int (nI (mx - q - 1))), (4, .int (nI (N / 2 ^ K))), (0, .ref y), (1, .int (nI N)), (2, .int (nI K)), (3, .int (nI mx))]) hx hb d_M_layNumber_37 hl (k := 0) rfl (nI_1 k) (by decide) rfl (fun ls hl => ?_)
          refine lv_goto (tgt := 25) hx hb d_M_layNumber_40 (by decide) ?_
          exact ih (k + 1) (by omega) H locs hP hD hS ls (lv_sub hl [0, 1, 2, 3, 4, 5, 6] rfl)
    exact loop zz 0 (by omega) s.heap [] hP hD hS ls hl
