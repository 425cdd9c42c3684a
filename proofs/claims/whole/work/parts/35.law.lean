/-! one form for all public methods; the law's methods that try one -/
abbrev PM (D : va_G) (W : va_W) (tys : List (ClassId × FieldType)) : State → Prop := fun U => va_P D CLS W U.heap ∧ va_K D CLS tys U ∧ va_D (fun _ => True) W
abbrev PE (D : va_G) (tw : Nat) (W : va_W) (tys : List (ClassId × FieldType)) : State → Prop := fun U => va_P D CLS W U.heap ∧ va_K D CLS tys U ∧ va_D (fun _ => True) W ∧ EV (ad W) tw U
abbrev PT (D : va_G) (tw : Nat) (sa : Nat → Nat) (W : va_W) (tys : List (ClassId × FieldType)) : State → Prop := fun U => va_P D CLS W U.heap ∧ va_K D CLS tys U ∧ EV (fun _ => False) tw U ∧ EX (fun _ => False) sa U
theorem EV.narrow {A B : Nat → Prop} {tw : Nat} {U : State} (h : EV A tw U) (hB : ∀ q, B q → A q) : EV B tw U := ⟨h.1, h.2.1.narrow hB, h.2.2.narrow hB⟩
theorem sbm {α : Type} {is : List Nat} {ws : List α} {w0 : List α} (hC : is.map (fun i => ws[i]?) = w0.map some) : is.filterMap (fun i => ws[i]?) = w0 := by
  have h1 : is.filterMap (fun i => ws[i]?) = (is.map (fun i => ws[i]?)).filterMap id := by rw [List.filterMap_map]; rfl
  rw [h1, hC, List.filterMap_map]
  exact List.filterMap_some
section FRM
variable {l : Launch} {y : MethodName} {ws : List Cond} {rm : Room} {As : List Value} {D : va_G} {v : Option Value} {w0 w1 W : va_W} {tys ty0 : List (ClassId × FieldType)} {tw : Nat}
theorem fr0 {P0 P : State → Prop} (hM : Met l y ws rm (va_Pc As P0) (QM v w0 w1 D) 0 0 (ad w0)) (hp : ∀ U, P U → P0 U ∧ va_P D CLS W U.heap ∧ va_D (fun _ => True) W) (is : List Nat) (hC : is.map (fun i => W[i]?) = w0.map some) (hl : is.length = w1.length) (hadr : (rep W is w1).map (·.1) = W.map (·.1)) : Met l y ws rm (va_Pc As P) (QM v W (rep W is w1) D) 0 0 (ad W) := by
  refine Jvm.Free.MetFree.mono hM (fun a U h => ⟨h.1, (hp U h.2).1⟩) (fun _ _ _ _ _ h => h) (fun a s o t h hq => ?_)
  obtain ⟨-, hP, hD⟩ := hp s h.2
  obtain ⟨⟨ho, h1, hz, hk⟩, L, hFE, hL⟩ := hq
  have hsub := ad_sub (va_D_ad hD) is hC
  exact ⟨⟨ho, (jn hP hD is hC hl hadr h1 hk).1, hz, fun q g1 g2 => hk q g1 (fun z => g2 (hsub q z))⟩, L, hFE, fun q hq => hsub _ (hL q hq)⟩
theorem frM (hM : Met l y ws rm (va_Pc As (PM D w0 ty0)) (QM v w0 w1 D) 0 0 (ad w0)) (is js : List Nat) (hC : is.map (fun i => W[i]?) = w0.map some) (hT : js.filterMap (fun i => tys[i]?) = ty0) (hn : va_nd is = true) (hl : is.length = w1.length) (hadr : (rep W is w1).map (·.1) = W.map (·.1)) : Met l y ws rm (va_Pc As (PM D W tys)) (QM v W (rep W is w1) D) 0 0 (ad W) :=
  fr0 hM (fun U h => ⟨⟨h.1.sub is (sbm hC), h.2.1.sub js hT, h.2.2.sub is hn hC⟩, h.1, h.2.2⟩) is hC hl hadr
theorem frC (hM : Met l y ws rm (va_Pc As (PM D w0 ty0)) (QM v w0 w1 D) 0 0 (ad w0)) (is js : List Nat) (hC : is.map (fun i => W[i]?) = w0.map some) (hT : js.filterMap (fun i => tys[i]?) = ty0) (hn : va_nd is = true) (hl : is.length = w1.length) (hadr : (rep W is w1).map (·.1) = W.map (·.1)) : Met l y ws rm (va_Pc As (PE D tw W tys)) (QM v W (rep W is w1) D) 0 0 (ad W) :=
  fr0 hM (fun U h => ⟨⟨h.1.sub is (sbm hC), h.2.1.sub js hT, h.2.2.1.sub is hn hC⟩, h.1, h.2.2.1⟩) is hC hl hadr
theorem frE (hM : Met l y ws rm (va_Pc As (PE D tw w0 ty0)) (QM v w0 w1 D) 0 0 (ad w0)) (is js : List Nat) (hC : is.map (fun i => W[i]?) = w0.map some) (hT : js.filterMap (fun i => tys[i]?) = ty0) (hn : va_nd is = true) (hl : is.length = w1.length) (hadr : (rep W is w1).map (·.1) = W.map (·.1)) : Met l y ws rm (va_Pc As (PE D tw W tys)) (QM v W (rep W is w1) D) 0 0 (ad W) :=
  fr0 hM (fun U h => ⟨⟨h.1.sub is (sbm hC), h.2.1.sub js hT, h.2.2.1.sub is hn hC, h.2.2.2.narrow (ad_sub (va_D_ad h.2.2.1) is hC)⟩, h.1, h.2.2.1⟩) is hC hl hadr
theorem frQ0 {P0 P : State → Prop} (hM : Met l y ws rm (va_Pc As P0) (QR v) 0 0 (fun _ => False)) (hp : ∀ U, P U → P0 U ∧ va_P D CLS W U.heap) : Met l y ws rm (va_Pc As P) (QM v W W D) 0 0 (ad W) := by
  refine Jvm.Free.MetFree.mono hM (fun a U h => ⟨h.1, (hp U h.2).1⟩) (fun _ _ _ _ _ h => h) (fun a s o t h hq => ?_)
  obtain ⟨-, hP⟩ := hp s h.2
  obtain ⟨⟨ho, h1⟩, L, hFE, hL⟩ := hq
  exact ⟨⟨ho, by rw [h1]; exact hP, by rw [h1]; exact Nat.le_refl _, fun q _ _ => by rw [h1]⟩, L, hFE, fun q hq => (hL q hq).elim⟩
theorem frQ (hM : Met l y ws rm (va_Pc As (fun U => va_P D CLS w0 U.heap ∧ va_K D CLS ty0 U)) (QR v) 0 0 (fun _ => False)) (is js : List Nat) (hC : is.filterMap (fun i => W[i]?) = w0) (hT : js.filterMap (fun i => tys[i]?) = ty0) : Met l y ws rm (va_Pc As (PE D tw W tys)) (QM v W W D) 0 0 (ad W) :=
  frQ0 hM (fun U h => ⟨⟨h.1.sub is hC, h.2.1.sub js hT⟩, h.1⟩)
theorem frQE (hM : Met l y ws rm (va_Pc As (fun U => va_P D CLS w0 U.heap ∧ va_K D CLS ty0 U ∧ EV (fun _ => False) tw U)) (QR v) 0 0 (fun _ => False)) (is js : List Nat) (hC : is.filterMap (fun i => W[i]?) = w0) (hT : js.filterMap (fun i => tys[i]?) = ty0) : Met l y ws rm (va_Pc As (PE D tw W tys)) (QM v W W D) 0 0 (ad W) :=
  frQ0 hM (fun U h => ⟨⟨h.1.sub is hC, h.2.1.sub js hT, h.2.2.2.narrow (fun _ z => z.elim)⟩, h.1⟩)
theorem frX {sa : Nat → Nat} {Qc : Array Value → State → Outcome → State → Prop} {XC : String → State → State → Prop} {mc ms : Nat} {free : Addr → Prop} (hM : vx_Met l y ws rm (va_Pc As (PT D tw sa w0 ty0)) Qc XC mc ms free) (is js : List Nat) (hC : is.filterMap (fun i => W[i]?) = w0) (hT : js.filterMap (fun i => tys[i]?) = ty0) : vx_Met l y ws rm (va_Pc As (PT D tw sa W tys)) Qc XC mc ms free :=
  Jvm.Free.MetFree.mono hM (fun a U h => ⟨h.1, h.2.1.sub is hC, h.2.2.1.sub js hT, h.2.2.2⟩) (fun _ _ _ _ _ h => h) (fun a s o t _ hq => hq)
end FRM
/-- what the catching asks -/
def EC (U : State) : Prop := va_Nw (.castable "java/lang/IllegalArgumentException" "java/lang/IllegalArgumentException") U ∧ va_Nw (.castable "java/lang/UnsupportedOperationException" "java/lang/UnsupportedOperationException") U ∧ va_Nw (.castable "java/lang/IndexOutOfBoundsException" "java/lang/IndexOutOfBoundsException") U ∧ va_Nc "java/lang/UnsupportedOperationException" "java/lang/IllegalArgumentException" U ∧ va_Nc "java/lang/IllegalArgumentException" "java/lang/IndexOutOfBoundsException" U ∧ va_Nc "java/lang/UnsupportedOperationException" "java/lang/IndexOutOfBoundsException" U
theorem castw {C : String} {s U : State} (hW : s.WarmedH U.vm) (h : va_Nw (.castable C C) s) : va_Nw (.castable C C) U := va_tabs rfl (rfl : (s.setVm U.vm).vm = U.vm) (Cond.before_shiftedCast (State.Shifted.of_warmed hW) _ rfl h)
theorem EC.warm {s U : State} (hW : s.WarmedH U.vm) (h : EC s) : EC U := ⟨castw hW h.1, castw hW h.2.1, castw hW h.2.2.1, h.2.2.2.1.moved hW.alike, h.2.2.2.2.1.moved hW.alike, h.2.2.2.2.2.moved hW.alike⟩
theorem EC.blind {U : State} {g : JFrame} {mk : MethodId} {a : Array Value} (h : EC U) : EC (U.calling g mk a) := h.warm (U := U.calling g mk a) (State.WarmedH.refl U)
abbrev PL (D : va_G) (tw : Nat) (sa : Nat → Nat) (W : va_W) (tys : List (ClassId × FieldType)) : State → Prop := fun U => va_P D CLS W U.heap ∧ va_K D CLS tys U ∧ va_D (fun _ => True) W ∧ EV (ad W) tw U ∧ EX (ad W) sa U ∧ EC U
theorem tlP {D : va_G} {o : Nat × va_E} {w : va_W} {H : Heap} (h : va_P D CLS (o :: w) H) : va_P D CLS w H := fun k q hk => h (k + 1) q hk
theorem tlD {A : Nat → Prop} {o : Nat × va_E} {w : va_W} (h : va_D A (o :: w)) : va_D A w := ⟨fun i j p q hi hj e => by have := h.1 (i + 1) (j + 1) p q hi hj e; omega, fun k q hk => h.2 (k + 1) q hk⟩
theorem tlK {D : va_G} {t : ClassId × FieldType} {tys : List (ClassId × FieldType)} {U : State} (h : va_K D CLS (t :: tys) U) : va_K D CLS tys U := ⟨h.1, fun k q hk => h.2 (k + 1) q hk⟩
theorem adD {A : Nat → Prop} {w : va_W} (h : va_D A w) : ∀ q, ad w q → A q := fun q hm => by
  obtain ⟨z, hz, hzq⟩ := List.mem_map.mp hm
  obtain ⟨j, hj⟩ := List.getElem?_of_mem hz
  rw [← hzq]; exact h.2 j z hj
theorem headN {A : Nat → Prop} {o : Nat × va_E} {w : va_W} (h : va_D A (o :: w)) : ¬ ad w o.1 := fun hm => by
  obtain ⟨z, hz, hzq⟩ := List.mem_map.mp hm
  obtain ⟨j, hj⟩ := List.getElem?_of_mem hz
  have := h.1 0 (j + 1) o z rfl hj hzq.symm
  omega
section TRY
variable {p : Program} {l : Launch} {e : Env} {R : Room} {s : State} {m : MethodId} {args : Array Value} {below : List Frame} {meth : Method} {c : Code} {H : Heap} {locs : List Loc} {cells slots : Nat} {Q : State → Prop}
variable {pc : Nat} {ls : Array Slot} {rest st0 : List Value} {a : Array Value} {D : va_G} {A : Nat → Prop} {H0 : Heap}
/-- a call on the tail of the world -/
theorem mti {r : Int32} {o : Nat × va_E} {w0 w1 : va_W} (hr : va_Run p l e R s m args below meth c H locs cells slots 0 0 (F0 m pc ls st0) rest (QM (some (.int r)) w0 w1 D a) (ad w0)) (hS : va_S A H0 H locs) (hP : va_P D CLS (o :: w0) H) (hD : va_D A (o :: w0)) (hadr : w1.map (·.1) = w0.map (·.1))
    (kk : ∀ (H1 : Heap) (locs1 : List Loc), va_P D CLS (o :: w1) H1 → va_D A (o :: w1) → va_S A H0 H1 locs1 → W p l e R s m args below meth c H1 locs1 cells slots Q (F0 m (pc + 3) ls (.int r :: rest))) : W p l e R s m args below meth c H locs cells slots Q (F0 m pc ls st0) := by
  intro T hT X
  obtain ⟨v', st₀, t, T', L, h0, X', hL, e1, e2, ⟨hv, h1, hF⟩, st⟩ := hr T hT X
  cases hv
  have hA := adD (tlD hD)
  obtain ⟨k1, k2, k3⟩ := vx_keep h0 e1 hS (fun q _ h => hA q h) hA hL hF
  have j1 : va_P D CLS (o :: w1) T'.heap := by
    intro k q hk
    cases k with
    | zero =>
      cases hk
      exact (hP 0 o rfl).kept (k2 o.1 (hP 0 o rfl).lt (headN hD))
    | succ k => rw [e1]; exact h1 k q hk
  have j2 : va_D A (o :: w1) := va_D_addr hD (by rw [List.map_cons, List.map_cons, hadr])
  obtain ⟨t2, a1, b1⟩ := kk T'.heap (locs ++ L) j1 j2 k3 T' rfl X'
  exact ⟨t2, st t2 a1, b1⟩
end TRY
set_option maxHeartbeats 4000000 in
set_option maxRecDepth 100000 in
theorem k_code (l : Launch) (D : va_G) (tw : Nat) (sa : Nat → Nat) (x oo : Nat) (fs : List Value) (T0 : va_W) (tys : List (ClassId × FieldType)) (cL : ClassId) (fo : Nat → Int64) (p0 p1 : Int32) (W1 : va_W) (F Lc : Nat) (r : Int32) (hF : F ≤ 7) (hLc : Lc ≤ 120) (hadr : W1.map (·.1) = ((x, .inr (4, fs)) :: T0).map (·.1)) (hM : Met l y_X_code (WSY y_X_code b_X_code 5 (some .int)) ({ frames := F, cells := 0, slots := 0, locals := Lc }) (va_Pc [.ref x, .int p0, .int p1] (PE D tw ((x, .inr (4, fs)) :: T0) tys)) (QM (some (.int r)) ((x, .inr (4, fs)) :: T0) W1 D) 0 0 (ad ((x, .inr (4, fs)) :: T0))) : Met l y_L_code (WSH y_L_code b_L_code 5 (some .int) [(0, 10, 13, 13), (0, 10, 17, 15)]) ({ frames := 8, cells := 1, slots := 6, locals := 160 }) (va_Pc [.ref x, .int p0, .int p1, .ref oo] (PL D tw sa ((oo, .inl (cL, 1, .inr (.inl fo))) :: (x, .inr (4, fs)) :: T0) ((cL, .long) :: tys))) (QM (some (.int 0)) ((oo, .inl (cL, 1, .inr (.inl fo))) :: (x, .inr (4, fs)) :: T0) ((oo, .inl (cL, 1, .inr (.inl (vp_updL fo 0 r.toInt64)))) :: W1) D) 1 6 (ad ((oo, .inl (cL, 1, .inr (.inl fo))) :: (x, .inr (4, fs)) :: T0)) := by
  refine va_MetW (cc := b_L_code) (maxL := 5) (ret := (some .int)) (hh := [(0, 10, 13, 13), (0, 10, 17, 15)]) (by decide) rfl ?_
  intro p e s m args below meth c s₁ B hml hv
  obtain ⟨rfl, hP, hK, hD0, hE, hEX, hEC⟩ := hv
  have hx := B.exec
  have hb := B.bytes
  have hr := B.returns
  have hts := atoms_spec (ws := (WSH y_L_code b_L_code 5 (some .int) [(0, 10, 13, 13), (0, 10, 17, 15)])) B.pre
  have hg : ∀ w ∈ GW, w.before _ s = true := fun w h => hts w (List.mem_cons_of_mem _ h)
  have hown : s.vm.findClass "LineGolombLaw" = some m.cls := findClass_of_methodNamed B.named
  have hlocks := B.notSynchronized
  obtain ⟨A, hAe⟩ : ∃ A, A = ad ((oo, .inl (cL, 1, .inr (.inl fo))) :: (x, .inr (4, fs)) :: T0) := ⟨_, rfl⟩
  have hD : va_D A ((oo, .inl (cL, 1, .inr (.inl fo))) :: (x, .inr (4, fs)) :: T0) := by rw [hAe]; exact va_D_ad hD0
  rw [← hAe] at hE hEX
  have hS : va_S A s.heap s.heap [] := va_S.rf
  have hl := lv_entry ([.ref x, .int p0, .int p1, .ref oo]) (n := 5) (Nat.le_of_ble_eq_true rfl)
  rw [lg_entry_eq]
  generalize (lg_sl ([.ref x, .int p0, .int p1, .ref oo]) ++ List.replicate (5 - (lg_sl ([.ref x, .int p0, .int p1, .ref oo])).length) Slot.unset).toArray = ls at hl ⊢
  have hl : lv_has ls 5 [(0, .ref x), (1, .int p0), (2, .int p1), (3, .ref oo)] := hl
  refine lv_aload_n hx hb d_L_code_0 rfl (lv_at hl 3 rfl) ?_
  refine lv_iconst (v := 0) hx hb d_L_code_1 (by decide) ?_
  refine lv_aload_n hx hb d_L_code_2 rfl (lv_at hl 0 rfl) ?_
  refine lv_iload_n hx hb d_L_code_3 rfl (lv_at hl 1 rfl) ?_
  refine lv_iload_n hx hb d_L_code_4 rfl (lv_at hl 2 rfl) ?_
  have hPc := tlP hP
  have hKc := tlK hK
  have hDc := tlD hD
  refine mti (va_runV (As := [.int p0, .int p1]) (rest := [.int 0, .ref oo]) ⟨hx, hb, hml, hown, hg⟩ hM (cwV 2 hg (gV gw_197 gw_198 gw_199 gw_1 gw_200) rfl rfl rfl (by decide +kernel) ⟨by show F + 1 ≤ 8; omega, by show 8 + (5 + 11) + Lc ≤ 160; omega⟩) ⟨fun a U g mk q => by obtain ⟨q0, qP, qK, qD, qX⟩ := q; exact ⟨q0, qP, va_K.moved (u := U) (U := U.calling g mk a) (Vm.Alike.refl U.vm) qK, qD, qX.blind⟩, va_recv hKc hPc (ci := 4) (q0 := 0) rfl rfl, fun U hU hW => ⟨rfl, by rw [hU]; exact hPc, va_K.moved hW.alike hKc, hDc.weaken (fun _ _ _ _ => trivial), hE.call hS (adD hDc) hU hW⟩⟩ rfl rfl hl.1 rfl (lv_room (Nat.le_of_ble_eq_true rfl)) d_L_code_5 ⟨Nat.zero_le _, Nat.zero_le _⟩) hS hP hD hadr (fun H locs hP hD hS => ?_)
  refine lv_i2l (v := r.toInt64) hx hb d_L_code_8 (rfl) ?_
  refine va_last (x := r.toInt64) hx hb hK hP hD hS 0 0 rfl rfl (vp_in_nI (n := 0) (by decide) (by decide)) d_L_code_9 (fun H locs hP hD hS => ?_)
  refine lv_goto (tgt := 21) hx hb d_L_code_10 (by decide) ?_
  refine lv_iconst (v := 0) hx hb d_L_code_21 (by decide) ?_
  refine W.widen (k := 1) (n := 6) (by omega) (by omega) ?_
  exact W.iret (v := 0) hx hb hr (fun t ht hW => ⟨rfl, by rw [ht]; exact hP, (hAe ▸ hS).F ht⟩) (hAe ▸ hS).2.2 d_L_code_22
set_option maxHeartbeats 4000000 in
set_option maxRecDepth 100000 in
theorem kx_code_A (l : Launch) (D : va_G) (tw : Nat) (sa : Nat → Nat) (x oo : Nat) (fs : List Value) (T0 : va_W) (tys : List (ClassId × FieldType)) (cL : ClassId) (fo : Nat → Int64) (p0 p1 : Int32) (hM : vx_Met l y_X_code (WSY y_X_code b_X_code 5 (some .int)) ({ frames := 6, cells := 1, slots := 6, locals := 110 }) (va_Pc [.ref x, .int p0, .int p1] (PT D tw sa ((x, .inr (4, fs)) :: T0) tys)) QT (XT "java/lang/IllegalArgumentException") 1 6 (fun _ => False)) : Met l y_L_code (WSH y_L_code b_L_code 5 (some .int) [(0, 10, 13, 13), (0, 10, 17, 15)]) ({ frames := 8, cells := 1, slots := 6, locals := 160 }) (va_Pc [.ref x, .int p0, .int p1, .ref oo] (PL D tw sa ((oo, .inl (cL, 1, .inr (.inl fo))) :: (x, .inr (4, fs)) :: T0) ((cL, .long) :: tys))) (QM (some (.int 1)) ((oo, .inl (cL, 1, .inr (.inl fo))) :: (x, .inr (4, fs)) :: T0) ((oo, .inl (cL, 1, .inr (.inl fo))) :: (x, .inr (4, fs)) :: T0) D) 1 6 (ad ((oo, .inl (cL, 1, .inr (.inl fo))) :: (x, .inr (4, fs)) :: T0)) := by
  refine va_MetW (cc := b_L_code) (maxL := 5) (ret := (some .int)) (hh := [(0, 10, 13, 13), (0, 10, 17, 15)]) (by decide) rfl ?_
  intro p e s m args below meth c s₁ B hml hv
  obtain ⟨rfl, hP, hK, hD0, hE, hEX, hEC⟩ := hv
  have hx := B.exec
  have hb := B.bytes
  have hr := B.returns
  have hts := atoms_spec (ws := (WSH y_L_code b_L_code 5 (some .int) [(0, 10, 13, 13), (0, 10, 17, 15)])) B.pre
  have hg : ∀ w ∈ GW, w.before _ s = true := fun w h => hts w (List.mem_cons_of_mem _ h)
  have hown : s.vm.findClass "LineGolombLaw" = some m.cls := findClass_of_methodNamed B.named
  have hlocks := B.notSynchronized
  obtain ⟨A, hAe⟩ : ∃ A, A = ad ((oo, .inl (cL, 1, .inr (.inl fo))) :: (x, .inr (4, fs)) :: T0) := ⟨_, rfl⟩
  have hD : va_D A ((oo, .inl (cL, 1, .inr (.inl fo))) :: (x, .inr (4, fs)) :: T0) := by rw [hAe]; exact va_D_ad hD0
  rw [← hAe] at hE hEX
  have hS : va_S A s.heap s.heap [] := va_S.rf
  have hl := lv_entry ([.ref x, .int p0, .int p1, .ref oo]) (n := 5) (Nat.le_of_ble_eq_true rfl)
  rw [lg_entry_eq]
  generalize (lg_sl ([.ref x, .int p0, .int p1, .ref oo]) ++ List.replicate (5 - (lg_sl ([.ref x, .int p0, .int p1, .ref oo])).length) Slot.unset).toArray = ls at hl ⊢
  have hl : lv_has ls 5 [(0, .ref x), (1, .int p0), (2, .int p1), (3, .ref oo)] := hl
  refine lv_aload_n hx hb d_L_code_0 rfl (lv_at hl 3 rfl) ?_
  refine lv_iconst (v := 0) hx hb d_L_code_1 (by decide) ?_
  refine lv_aload_n hx hb d_L_code_2 rfl (lv_at hl 0 rfl) ?_
  refine lv_iload_n hx hb d_L_code_3 rfl (lv_at hl 1 rfl) ?_
  refine lv_iload_n hx hb d_L_code_4 rfl (lv_at hl 2 rfl) ?_
  have htb : c.exceptionTable.toList = tableOf [(0, 10, 13, 13), (0, 10, 17, 15)] := vx_table (x := y_L_code) B (hts _ List.mem_cons_self)
  have hPc := tlP hP
  have hKc := tlK hK
  refine vx_calli (vx_runV (As := [.int p0, .int p1]) (rest := [.int 0, .ref oo]) ⟨hx, hb, hml, hown, hg⟩ hM (cwV 2 hg (gV gw_197 gw_198 gw_199 gw_1 gw_200) rfl rfl rfl (by decide +kernel) ⟨by decide, by decide⟩) ⟨fun a U g mk q => by obtain ⟨q0, qP, qK, qX, qY⟩ := q; exact ⟨q0, qP, va_K.moved (u := U) (U := U.calling g mk a) (Vm.Alike.refl U.vm) qK, qX.blind, qY.blind⟩, va_recv hKc hPc (ci := 4) (q0 := 0) rfl rfl, fun U hU hW => ⟨rfl, by rw [hU]; exact hPc, va_K.moved hW.alike hKc, hE.call hS (fun _ z => z.elim) hU hW, hEX.call hS (fun _ z => z.elim) hU hW⟩⟩ rfl rfl hl.1 rfl (lv_room (Nat.le_of_ble_eq_true rfl)) d_L_code_5 ⟨Nat.le_of_ble_eq_true rfl, Nat.le_of_ble_eq_true rfl⟩) hS (fun _ _ z => z.elim) (fun _ z => z.elim) (fun _ _ z => z.elim) (fun E ce q9 u t H1 locs1 ht hvm _ hE0 hz hk hS hcell hv hcl => ?_) (fun _ _ _ _ _ _ _ z => z.elim)
  subst hE0
  have hP1 : va_P D CLS ((oo, .inl (cL, 1, .inr (.inl fo))) :: (x, .inr (4, fs)) :: T0) H1 := fun k q h => (hP k q h).kept (hk q.1 (hP k q h).lt (fun z => z))
  refine vx_catch (pc := 5) hown [] (⟨0, 10, 13, 13⟩ : ExceptionTableEntry) [(⟨0, 10, 17, 15⟩ : ExceptionTableEntry)] htb (fun z hz => by cases hz) (by decide) (by decide) (hg _ gw_195) (va_Nw.use rfl hEC.1) hcell hv hcl ?_
  refine lv_astore (lv' := [(4, .ref q9), (0, .ref x), (1, .int p0), (2, .int p1), (3, .ref oo)]) hx hb d_L_code_13 hl (by decide) rfl (fun ls hl => ?_)
  refine lv_iconst (v := 1) hx hb d_L_code_15 (by decide) ?_
  exact W.iret (v := 1) hx hb hr (fun t ht hW => ⟨rfl, by rw [ht]; exact hP1, (hAe ▸ hS).F ht⟩) (hAe ▸ hS).2.2 d_L_code_16
set_option maxHeartbeats 4000000 in
set_option maxRecDepth 100000 in
theorem kx_code_U (l : Launch) (D : va_G) (tw : Nat) (sa : Nat → Nat) (x oo : Nat) (fs : List Value) (T0 : va_W) (tys : List (ClassId × FieldType)) (cL : ClassId) (fo : Nat → Int64) (p0 p1 : Int32) (hM : vx_Met l y_X_code (WSY y_X_code b_X_code 5 (some .int)) ({ frames := 6, cells := 1, slots := 6, locals := 110 }) (va_Pc [.ref x, .int p0, .int p1] (PT D tw sa ((x, .inr (4, fs)) :: T0) tys)) QT (XT "java/lang/UnsupportedOperationException") 1 6 (fun _ => False)) : Met l y_L_code (WSH y_L_code b_L_code 5 (some .int) [(0, 10, 13, 13), (0, 10, 17, 15)]) ({ frames := 8, cells := 1, slots := 6, locals := 160 }) (va_Pc [.ref x, .int p0, .int p1, .ref oo] (PL D tw sa ((oo, .inl (cL, 1, .inr (.inl fo))) :: (x, .inr (4, fs)) :: T0) ((cL, .long) :: tys))) (QM (some (.int 2)) ((oo, .inl (cL, 1, .inr (.inl fo))) :: (x, .inr (4, fs)) :: T0) ((oo, .inl (cL, 1, .inr (.inl fo))) :: (x, .inr (4, fs)) :: T0) D) 1 6 (ad ((oo, .inl (cL, 1, .inr (.inl fo))) :: (x, .inr (4, fs)) :: T0)) := by
  refine va_MetW (cc := b_L_code) (maxL := 5) (ret := (some .int)) (hh := [(0, 10, 13, 13), (0, 10, 17, 15)]) (by decide) rfl ?_
  intro p e s m args below meth c s₁ B hml hv
  obtain ⟨rfl, hP, hK, hD0, hE, hEX, hEC⟩ := hv
  have hx := B.exec
  have hb := B.bytes
  have hr := B.returns
  have hts := atoms_spec (ws := (WSH y_L_code b_L_code 5 (some .int) [(0, 10, 13, 13), (0, 10, 17, 15)])) B.pre
  have hg : ∀ w ∈ GW, w.before _ s = true := fun w h => hts w (List.mem_cons_of_mem _ h)
  have hown : s.vm.findClass "LineGolombLaw" = some m.cls := findClass_of_methodNamed B.named
  have hlocks := B.notSynchronized
  obtain ⟨A, hAe⟩ : ∃ A, A = ad ((oo, .inl (cL, 1, .inr (.inl fo))) :: (x, .inr (4, fs)) :: T0) := ⟨_, rfl⟩
  have hD : va_D A ((oo, .inl (cL, 1, .inr (.inl fo))) :: (x, .inr (4, fs)) :: T0) := by rw [hAe]; exact va_D_ad hD0
  rw [← hAe] at hE hEX
  have hS : va_S A s.heap s.heap [] := va_S.rf
  have hl := lv_entry ([.ref x, .int p0, .int p1, .ref oo]) (n := 5) (Nat.le_of_ble_eq_true rfl)
  rw [lg_entry_eq]
  generalize (lg_sl ([.ref x, .int p0, .int p1, .ref oo]) ++ List.replicate (5 - (lg_sl ([.ref x, .int p0, .int p1, .ref oo])).length) Slot.unset).toArray = ls at hl ⊢
  have hl : lv_has ls 5 [(0, .ref x), (1, .int p0), (2, .int p1), (3, .ref oo)] := hl
  refine lv_aload_n hx hb d_L_code_0 rfl (lv_at hl 3 rfl) ?_
  refine lv_iconst (v := 0) hx hb d_L_code_1 (by decide) ?_
  refine lv_aload_n hx hb d_L_code_2 rfl (lv_at hl 0 rfl) ?_
  refine lv_iload_n hx hb d_L_code_3 rfl (lv_at hl 1 rfl) ?_
  refine lv_iload_n hx hb d_L_code_4 rfl (lv_at hl 2 rfl) ?_
  have htb : c.exceptionTable.toList = tableOf [(0, 10, 13, 13), (0, 10, 17, 15)] := vx_table (x := y_L_code) B (hts _ List.mem_cons_self)
  have hPc := tlP hP
  have hKc := tlK hK
  refine vx_calli (vx_runV (As := [.int p0, .int p1]) (rest := [.int 0, .ref oo]) ⟨hx, hb, hml, hown, hg⟩ hM (cwV 2 hg (gV gw_197 gw_198 gw_199 gw_1 gw_200) rfl rfl rfl (by decide +kernel) ⟨by decide, by decide⟩) ⟨fun a U g mk q => by obtain ⟨q0, qP, qK, qX, qY⟩ := q; exact ⟨q0, qP, va_K.moved (u := U) (U := U.calling g mk a) (Vm.Alike.refl U.vm) qK, qX.blind, qY.blind⟩, va_recv hKc hPc (ci := 4) (q0 := 0) rfl rfl, fun U hU hW => ⟨rfl, by rw [hU]; exact hPc, va_K.moved hW.alike hKc, hE.call hS (fun _ z => z.elim) hU hW, hEX.call hS (fun _ z => z.elim) hU hW⟩⟩ rfl rfl hl.1 rfl (lv_room (Nat.le_of_ble_eq_true rfl)) d_L_code_5 ⟨Nat.le_of_ble_eq_true rfl, Nat.le_of_ble_eq_true rfl⟩) hS (fun _ _ z => z.elim) (fun _ z => z.elim) (fun _ _ z => z.elim) (fun E ce q9 u t H1 locs1 ht hvm _ hE0 hz hk hS hcell hv hcl => ?_) (fun _ _ _ _ _ _ _ z => z.elim)
  subst hE0
  have hP1 : va_P D CLS ((oo, .inl (cL, 1, .inr (.inl fo))) :: (x, .inr (4, fs)) :: T0) H1 := fun k q h => (hP k q h).kept (hk q.1 (hP k q h).lt (fun z => z))
  refine vx_catch (pc := 5) hown [(⟨0, 10, 13, 13⟩ : ExceptionTableEntry)] (⟨0, 10, 17, 15⟩ : ExceptionTableEntry) [] htb (fun z hz => by rw [List.mem_singleton] at hz; subst hz; exact Or.inr ⟨by decide, _, hg _ gw_195, hEC.2.2.2.1⟩) (by decide) (by decide) (hg _ gw_196) (va_Nw.use rfl hEC.2.1) hcell hv hcl ?_
  refine lv_astore (lv' := [(4, .ref q9), (0, .ref x), (1, .int p0), (2, .int p1), (3, .ref oo)]) hx hb d_L_code_17 hl (by decide) rfl (fun ls hl => ?_)
  refine lv_iconst (v := 2) hx hb d_L_code_19 (by decide) ?_
  exact W.iret (v := 2) hx hb hr (fun t ht hW => ⟨rfl, by rw [ht]; exact hP1, (hAe ▸ hS).F ht⟩) (hAe ▸ hS).2.2 d_L_code_20
set_option maxHeartbeats 4000000 in
set_option maxRecDepth 100000 in
theorem k_run (l : Launch) (D : va_G) (tw : Nat) (sa : Nat → Nat) (x oo : Nat) (fs : List Value) (T0 : va_W) (tys : List (ClassId × FieldType)) (cL : ClassId) (fo : Nat → Int64) (p0 p1 : Int32) (W1 : va_W) (F Lc : Nat) (r : Int32) (hF : F ≤ 7) (hLc : Lc ≤ 120) (hadr : W1.map (·.1) = ((x, .inr (4, fs)) :: T0).map (·.1)) (hM : Met l y_X_run (WSY y_X_run b_X_run 8 (some .int)) ({ frames := F, cells := 0, slots := 0, locals := Lc }) (va_Pc [.ref x, .int p0, .int p1] (PE D tw ((x, .inr (4, fs)) :: T0) tys)) (QM (some (.int r)) ((x, .inr (4, fs)) :: T0) W1 D) 0 0 (ad ((x, .inr (4, fs)) :: T0))) : Met l y_L_run (WSH y_L_run b_L_run 5 (some .int) [(0, 10, 13, 13), (0, 10, 17, 15)]) ({ frames := 8, cells := 1, slots := 6, locals := 160 }) (va_Pc [.ref x, .int p0, .int p1, .ref oo] (PL D tw sa ((oo, .inl (cL, 1, .inr (.inl fo))) :: (x, .inr (4, fs)) :: T0) ((cL, .long) :: tys))) (QM (some (.int 0)) ((oo, .inl (cL, 1, .inr (.inl fo))) :: (x, .inr (4, fs)) :: T0) ((oo, .inl (cL, 1, .inr (.inl (vp_updL fo 0 r.toInt64)))) :: W1) D) 1 6 (ad ((oo, .inl (cL, 1, .inr (.inl fo))) :: (x, .inr (4, fs)) :: T0)) := by
  refine va_MetW (cc := b_L_run) (maxL := 5) (ret := (some .int)) (hh := [(0, 10, 13, 13), (0, 10, 17, 15)]) (by decide) rfl ?_
  intro p e s m args below meth c s₁ B hml hv
  obtain ⟨rfl, hP, hK, hD0, hE, hEX, hEC⟩ := hv
  have hx := B.exec
  have hb := B.bytes
  have hr := B.returns
  have hts := atoms_spec (ws := (WSH y_L_run b_L_run 5 (some .int) [(0, 10, 13, 13), (0, 10, 17, 15)])) B.pre
  have hg : ∀ w ∈ GW, w.before _ s = true := fun w h => hts w (List.mem_cons_of_mem _ h)
  have hown : s.vm.findClass "LineGolombLaw" = some m.cls := findClass_of_methodNamed B.named
  have hlocks := B.notSynchronized
  obtain ⟨A, hAe⟩ : ∃ A, A = ad ((oo, .inl (cL, 1, .inr (.inl fo))) :: (x, .inr (4, fs)) :: T0) := ⟨_, rfl⟩
  have hD : va_D A ((oo, .inl (cL, 1, .inr (.inl fo))) :: (x, .inr (4, fs)) :: T0) := by rw [hAe]; exact va_D_ad hD0
  rw [← hAe] at hE hEX
  have hS : va_S A s.heap s.heap [] := va_S.rf
  have hl := lv_entry ([.ref x, .int p0, .int p1, .ref oo]) (n := 5) (Nat.le_of_ble_eq_true rfl)
  rw [lg_entry_eq]
  generalize (lg_sl ([.ref x, .int p0, .int p1, .ref oo]) ++ List.replicate (5 - (lg_sl ([.ref x, .int p0, .int p1, .ref oo])).length) Slot.unset).toArray = ls at hl ⊢
  have hl : lv_has ls 5 [(0, .ref x), (1, .int p0), (2, .int p1), (3, .ref oo)] := hl
  refine lv_aload_n hx hb d_L_run_0 rfl (lv_at hl 3 rfl) ?_
  refine lv_iconst (v := 0) hx hb d_L_run_1 (by decide) ?_
  refine lv_aload_n hx hb d_L_run_2 rfl (lv_at hl 0 rfl) ?_
  refine lv_iload_n hx hb d_L_run_3 rfl (lv_at hl 1 rfl) ?_
  refine lv_iload_n hx hb d_L_run_4 rfl (lv_at hl 2 rfl) ?_
  have hPc := tlP hP
  have hKc := tlK hK
  have hDc := tlD hD
  refine mti (va_runV (As := [.int p0, .int p1]) (rest := [.int 0, .ref oo]) ⟨hx, hb, hml, hown, hg⟩ hM (cwV 2 hg (gV gw_313 gw_314 gw_315 gw_1 gw_316) rfl rfl rfl (by decide +kernel) ⟨by show F + 1 ≤ 8; omega, by show 8 + (8 + 11) + Lc ≤ 160; omega⟩) ⟨fun a U g mk q => by obtain ⟨q0, qP, qK, qD, qX⟩ := q; exact ⟨q0, qP, va_K.moved (u := U) (U := U.calling g mk a) (Vm.Alike.refl U.vm) qK, qD, qX.blind⟩, va_recv hKc hPc (ci := 4) (q0 := 0) rfl rfl, fun U hU hW => ⟨rfl, by rw [hU]; exact hPc, va_K.moved hW.alike hKc, hDc.weaken (fun _ _ _ _ => trivial), hE.call hS (adD hDc) hU hW⟩⟩ rfl rfl hl.1 rfl (lv_room (Nat.le_of_ble_eq_true rfl)) d_L_run_5 ⟨Nat.zero_le _, Nat.zero_le _⟩) hS hP hD hadr (fun H locs hP hD hS => ?_)
  refine lv_i2l (v := r.toInt64) hx hb d_L_run_8 (rfl) ?_
  refine va_last (x := r.toInt64) hx hb hK hP hD hS 0 0 rfl rfl (vp_in_nI (n := 0) (by decide) (by decide)) d_L_run_9 (fun H locs hP hD hS => ?_)
  refine lv_goto (tgt := 21) hx hb d_L_run_10 (by decide) ?_
  refine lv_iconst (v := 0) hx hb d_L_run_21 (by decide) ?_
  refine W.widen (k := 1) (n := 6) (by omega) (by omega) ?_
  exact W.iret (v := 0) hx hb hr (fun t ht hW => ⟨rfl, by rw [ht]; exact hP, (hAe ▸ hS).F ht⟩) (hAe ▸ hS).2.2 d_L_run_22
set_option maxHeartbeats 4000000 in
set_option maxRecDepth 100000 in
theorem kx_run_A (l : Launch) (D : va_G) (tw : Nat) (sa : Nat → Nat) (x oo : Nat) (fs : List Value) (T0 : va_W) (tys : List (ClassId × FieldType)) (cL : ClassId) (fo : Nat → Int64) (p0 p1 : Int32) (hM : vx_Met l y_X_run (WSY y_X_run b_X_run 8 (some .int)) ({ frames := 6, cells := 1, slots := 6, locals := 110 }) (va_Pc [.ref x, .int p0, .int p1] (PT D tw sa ((x, .inr (4, fs)) :: T0) tys)) QT (XT "java/lang/IllegalArgumentException") 1 6 (fun _ => False)) : Met l y_L_run (WSH y_L_run b_L_run 5 (some .int) [(0, 10, 13, 13), (0, 10, 17, 15)]) ({ frames := 8, cells := 1, slots := 6, locals := 160 }) (va_Pc [.ref x, .int p0, .int p1, .ref oo] (PL D tw sa ((oo, .inl (cL, 1, .inr (.inl fo))) :: (x, .inr (4, fs)) :: T0) ((cL, .long) :: tys))) (QM (some (.int 1)) ((oo, .inl (cL, 1, .inr (.inl fo))) :: (x, .inr (4, fs)) :: T0) ((oo, .inl (cL, 1, .inr (.inl fo))) :: (x, .inr (4, fs)) :: T0) D) 1 6 (ad ((oo, .inl (cL, 1, .inr (.inl fo))) :: (x, .inr (4, fs)) :: T0)) := by
  refine va_MetW (cc := b_L_run) (maxL := 5) (ret := (some .int)) (hh := [(0, 10, 13, 13), (0, 10, 17, 15)]) (by decide) rfl ?_
  intro p e s m args below meth c s₁ B hml hv
  obtain ⟨rfl, hP, hK, hD0, hE, hEX, hEC⟩ := hv
  have hx := B.exec
  have hb := B.bytes
  have hr := B.returns
  have hts := atoms_spec (ws := (WSH y_L_run b_L_run 5 (some .int) [(0, 10, 13, 13), (0, 10, 17, 15)])) B.pre
  have hg : ∀ w ∈ GW, w.before _ s = true := fun w h => hts w (List.mem_cons_of_mem _ h)
  have hown : s.vm.findClass "LineGolombLaw" = some m.cls := findClass_of_methodNamed B.named
  have hlocks := B.notSynchronized
  obtain ⟨A, hAe⟩ : ∃ A, A = ad ((oo, .inl (cL, 1, .inr (.inl fo))) :: (x, .inr (4, fs)) :: T0) := ⟨_, rfl⟩
  have hD : va_D A ((oo, .inl (cL, 1, .inr (.inl fo))) :: (x, .inr (4, fs)) :: T0) := by rw [hAe]; exact va_D_ad hD0
  rw [← hAe] at hE hEX
  have hS : va_S A s.heap s.heap [] := va_S.rf
  have hl := lv_entry ([.ref x, .int p0, .int p1, .ref oo]) (n := 5) (Nat.le_of_ble_eq_true rfl)
  rw [lg_entry_eq]
  generalize (lg_sl ([.ref x, .int p0, .int p1, .ref oo]) ++ List.replicate (5 - (lg_sl ([.ref x, .int p0, .int p1, .ref oo])).length) Slot.unset).toArray = ls at hl ⊢
  have hl : lv_has ls 5 [(0, .ref x), (1, .int p0), (2, .int p1), (3, .ref oo)] := hl
  refine lv_aload_n hx hb d_L_run_0 rfl (lv_at hl 3 rfl) ?_
  refine lv_iconst (v := 0) hx hb d_L_run_1 (by decide) ?_
  refine lv_aload_n hx hb d_L_run_2 rfl (lv_at hl 0 rfl) ?_
  refine lv_iload_n hx hb d_L_run_3 rfl (lv_at hl 1 rfl) ?_
  refine lv_iload_n hx hb d_L_run_4 rfl (lv_at hl 2 rfl) ?_
  have htb : c.exceptionTable.toList = tableOf [(0, 10, 13, 13), (0, 10, 17, 15)] := vx_table (x := y_L_run) B (hts _ List.mem_cons_self)
  have hPc := tlP hP
  have hKc := tlK hK
  refine vx_calli (vx_runV (As := [.int p0, .int p1]) (rest := [.int 0, .ref oo]) ⟨hx, hb, hml, hown, hg⟩ hM (cwV 2 hg (gV gw_313 gw_314 gw_315 gw_1 gw_316) rfl rfl rfl (by decide +kernel) ⟨by decide, by decide⟩) ⟨fun a U g mk q => by obtain ⟨q0, qP, qK, qX, qY⟩ := q; exact ⟨q0, qP, va_K.moved (u := U) (U := U.calling g mk a) (Vm.Alike.refl U.vm) qK, qX.blind, qY.blind⟩, va_recv hKc hPc (ci := 4) (q0 := 0) rfl rfl, fun U hU hW => ⟨rfl, by rw [hU]; exact hPc, va_K.moved hW.alike hKc, hE.call hS (fun _ z => z.elim) hU hW, hEX.call hS (fun _ z => z.elim) hU hW⟩⟩ rfl rfl hl.1 rfl (lv_room (Nat.le_of_ble_eq_true rfl)) d_L_run_5 ⟨Nat.le_of_ble_eq_true rfl, Nat.le_of_ble_eq_true rfl⟩) hS (fun _ _ z => z.elim) (fun _ z => z.elim) (fun _ _ z => z.elim) (fun E ce q9 u t H1 locs1 ht hvm _ hE0 hz hk hS hcell hv hcl => ?_) (fun _ _ _ _ _ _ _ z => z.elim)
  subst hE0
  have hP1 : va_P D CLS ((oo, .inl (cL, 1, .inr (.inl fo))) :: (x, .inr (4, fs)) :: T0) H1 := fun k q h => (hP k q h).kept (hk q.1 (hP k q h).lt (fun z => z))
  refine vx_catch (pc := 5) hown [] (⟨0, 10, 13, 13⟩ : ExceptionTableEntry) [(⟨0, 10, 17, 15⟩ : ExceptionTableEntry)] htb (fun z hz => by cases hz) (by decide) (by decide) (hg _ gw_195) (va_Nw.use rfl hEC.1) hcell hv hcl ?_
  refine lv_astore (lv' := [(4, .ref q9), (0, .ref x), (1, .int p0), (2, .int p1), (3, .ref oo)]) hx hb d_L_run_13 hl (by decide) rfl (fun ls hl => ?_)
  refine lv_iconst (v := 1) hx hb d_L_run_15 (by decide) ?_
  exact W.iret (v := 1) hx hb hr (fun t ht hW => ⟨rfl, by rw [ht]; exact hP1, (hAe ▸ hS).F ht⟩) (hAe ▸ hS).2.2 d_L_run_16
set_option maxHeartbeats 4000000 in
set_option maxRecDepth 100000 in
theorem kx_run_U (l : Launch) (D : va_G) (tw : Nat) (sa : Nat → Nat) (x oo : Nat) (fs : List Value) (T0 : va_W) (tys : List (ClassId × FieldType)) (cL : ClassId) (fo : Nat → Int64) (p0 p1 : Int32) (hM : vx_Met l y_X_run (WSY y_X_run b_X_run 8 (some .int)) ({ frames := 6, cells := 1, slots := 6, locals := 110 }) (va_Pc [.ref x, .int p0, .int p1] (PT D tw sa ((x, .inr (4, fs)) :: T0) tys)) QT (XT "java/lang/UnsupportedOperationException") 1 6 (fun _ => False)) : Met l y_L_run (WSH y_L_run b_L_run 5 (some .int) [(0, 10, 13, 13), (0, 10, 17, 15)]) ({ frames := 8, cells := 1, slots := 6, locals := 160 }) (va_Pc [.ref x, .int p0, .int p1, .ref oo] (PL D tw sa ((oo, .inl (cL, 1, .inr (.inl fo))) :: (x, .inr (4, fs)) :: T0) ((cL, .long) :: tys))) (QM (some (.int 2)) ((oo, .inl (cL, 1, .inr (.inl fo))) :: (x, .inr (4, fs)) :: T0) ((oo, .inl (cL, 1, .inr (.inl fo))) :: (x, .inr (4, fs)) :: T0) D) 1 6 (ad ((oo, .inl (cL, 1, .inr (.inl fo))) :: (x, .inr (4, fs)) :: T0)) := by
  refine va_MetW (cc := b_L_run) (maxL := 5) (ret := (some .int)) (hh := [(0, 10, 13, 13), (0, 10, 17, 15)]) (by decide) rfl ?_
  intro p e s m args below meth c s₁ B hml hv
  obtain ⟨rfl, hP, hK, hD0, hE, hEX, hEC⟩ := hv
  have hx := B.exec
  have hb := B.bytes
  have hr := B.returns
  have hts := atoms_spec (ws := (WSH y_L_run b_L_run 5 (some .int) [(0, 10, 13, 13), (0, 10, 17, 15)])) B.pre
  have hg : ∀ w ∈ GW, w.before _ s = true := fun w h => hts w (List.mem_cons_of_mem _ h)
  have hown : s.vm.findClass "LineGolombLaw" = some m.cls := findClass_of_methodNamed B.named
  have hlocks := B.notSynchronized
  obtain ⟨A, hAe⟩ : ∃ A, A = ad ((oo, .inl (cL, 1, .inr (.inl fo))) :: (x, .inr (4, fs)) :: T0) := ⟨_, rfl⟩
  have hD : va_D A ((oo, .inl (cL, 1, .inr (.inl fo))) :: (x, .inr (4, fs)) :: T0) := by rw [hAe]; exact va_D_ad hD0
  rw [← hAe] at hE hEX
  have hS : va_S A s.heap s.heap [] := va_S.rf
  have hl := lv_entry ([.ref x, .int p0, .int p1, .ref oo]) (n := 5) (Nat.le_of_ble_eq_true rfl)
  rw [lg_entry_eq]
  generalize (lg_sl ([.ref x, .int p0, .int p1, .ref oo]) ++ List.replicate (5 - (lg_sl ([.ref x, .int p0, .int p1, .ref oo])).length) Slot.unset).toArray = ls at hl ⊢
  have hl : lv_has ls 5 [(0, .ref x), (1, .int p0), (2, .int p1), (3, .ref oo)] := hl
  refine lv_aload_n hx hb d_L_run_0 rfl (lv_at hl 3 rfl) ?_
  refine lv_iconst (v := 0) hx hb d_L_run_1 (by decide) ?_
  refine lv_aload_n hx hb d_L_run_2 rfl (lv_at hl 0 rfl) ?_
  refine lv_iload_n hx hb d_L_run_3 rfl (lv_at hl 1 rfl) ?_
  refine lv_iload_n hx hb d_L_run_4 rfl (lv_at hl 2 rfl) ?_
  have htb : c.exceptionTable.toList = tableOf [(0, 10, 13, 13), (0, 10, 17, 15)] := vx_table (x := y_L_run) B (hts _ List.mem_cons_self)
  have hPc := tlP hP
  have hKc := tlK hK
  refine vx_calli (vx_runV (As := [.int p0, .int p1]) (rest := [.int 0, .ref oo]) ⟨hx, hb, hml, hown, hg⟩ hM (cwV 2 hg (gV gw_313 gw_314 gw_315 gw_1 gw_316) rfl rfl rfl (by decide +kernel) ⟨by decide, by decide⟩) ⟨fun a U g mk q => by obtain ⟨q0, qP, qK, qX, qY⟩ := q; exact ⟨q0, qP, va_K.moved (u := U) (U := U.calling g mk a) (Vm.Alike.refl U.vm) qK, qX.blind, qY.blind⟩, va_recv hKc hPc (ci := 4) (q0 := 0) rfl rfl, fun U hU hW => ⟨rfl, by rw [hU]; exact hPc, va_K.moved hW.alike hKc, hE.call hS (fun _ z => z.elim) hU hW, hEX.call hS (fun _ z => z.elim) hU hW⟩⟩ rfl rfl hl.1 rfl (lv_room (Nat.le_of_ble_eq_true rfl)) d_L_run_5 ⟨Nat.le_of_ble_eq_true rfl, Nat.le_of_ble_eq_true rfl⟩) hS (fun _ _ z => z.elim) (fun _ z => z.elim) (fun _ _ z => z.elim) (fun E ce q9 u t H1 locs1 ht hvm _ hE0 hz hk hS hcell hv hcl => ?_) (fun _ _ _ _ _ _ _ z => z.elim)
  subst hE0
  have hP1 : va_P D CLS ((oo, .inl (cL, 1, .inr (.inl fo))) :: (x, .inr (4, fs)) :: T0) H1 := fun k q h => (hP k q h).kept (hk q.1 (hP k q h).lt (fun z => z))
  refine vx_catch (pc := 5) hown [(⟨0, 10, 13, 13⟩ : ExceptionTableEntry)] (⟨0, 10, 17, 15⟩ : ExceptionTableEntry) [] htb (fun z hz => by rw [List.mem_singleton] at hz; subst hz; exact Or.inr ⟨by decide, _, hg _ gw_195, hEC.2.2.2.1⟩) (by decide) (by decide) (hg _ gw_196) (va_Nw.use rfl hEC.2.1) hcell hv hcl ?_
  refine lv_astore (lv' := [(4, .ref q9), (0, .ref x), (1, .int p0), (2, .int p1), (3, .ref oo)]) hx hb d_L_run_17 hl (by decide) rfl (fun ls hl => ?_)
  refine lv_iconst (v := 2) hx hb d_L_run_19 (by decide) ?_
  exact W.iret (v := 2) hx hb hr (fun t ht hW => ⟨rfl, by rw [ht]; exact hP1, (hAe ▸ hS).F ht⟩) (hAe ▸ hS).2.2 d_L_run_20
set_option maxHeartbeats 4000000 in
set_option maxRecDepth 100000 in
theorem k_interrupt (l : Launch) (D : va_G) (tw : Nat) (sa : Nat → Nat) (x oo : Nat) (fs : List Value) (T0 : va_W) (tys : List (ClassId × FieldType)) (cL : ClassId) (fo : Nat → Int64) (p0 p1 : Int32) (W1 : va_W) (F Lc : Nat) (r : Int32) (hF : F ≤ 7) (hLc : Lc ≤ 120) (hadr : W1.map (·.1) = ((x, .inr (4, fs)) :: T0).map (·.1)) (hM : Met l y_X_interrupt (WSY y_X_interrupt b_X_interrupt 8 (some .int)) ({ frames := F, cells := 0, slots := 0, locals := Lc }) (va_Pc [.ref x, .int p0, .int p1] (PE D tw ((x, .inr (4, fs)) :: T0) tys)) (QM (some (.int r)) ((x, .inr (4, fs)) :: T0) W1 D) 0 0 (ad ((x, .inr (4, fs)) :: T0))) : Met l y_L_interrupt (WSH y_L_interrupt b_L_interrupt 5 (some .int) [(0, 10, 13, 24), (0, 10, 17, 13), (0, 10, 21, 15)]) ({ frames := 8, cells := 1, slots := 6, locals := 160 }) (va_Pc [.ref x, .int p0, .int p1, .ref oo] (PL D tw sa ((oo, .inl (cL, 1, .inr (.inl fo))) :: (x, .inr (4, fs)) :: T0) ((cL, .long) :: tys))) (QM (some (.int 0)) ((oo, .inl (cL, 1, .inr (.inl fo))) :: (x, .inr (4, fs)) :: T0) ((oo, .inl (cL, 1, .inr (.inl (vp_updL fo 0 r.toInt64)))) :: W1) D) 1 6 (ad ((oo, .inl (cL, 1, .inr (.inl fo))) :: (x, .inr (4, fs)) :: T0)) := by
  refine va_MetW (cc := b_L_interrupt) (maxL := 5) (ret := (some .int)) (hh := [(0, 10, 13, 24), (0, 10, 17, 13), (0, 10, 21, 15)]) (by decide) rfl ?_
  intro p e s m args below meth c s₁ B hml hv
  obtain ⟨rfl, hP, hK, hD0, hE, hEX, hEC⟩ := hv
  have hx := B.exec
  have hb := B.bytes
  have hr := B.returns
  have hts := atoms_spec (ws := (WSH y_L_interrupt b_L_interrupt 5 (some .int) [(0, 10, 13, 24), (0, 10, 17, 13), (0, 10, 21, 15)])) B.pre
  have hg : ∀ w ∈ GW, w.before _ s = true := fun w h => hts w (List.mem_cons_of_mem _ h)
  have hown : s.vm.findClass "LineGolombLaw" = some m.cls := findClass_of_methodNamed B.named
  have hlocks := B.notSynchronized
  obtain ⟨A, hAe⟩ : ∃ A, A = ad ((oo, .inl (cL, 1, .inr (.inl fo))) :: (x, .inr (4, fs)) :: T0) := ⟨_, rfl⟩
  have hD : va_D A ((oo, .inl (cL, 1, .inr (.inl fo))) :: (x, .inr (4, fs)) :: T0) := by rw [hAe]; exact va_D_ad hD0
  rw [← hAe] at hE hEX
  have hS : va_S A s.heap s.heap [] := va_S.rf
  have hl := lv_entry ([.ref x, .int p0, .int p1, .ref oo]) (n := 5) (Nat.le_of_ble_eq_true rfl)
  rw [lg_entry_eq]
  generalize (lg_sl ([.ref x, .int p0, .int p1, .ref oo]) ++ List.replicate (5 - (lg_sl ([.ref x, .int p0, .int p1, .ref oo])).length) Slot.unset).toArray = ls at hl ⊢
  have hl : lv_has ls 5 [(0, .ref x), (1, .int p0), (2, .int p1), (3, .ref oo)] := hl
  refine lv_aload_n hx hb d_L_interrupt_0 rfl (lv_at hl 3 rfl) ?_
  refine lv_iconst (v := 0) hx hb d_L_interrupt_1 (by decide) ?_
  refine lv_aload_n hx hb d_L_interrupt_2 rfl (lv_at hl 0 rfl) ?_
  refine lv_iload_n hx hb d_L_interrupt_3 rfl (lv_at hl 1 rfl) ?_
  refine lv_iload_n hx hb d_L_interrupt_4 rfl (lv_at hl 2 rfl) ?_
  have hPc := tlP hP
  have hKc := tlK hK
  have hDc := tlD hD
  refine mti (va_runV (As := [.int p0, .int p1]) (rest := [.int 0, .ref oo]) ⟨hx, hb, hml, hown, hg⟩ hM (cwV 2 hg (gV gw_339 gw_340 gw_341 gw_1 gw_342) rfl rfl rfl (by decide +kernel) ⟨by show F + 1 ≤ 8; omega, by show 8 + (8 + 11) + Lc ≤ 160; omega⟩) ⟨fun a U g mk q => by obtain ⟨q0, qP, qK, qD, qX⟩ := q; exact ⟨q0, qP, va_K.moved (u := U) (U := U.calling g mk a) (Vm.Alike.refl U.vm) qK, qD, qX.blind⟩, va_recv hKc hPc (ci := 4) (q0 := 0) rfl rfl, fun U hU hW => ⟨rfl, by rw [hU]; exact hPc, va_K.moved hW.alike hKc, hDc.weaken (fun _ _ _ _ => trivial), hE.call hS (adD hDc) hU hW⟩⟩ rfl rfl hl.1 rfl (lv_room (Nat.le_of_ble_eq_true rfl)) d_L_interrupt_5 ⟨Nat.zero_le _, Nat.zero_le _⟩) hS hP hD hadr (fun H locs hP hD hS => ?_)
  refine lv_i2l (v := r.toInt64) hx hb d_L_interrupt_8 (rfl) ?_
  refine va_last (x := r.toInt64) hx hb hK hP hD hS 0 0 rfl rfl (vp_in_nI (n := 0) (by decide) (by decide)) d_L_interrupt_9 (fun H locs hP hD hS => ?_)
  refine lv_goto (tgt := 25) hx hb d_L_interrupt_10 (by decide) ?_
  refine lv_iconst (v := 0) hx hb d_L_interrupt_25 (by decide) ?_
  refine W.widen (k := 1) (n := 6) (by omega) (by omega) ?_
  exact W.iret (v := 0) hx hb hr (fun t ht hW => ⟨rfl, by rw [ht]; exact hP, (hAe ▸ hS).F ht⟩) (hAe ▸ hS).2.2 d_L_interrupt_26
set_option maxHeartbeats 4000000 in
set_option maxRecDepth 100000 in
theorem kx_interrupt_I (l : Launch) (D : va_G) (tw : Nat) (sa : Nat → Nat) (x oo : Nat) (fs : List Value) (T0 : va_W) (tys : List (ClassId × FieldType)) (cL : ClassId) (fo : Nat → Int64) (p0 p1 : Int32) (hM : vx_Met l y_X_interrupt (WSY y_X_interrupt b_X_interrupt 8 (some .int)) ({ frames := 6, cells := 1, slots := 6, locals := 110 }) (va_Pc [.ref x, .int p0, .int p1] (PT D tw sa ((x, .inr (4, fs)) :: T0) tys)) QT (XT "java/lang/IndexOutOfBoundsException") 1 6 (fun _ => False)) : Met l y_L_interrupt (WSH y_L_interrupt b_L_interrupt 5 (some .int) [(0, 10, 13, 24), (0, 10, 17, 13), (0, 10, 21, 15)]) ({ frames := 8, cells := 1, slots := 6, locals := 160 }) (va_Pc [.ref x, .int p0, .int p1, .ref oo] (PL D tw sa ((oo, .inl (cL, 1, .inr (.inl fo))) :: (x, .inr (4, fs)) :: T0) ((cL, .long) :: tys))) (QM (some (.int 1)) ((oo, .inl (cL, 1, .inr (.inl fo))) :: (x, .inr (4, fs)) :: T0) ((oo, .inl (cL, 1, .inr (.inl fo))) :: (x, .inr (4, fs)) :: T0) D) 1 6 (ad ((oo, .inl (cL, 1, .inr (.inl fo))) :: (x, .inr (4, fs)) :: T0)) := by
  refine va_MetW (cc := b_L_interrupt) (maxL := 5) (ret := (some .int)) (hh := [(0, 10, 13, 24), (0, 10, 17, 13), (0, 10, 21, 15)]) (by decide) rfl ?_
  intro p e s m args below meth c s₁ B hml hv
  obtain ⟨rfl, hP, hK, hD0, hE, hEX, hEC⟩ := hv
  have hx := B.exec
  have hb := B.bytes
  have hr := B.returns
  have hts := atoms_spec (ws := (WSH y_L_interrupt b_L_interrupt 5 (some .int) [(0, 10, 13, 24), (0, 10, 17, 13), (0, 10, 21, 15)])) B.pre
  have hg : ∀ w ∈ GW, w.before _ s = true := fun w h => hts w (List.mem_cons_of_mem _ h)
  have hown : s.vm.findClass "LineGolombLaw" = some m.cls := findClass_of_methodNamed B.named
  have hlocks := B.notSynchronized
  obtain ⟨A, hAe⟩ : ∃ A, A = ad ((oo, .inl (cL, 1, .inr (.inl fo))) :: (x, .inr (4, fs)) :: T0) := ⟨_, rfl⟩
  have hD : va_D A ((oo, .inl (cL, 1, .inr (.inl fo))) :: (x, .inr (4, fs)) :: T0) := by rw [hAe]; exact va_D_ad hD0
  rw [← hAe] at hE hEX
  have hS : va_S A s.heap s.heap [] := va_S.rf
  have hl := lv_entry ([.ref x, .int p0, .int p1, .ref oo]) (n := 5) (Nat.le_of_ble_eq_true rfl)
  rw [lg_entry_eq]
  generalize (lg_sl ([.ref x, .int p0, .int p1, .ref oo]) ++ List.replicate (5 - (lg_sl ([.ref x, .int p0, .int p1, .ref oo])).length) Slot.unset).toArray = ls at hl ⊢
  have hl : lv_has ls 5 [(0, .ref x), (1, .int p0), (2, .int p1), (3, .ref oo)] := hl
  refine lv_aload_n hx hb d_L_interrupt_0 rfl (lv_at hl 3 rfl) ?_
  refine lv_iconst (v := 0) hx hb d_L_interrupt_1 (by decide) ?_
  refine lv_aload_n hx hb d_L_interrupt_2 rfl (lv_at hl 0 rfl) ?_
  refine lv_iload_n hx hb d_L_interrupt_3 rfl (lv_at hl 1 rfl) ?_
  refine lv_iload_n hx hb d_L_interrupt_4 rfl (lv_at hl 2 rfl) ?_
  have htb : c.exceptionTable.toList = tableOf [(0, 10, 13, 24), (0, 10, 17, 13), (0, 10, 21, 15)] := vx_table (x := y_L_interrupt) B (hts _ List.mem_cons_self)
  have hPc := tlP hP
  have hKc := tlK hK
  refine vx_calli (vx_runV (As := [.int p0, .int p1]) (rest := [.int 0, .ref oo]) ⟨hx, hb, hml, hown, hg⟩ hM (cwV 2 hg (gV gw_339 gw_340 gw_341 gw_1 gw_342) rfl rfl rfl (by decide +kernel) ⟨by decide, by decide⟩) ⟨fun a U g mk q => by obtain ⟨q0, qP, qK, qX, qY⟩ := q; exact ⟨q0, qP, va_K.moved (u := U) (U := U.calling g mk a) (Vm.Alike.refl U.vm) qK, qX.blind, qY.blind⟩, va_recv hKc hPc (ci := 4) (q0 := 0) rfl rfl, fun U hU hW => ⟨rfl, by rw [hU]; exact hPc, va_K.moved hW.alike hKc, hE.call hS (fun _ z => z.elim) hU hW, hEX.call hS (fun _ z => z.elim) hU hW⟩⟩ rfl rfl hl.1 rfl (lv_room (Nat.le_of_ble_eq_true rfl)) d_L_interrupt_5 ⟨Nat.le_of_ble_eq_true rfl, Nat.le_of_ble_eq_true rfl⟩) hS (fun _ _ z => z.elim) (fun _ z => z.elim) (fun _ _ z => z.elim) (fun E ce q9 u t H1 locs1 ht hvm _ hE0 hz hk hS hcell hv hcl => ?_) (fun _ _ _ _ _ _ _ z => z.elim)
  subst hE0
  have hP1 : va_P D CLS ((oo, .inl (cL, 1, .inr (.inl fo))) :: (x, .inr (4, fs)) :: T0) H1 := fun k q h => (hP k q h).kept (hk q.1 (hP k q h).lt (fun z => z))
  refine vx_catch (pc := 5) hown [] (⟨0, 10, 13, 24⟩ : ExceptionTableEntry) [(⟨0, 10, 17, 13⟩ : ExceptionTableEntry), (⟨0, 10, 21, 15⟩ : ExceptionTableEntry)] htb (fun z hz => by cases hz) (by decide) (by decide) (hg _ gw_338) (va_Nw.use rfl hEC.2.2.1) hcell hv hcl ?_
  refine lv_astore (lv' := [(4, .ref q9), (0, .ref x), (1, .int p0), (2, .int p1), (3, .ref oo)]) hx hb d_L_interrupt_13 hl (by decide) rfl (fun ls hl => ?_)
  refine lv_iconst (v := 1) hx hb d_L_interrupt_15 (by decide) ?_
  exact W.iret (v := 1) hx hb hr (fun t ht hW => ⟨rfl, by rw [ht]; exact hP1, (hAe ▸ hS).F ht⟩) (hAe ▸ hS).2.2 d_L_interrupt_16
set_option maxHeartbeats 4000000 in
set_option maxRecDepth 100000 in
theorem kx_interrupt_A (l : Launch) (D : va_G) (tw : Nat) (sa : Nat → Nat) (x oo : Nat) (fs : List Value) (T0 : va_W) (tys : List (ClassId × FieldType)) (cL : ClassId) (fo : Nat → Int64) (p0 p1 : Int32) (hM : vx_Met l y_X_interrupt (WSY y_X_interrupt b_X_interrupt 8 (some .int)) ({ frames := 6, cells := 1, slots := 6, locals := 110 }) (va_Pc [.ref x, .int p0, .int p1] (PT D tw sa ((x, .inr (4, fs)) :: T0) tys)) QT (XT "java/lang/IllegalArgumentException") 1 6 (fun _ => False)) : Met l y_L_interrupt (WSH y_L_interrupt b_L_interrupt 5 (some .int) [(0, 10, 13, 24), (0, 10, 17, 13), (0, 10, 21, 15)]) ({ frames := 8, cells := 1, slots := 6, locals := 160 }) (va_Pc [.ref x, .int p0, .int p1, .ref oo] (PL D tw sa ((oo, .inl (cL, 1, .inr (.inl fo))) :: (x, .inr (4, fs)) :: T0) ((cL, .long) :: tys))) (QM (some (.int 2)) ((oo, .inl (cL, 1, .inr (.inl fo))) :: (x, .inr (4, fs)) :: T0) ((oo, .inl (cL, 1, .inr (.inl fo))) :: (x, .inr (4, fs)) :: T0) D) 1 6 (ad ((oo, .inl (cL, 1, .inr (.inl fo))) :: (x, .inr (4, fs)) :: T0)) := by
  refine va_MetW (cc := b_L_interrupt) (maxL := 5) (ret := (some .int)) (hh := [(0, 10, 13, 24), (0, 10, 17, 13), (0, 10, 21, 15)]) (by decide) rfl ?_
  intro p e s m args below meth c s₁ B hml hv
  obtain ⟨rfl, hP, hK, hD0, hE, hEX, hEC⟩ := hv
  have hx := B.exec
  have hb := B.bytes
  have hr := B.returns
  have hts := atoms_spec (ws := (WSH y_L_interrupt b_L_interrupt 5 (some .int) [(0, 10, 13, 24), (0, 10, 17, 13), (0, 10, 21, 15)])) B.pre
  have hg : ∀ w ∈ GW, w.before _ s = true := fun w h => hts w (List.mem_cons_of_mem _ h)
  have hown : s.vm.findClass "LineGolombLaw" = some m.cls := findClass_of_methodNamed B.named
  have hlocks := B.notSynchronized
  obtain ⟨A, hAe⟩ : ∃ A, A = ad ((oo, .inl (cL, 1, .inr (.inl fo))) :: (x, .inr (4, fs)) :: T0) := ⟨_, rfl⟩
  have hD : va_D A ((oo, .inl (cL, 1, .inr (.inl fo))) :: (x, .inr (4, fs)) :: T0) := by rw [hAe]; exact va_D_ad hD0
  rw [← hAe] at hE hEX
  have hS : va_S A s.heap s.heap [] := va_S.rf
  have hl := lv_entry ([.ref x, .int p0, .int p1, .ref oo]) (n := 5) (Nat.le_of_ble_eq_true rfl)
  rw [lg_entry_eq]
  generalize (lg_sl ([.ref x, .int p0, .int p1, .ref oo]) ++ List.replicate (5 - (lg_sl ([.ref x, .int p0, .int p1, .ref oo])).length) Slot.unset).toArray = ls at hl ⊢
  have hl : lv_has ls 5 [(0, .ref x), (1, .int p0), (2, .int p1), (3, .ref oo)] := hl
  refine lv_aload_n hx hb d_L_interrupt_0 rfl (lv_at hl 3 rfl) ?_
  refine lv_iconst (v := 0) hx hb d_L_interrupt_1 (by decide) ?_
  refine lv_aload_n hx hb d_L_interrupt_2 rfl (lv_at hl 0 rfl) ?_
  refine lv_iload_n hx hb d_L_interrupt_3 rfl (lv_at hl 1 rfl) ?_
  refine lv_iload_n hx hb d_L_interrupt_4 rfl (lv_at hl 2 rfl) ?_
  have htb : c.exceptionTable.toList = tableOf [(0, 10, 13, 24), (0, 10, 17, 13), (0, 10, 21, 15)] := vx_table (x := y_L_interrupt) B (hts _ List.mem_cons_self)
  have hPc := tlP hP
  have hKc := tlK hK
  refine vx_calli (vx_runV (As := [.int p0, .int p1]) (rest := [.int 0, .ref oo]) ⟨hx, hb, hml, hown, hg⟩ hM (cwV 2 hg (gV gw_339 gw_340 gw_341 gw_1 gw_342) rfl rfl rfl (by decide +kernel) ⟨by decide, by decide⟩) ⟨fun a U g mk q => by obtain ⟨q0, qP, qK, qX, qY⟩ := q; exact ⟨q0, qP, va_K.moved (u := U) (U := U.calling g mk a) (Vm.Alike.refl U.vm) qK, qX.blind, qY.blind⟩, va_recv hKc hPc (ci := 4) (q0 := 0) rfl rfl, fun U hU hW => ⟨rfl, by rw [hU]; exact hPc, va_K.moved hW.alike hKc, hE.call hS (fun _ z => z.elim) hU hW, hEX.call hS (fun _ z => z.elim) hU hW⟩⟩ rfl rfl hl.1 rfl (lv_room (Nat.le_of_ble_eq_true rfl)) d_L_interrupt_5 ⟨Nat.le_of_ble_eq_true rfl, Nat.le_of_ble_eq_true rfl⟩) hS (fun _ _ z => z.elim) (fun _ z => z.elim) (fun _ _ z => z.elim) (fun E ce q9 u t H1 locs1 ht hvm _ hE0 hz hk hS hcell hv hcl => ?_) (fun _ _ _ _ _ _ _ z => z.elim)
  subst hE0
  have hP1 : va_P D CLS ((oo, .inl (cL, 1, .inr (.inl fo))) :: (x, .inr (4, fs)) :: T0) H1 := fun k q h => (hP k q h).kept (hk q.1 (hP k q h).lt (fun z => z))
  refine vx_catch (pc := 5) hown [(⟨0, 10, 13, 24⟩ : ExceptionTableEntry)] (⟨0, 10, 17, 13⟩ : ExceptionTableEntry) [(⟨0, 10, 21, 15⟩ : ExceptionTableEntry)] htb (fun z hz => by rw [List.mem_singleton] at hz; subst hz; exact Or.inr ⟨by decide, _, hg _ gw_338, hEC.2.2.2.2.1⟩) (by decide) (by decide) (hg _ gw_195) (va_Nw.use rfl hEC.1) hcell hv hcl ?_
  refine lv_astore (lv' := [(4, .ref q9), (0, .ref x), (1, .int p0), (2, .int p1), (3, .ref oo)]) hx hb d_L_interrupt_17 hl (by decide) rfl (fun ls hl => ?_)
  refine lv_iconst (v := 2) hx hb d_L_interrupt_19 (by decide) ?_
  exact W.iret (v := 2) hx hb hr (fun t ht hW => ⟨rfl, by rw [ht]; exact hP1, (hAe ▸ hS).F ht⟩) (hAe ▸ hS).2.2 d_L_interrupt_20
set_option maxHeartbeats 4000000 in
set_option maxRecDepth 100000 in
theorem kx_interrupt_U (l : Launch) (D : va_G) (tw : Nat) (sa : Nat → Nat) (x oo : Nat) (fs : List Value) (T0 : va_W) (tys : List (ClassId × FieldType)) (cL : ClassId) (fo : Nat → Int64) (p0 p1 : Int32) (hM : vx_Met l y_X_interrupt (WSY y_X_interrupt b_X_interrupt 8 (some .int)) ({ frames := 6, cells := 1, slots := 6, locals := 110 }) (va_Pc [.ref x, .int p0, .int p1] (PT D tw sa ((x, .inr (4, fs)) :: T0) tys)) QT (XT "java/lang/UnsupportedOperationException") 1 6 (fun _ => False)) : Met l y_L_interrupt (WSH y_L_interrupt b_L_interrupt 5 (some .int) [(0, 10, 13, 24), (0, 10, 17, 13), (0, 10, 21, 15)]) ({ frames := 8, cells := 1, slots := 6, locals := 160 }) (va_Pc [.ref x, .int p0, .int p1, .ref oo] (PL D tw sa ((oo, .inl (cL, 1, .inr (.inl fo))) :: (x, .inr (4, fs)) :: T0) ((cL, .long) :: tys))) (QM (some (.int 3)) ((oo, .inl (cL, 1, .inr (.inl fo))) :: (x, .inr (4, fs)) :: T0) ((oo, .inl (cL, 1, .inr (.inl fo))) :: (x, .inr (4, fs)) :: T0) D) 1 6 (ad ((oo, .inl (cL, 1, .inr (.inl fo))) :: (x, .inr (4, fs)) :: T0)) := by
  refine va_MetW (cc := b_L_interrupt) (maxL := 5) (ret := (some .int)) (hh := [(0, 10, 13, 24), (0, 10, 17, 13), (0, 10, 21, 15)]) (by decide) rfl ?_
  intro p e s m args below meth c s₁ B hml hv
  obtain ⟨rfl, hP, hK, hD0, hE, hEX, hEC⟩ := hv
  have hx := B.exec
  have hb := B.bytes
  have hr := B.returns
  have hts := atoms_spec (ws := (WSH y_L_interrupt b_L_interrupt 5 (some .int) [(0, 10, 13, 24), (0, 10, 17, 13), (0, 10, 21, 15)])) B.pre
  have hg : ∀ w ∈ GW, w.before _ s = true := fun w h => hts w (List.mem_cons_of_mem _ h)
  have hown : s.vm.findClass "LineGolombLaw" = some m.cls := findClass_of_methodNamed B.named
  have hlocks := B.notSynchronized
  obtain ⟨A, hAe⟩ : ∃ A, A = ad ((oo, .inl (cL, 1, .inr (.inl fo))) :: (x, .inr (4, fs)) :: T0) := ⟨_, rfl⟩
  have hD : va_D A ((oo, .inl (cL, 1, .inr (.inl fo))) :: (x, .inr (4, fs)) :: T0) := by rw [hAe]; exact va_D_ad hD0
  rw [← hAe] at hE hEX
  have hS : va_S A s.heap s.heap [] := va_S.rf
  have hl := lv_entry ([.ref x, .int p0, .int p1, .ref oo]) (n := 5) (Nat.le_of_ble_eq_true rfl)
  rw [lg_entry_eq]
  generalize (lg_sl ([.ref x, .int p0, .int p1, .ref oo]) ++ List.replicate (5 - (lg_sl ([.ref x, .int p0, .int p1, .ref oo])).length) Slot.unset).toArray = ls at hl ⊢
  have hl : lv_has ls 5 [(0, .ref x), (1, .int p0), (2, .int p1), (3, .ref oo)] := hl
  refine lv_aload_n hx hb d_L_interrupt_0 rfl (lv_at hl 3 rfl) ?_
  refine lv_iconst (v := 0) hx hb d_L_interrupt_1 (by decide) ?_
  refine lv_aload_n hx hb d_L_interrupt_2 rfl (lv_at hl 0 rfl) ?_
  refine lv_iload_n hx hb d_L_interrupt_3 rfl (lv_at hl 1 rfl) ?_
  refine lv_iload_n hx hb d_L_interrupt_4 rfl (lv_at hl 2 rfl) ?_
  have htb : c.exceptionTable.toList = tableOf [(0, 10, 13, 24), (0, 10, 17, 13), (0, 10, 21, 15)] := vx_table (x := y_L_interrupt) B (hts _ List.mem_cons_self)
  have hPc := tlP hP
  have hKc := tlK hK
  refine vx_calli (vx_runV (As := [.int p0, .int p1]) (rest := [.int 0, .ref oo]) ⟨hx, hb, hml, hown, hg⟩ hM (cwV 2 hg (gV gw_339 gw_340 gw_341 gw_1 gw_342) rfl rfl rfl (by decide +kernel) ⟨by decide, by decide⟩) ⟨fun a U g mk q => by obtain ⟨q0, qP, qK, qX, qY⟩ := q; exact ⟨q0, qP, va_K.moved (u := U) (U := U.calling g mk a) (Vm.Alike.refl U.vm) qK, qX.blind, qY.blind⟩, va_recv hKc hPc (ci := 4) (q0 := 0) rfl rfl, fun U hU hW => ⟨rfl, by rw [hU]; exact hPc, va_K.moved hW.alike hKc, hE.call hS (fun _ z => z.elim) hU hW, hEX.call hS (fun _ z => z.elim) hU hW⟩⟩ rfl rfl hl.1 rfl (lv_room (Nat.le_of_ble_eq_true rfl)) d_L_interrupt_5 ⟨Nat.le_of_ble_eq_true rfl, Nat.le_of_ble_eq_true rfl⟩) hS (fun _ _ z => z.elim) (fun _ z => z.elim) (fun _ _ z => z.elim) (fun E ce q9 u t H1 locs1 ht hvm _ hE0 hz hk hS hcell hv hcl => ?_) (fun _ _ _ _ _ _ _ z => z.elim)
  subst hE0
  have hP1 : va_P D CLS ((oo, .inl (cL, 1, .inr (.inl fo))) :: (x, .inr (4, fs)) :: T0) H1 := fun k q h => (hP k q h).kept (hk q.1 (hP k q h).lt (fun z => z))
  refine vx_catch (pc := 5) hown [(⟨0, 10, 13, 24⟩ : ExceptionTableEntry), (⟨0, 10, 17, 13⟩ : ExceptionTableEntry)] (⟨0, 10, 21, 15⟩ : ExceptionTableEntry) [] htb (fun z hz => (List.mem_cons.mp hz).elim (fun e9 => by subst e9; exact Or.inr ⟨by decide, _, hg _ gw_338, hEC.2.2.2.2.2⟩) (fun hz => by rw [List.mem_singleton] at hz; subst hz; exact Or.inr ⟨by decide, _, hg _ gw_195, hEC.2.2.2.1⟩)) (by decide) (by decide) (hg _ gw_196) (va_Nw.use rfl hEC.2.1) hcell hv hcl ?_
  refine lv_astore (lv' := [(4, .ref q9), (0, .ref x), (1, .int p0), (2, .int p1), (3, .ref oo)]) hx hb d_L_interrupt_21 hl (by decide) rfl (fun ls hl => ?_)
  refine lv_iconst (v := 3) hx hb d_L_interrupt_23 (by decide) ?_
  exact W.iret (v := 3) hx hb hr (fun t ht hW => ⟨rfl, by rw [ht]; exact hP1, (hAe ▸ hS).F ht⟩) (hAe ▸ hS).2.2 d_L_interrupt_24
set_option maxHeartbeats 4000000 in
set_option maxRecDepth 100000 in
theorem k_bitAt (l : Launch) (D : va_G) (tw : Nat) (sa : Nat → Nat) (x oo : Nat) (fs : List Value) (T0 : va_W) (tys : List (ClassId × FieldType)) (cL : ClassId) (fo : Nat → Int64) (p0 : Int32) (W1 : va_W) (F Lc : Nat) (r : Int32) (hF : F ≤ 7) (hLc : Lc ≤ 120) (hadr : W1.map (·.1) = ((x, .inr (4, fs)) :: T0).map (·.1)) (hM : Met l y_X_bitAt (WSY y_X_bitAt b_X_bitAt 2 (some .int)) ({ frames := F, cells := 0, slots := 0, locals := Lc }) (va_Pc [.ref x, .int p0] (PE D tw ((x, .inr (4, fs)) :: T0) tys)) (QM (some (.int r)) ((x, .inr (4, fs)) :: T0) W1 D) 0 0 (ad ((x, .inr (4, fs)) :: T0))) : Met l y_L_bitAt (WSH y_L_bitAt b_L_bitAt 4 (some .int) [(0, 9, 12, 24)]) ({ frames := 8, cells := 1, slots := 6, locals := 160 }) (va_Pc [.ref x, .int p0, .ref oo] (PL D tw sa ((oo, .inl (cL, 1, .inr (.inl fo))) :: (x, .inr (4, fs)) :: T0) ((cL, .long) :: tys))) (QM (some (.int 0)) ((oo, .inl (cL, 1, .inr (.inl fo))) :: (x, .inr (4, fs)) :: T0) ((oo, .inl (cL, 1, .inr (.inl (vp_updL fo 0 r.toInt64)))) :: W1) D) 1 6 (ad ((oo, .inl (cL, 1, .inr (.inl fo))) :: (x, .inr (4, fs)) :: T0)) := by
  refine va_MetW (cc := b_L_bitAt) (maxL := 4) (ret := (some .int)) (hh := [(0, 9, 12, 24)]) (by decide) rfl ?_
  intro p e s m args below meth c s₁ B hml hv
  obtain ⟨rfl, hP, hK, hD0, hE, hEX, hEC⟩ := hv
  have hx := B.exec
  have hb := B.bytes
  have hr := B.returns
  have hts := atoms_spec (ws := (WSH y_L_bitAt b_L_bitAt 4 (some .int) [(0, 9, 12, 24)])) B.pre
  have hg : ∀ w ∈ GW, w.before _ s = true := fun w h => hts w (List.mem_cons_of_mem _ h)
  have hown : s.vm.findClass "LineGolombLaw" = some m.cls := findClass_of_methodNamed B.named
  have hlocks := B.notSynchronized
  obtain ⟨A, hAe⟩ : ∃ A, A = ad ((oo, .inl (cL, 1, .inr (.inl fo))) :: (x, .inr (4, fs)) :: T0) := ⟨_, rfl⟩
  have hD : va_D A ((oo, .inl (cL, 1, .inr (.inl fo))) :: (x, .inr (4, fs)) :: T0) := by rw [hAe]; exact va_D_ad hD0
  rw [← hAe] at hE hEX
  have hS : va_S A s.heap s.heap [] := va_S.rf
  have hl := lv_entry ([.ref x, .int p0, .ref oo]) (n := 4) (Nat.le_of_ble_eq_true rfl)
  rw [lg_entry_eq]
  generalize (lg_sl ([.ref x, .int p0, .ref oo]) ++ List.replicate (4 - (lg_sl ([.ref x, .int p0, .ref oo])).length) Slot.unset).toArray = ls at hl ⊢
  have hl : lv_has ls 4 [(0, .ref x), (1, .int p0), (2, .ref oo)] := hl
  refine lv_aload_n hx hb d_L_bitAt_0 rfl (lv_at hl 2 rfl) ?_
  refine lv_iconst (v := 0) hx hb d_L_bitAt_1 (by decide) ?_
  refine lv_aload_n hx hb d_L_bitAt_2 rfl (lv_at hl 0 rfl) ?_
  refine lv_iload_n hx hb d_L_bitAt_3 rfl (lv_at hl 1 rfl) ?_
  have hPc := tlP hP
  have hKc := tlK hK
  have hDc := tlD hD
  refine mti (va_runV (As := [.int p0]) (rest := [.int 0, .ref oo]) ⟨hx, hb, hml, hown, hg⟩ hM (cwV 1 hg (gV gw_397 gw_398 gw_399 gw_1 gw_400) rfl rfl rfl (by decide +kernel) ⟨by show F + 1 ≤ 8; omega, by show 8 + (2 + 11) + Lc ≤ 160; omega⟩) ⟨fun a U g mk q => by obtain ⟨q0, qP, qK, qD, qX⟩ := q; exact ⟨q0, qP, va_K.moved (u := U) (U := U.calling g mk a) (Vm.Alike.refl U.vm) qK, qD, qX.blind⟩, va_recv hKc hPc (ci := 4) (q0 := 0) rfl rfl, fun U hU hW => ⟨rfl, by rw [hU]; exact hPc, va_K.moved hW.alike hKc, hDc.weaken (fun _ _ _ _ => trivial), hE.call hS (adD hDc) hU hW⟩⟩ rfl rfl hl.1 rfl (lv_room (Nat.le_of_ble_eq_true rfl)) d_L_bitAt_4 ⟨Nat.zero_le _, Nat.zero_le _⟩) hS hP hD hadr (fun H locs hP hD hS => ?_)
  refine lv_i2l (v := r.toInt64) hx hb d_L_bitAt_7 (rfl) ?_
  refine va_last (x := r.toInt64) hx hb hK hP hD hS 0 0 rfl rfl (vp_in_nI (n := 0) (by decide) (by decide)) d_L_bitAt_8 (fun H locs hP hD hS => ?_)
  refine lv_goto (tgt := 15) hx hb d_L_bitAt_9 (by decide) ?_
  refine lv_iconst (v := 0) hx hb d_L_bitAt_15 (by decide) ?_
  refine W.widen (k := 1) (n := 6) (by omega) (by omega) ?_
  exact W.iret (v := 0) hx hb hr (fun t ht hW => ⟨rfl, by rw [ht]; exact hP, (hAe ▸ hS).F ht⟩) (hAe ▸ hS).2.2 d_L_bitAt_16
set_option maxHeartbeats 4000000 in
set_option maxRecDepth 100000 in
theorem kx_bitAt_I (l : Launch) (D : va_G) (tw : Nat) (sa : Nat → Nat) (x oo : Nat) (fs : List Value) (T0 : va_W) (tys : List (ClassId × FieldType)) (cL : ClassId) (fo : Nat → Int64) (p0 : Int32) (hM : vx_Met l y_X_bitAt (WSY y_X_bitAt b_X_bitAt 2 (some .int)) ({ frames := 6, cells := 1, slots := 6, locals := 110 }) (va_Pc [.ref x, .int p0] (PT D tw sa ((x, .inr (4, fs)) :: T0) tys)) QT (XT "java/lang/IndexOutOfBoundsException") 1 6 (fun _ => False)) : Met l y_L_bitAt (WSH y_L_bitAt b_L_bitAt 4 (some .int) [(0, 9, 12, 24)]) ({ frames := 8, cells := 1, slots := 6, locals := 160 }) (va_Pc [.ref x, .int p0, .ref oo] (PL D tw sa ((oo, .inl (cL, 1, .inr (.inl fo))) :: (x, .inr (4, fs)) :: T0) ((cL, .long) :: tys))) (QM (some (.int 1)) ((oo, .inl (cL, 1, .inr (.inl fo))) :: (x, .inr (4, fs)) :: T0) ((oo, .inl (cL, 1, .inr (.inl fo))) :: (x, .inr (4, fs)) :: T0) D) 1 6 (ad ((oo, .inl (cL, 1, .inr (.inl fo))) :: (x, .inr (4, fs)) :: T0)) := by
  refine va_MetW (cc := b_L_bitAt) (maxL := 4) (ret := (some .int)) (hh := [(0, 9, 12, 24)]) (by decide) rfl ?_
  intro p e s m args below meth c s₁ B hml hv
  obtain ⟨rfl, hP, hK, hD0, hE, hEX, hEC⟩ := hv
  have hx := B.exec
  have hb := B.bytes
  have hr := B.returns
  have hts := atoms_spec (ws := (WSH y_L_bitAt b_L_bitAt 4 (some .int) [(0, 9, 12, 24)])) B.pre
  have hg : ∀ w ∈ GW, w.before _ s = true := fun w h => hts w (List.mem_cons_of_mem _ h)
  have hown : s.vm.findClass "LineGolombLaw" = some m.cls := findClass_of_methodNamed B.named
  have hlocks := B.notSynchronized
  obtain ⟨A, hAe⟩ : ∃ A, A = ad ((oo, .inl (cL, 1, .inr (.inl fo))) :: (x, .inr (4, fs)) :: T0) := ⟨_, rfl⟩
  have hD : va_D A ((oo, .inl (cL, 1, .inr (.inl fo))) :: (x, .inr (4, fs)) :: T0) := by rw [hAe]; exact va_D_ad hD0
  rw [← hAe] at hE hEX
  have hS : va_S A s.heap s.heap [] := va_S.rf
  have hl := lv_entry ([.ref x, .int p0, .ref oo]) (n := 4) (Nat.le_of_ble_eq_true rfl)
  rw [lg_entry_eq]
  generalize (lg_sl ([.ref x, .int p0, .ref oo]) ++ List.replicate (4 - (lg_sl ([.ref x, .int p0, .ref oo])).length) Slot.unset).toArray = ls at hl ⊢
  have hl : lv_has ls 4 [(0, .ref x), (1, .int p0), (2, .ref oo)] := hl
  refine lv_aload_n hx hb d_L_bitAt_0 rfl (lv_at hl 2 rfl) ?_
  refine lv_iconst (v := 0) hx hb d_L_bitAt_1 (by decide) ?_
  refine lv_aload_n hx hb d_L_bitAt_2 rfl (lv_at hl 0 rfl) ?_
  refine lv_iload_n hx hb d_L_bitAt_3 rfl (lv_at hl 1 rfl) ?_
  have htb : c.exceptionTable.toList = tableOf [(0, 9, 12, 24)] := vx_table (x := y_L_bitAt) B (hts _ List.mem_cons_self)
  have hPc := tlP hP
  have hKc := tlK hK
  refine vx_calli (vx_runV (As := [.int p0]) (rest := [.int 0, .ref oo]) ⟨hx, hb, hml, hown, hg⟩ hM (cwV 1 hg (gV gw_397 gw_398 gw_399 gw_1 gw_400) rfl rfl rfl (by decide +kernel) ⟨by decide, by decide⟩) ⟨fun a U g mk q => by obtain ⟨q0, qP, qK, qX, qY⟩ := q; exact ⟨q0, qP, va_K.moved (u := U) (U := U.calling g mk a) (Vm.Alike.refl U.vm) qK, qX.blind, qY.blind⟩, va_recv hKc hPc (ci := 4) (q0 := 0) rfl rfl, fun U hU hW => ⟨rfl, by rw [hU]; exact hPc, va_K.moved hW.alike hKc, hE.call hS (fun _ z => z.elim) hU hW, hEX.call hS (fun _ z => z.elim) hU hW⟩⟩ rfl rfl hl.1 rfl (lv_room (Nat.le_of_ble_eq_true rfl)) d_L_bitAt_4 ⟨Nat.le_of_ble_eq_true rfl, Nat.le_of_ble_eq_true rfl⟩) hS (fun _ _ z => z.elim) (fun _ z => z.elim) (fun _ _ z => z.elim) (fun E ce q9 u t H1 locs1 ht hvm _ hE0 hz hk hS hcell hv hcl => ?_) (fun _ _ _ _ _ _ _ z => z.elim)
  subst hE0
  have hP1 : va_P D CLS ((oo, .inl (cL, 1, .inr (.inl fo))) :: (x, .inr (4, fs)) :: T0) H1 := fun k q h => (hP k q h).kept (hk q.1 (hP k q h).lt (fun z => z))
  refine vx_catch (pc := 4) hown [] (⟨0, 9, 12, 24⟩ : ExceptionTableEntry) [] htb (fun z hz => by cases hz) (by decide) (by decide) (hg _ gw_338) (va_Nw.use rfl hEC.2.2.1) hcell hv hcl ?_
  refine lv_astore_n (lv' := [(3, .ref q9), (0, .ref x), (1, .int p0), (2, .ref oo)]) hx hb d_L_bitAt_12 rfl hl (by decide) rfl (fun ls hl => ?_)
  refine lv_iconst (v := 1) hx hb d_L_bitAt_13 (by decide) ?_
  exact W.iret (v := 1) hx hb hr (fun t ht hW => ⟨rfl, by rw [ht]; exact hP1, (hAe ▸ hS).F ht⟩) (hAe ▸ hS).2.2 d_L_bitAt_14
set_option maxHeartbeats 4000000 in
set_option maxRecDepth 100000 in
theorem k_feed (l : Launch) (D : va_G) (tw : Nat) (sa : Nat → Nat) (x oo : Nat) (fs : List Value) (T0 : va_W) (tys : List (ClassId × FieldType)) (cL : ClassId) (fo : Nat → Int64) (p0 : Int32) (W1 : va_W) (F Lc : Nat) (r : Int32) (hF : F ≤ 7) (hLc : Lc ≤ 120) (hadr : W1.map (·.1) = ((x, .inr (4, fs)) :: T0).map (·.1)) (hM : Met l y_X_feed (WSY y_X_feed b_X_feed 2 (some .boolean)) ({ frames := F, cells := 0, slots := 0, locals := Lc }) (va_Pc [.ref x, .int p0] (PE D tw ((x, .inr (4, fs)) :: T0) tys)) (QM (some (.int r)) ((x, .inr (4, fs)) :: T0) W1 D) 0 0 (ad ((x, .inr (4, fs)) :: T0))) : Met l y_L_feed (WSH y_L_feed b_L_feed 4 (some .int) [(0, 16, 19, 13)]) ({ frames := 8, cells := 1, slots := 6, locals := 160 }) (va_Pc [.ref x, .int p0, .ref oo] (PL D tw sa ((oo, .inl (cL, 1, .inr (.inl fo))) :: (x, .inr (4, fs)) :: T0) ((cL, .long) :: tys))) (QM (some (.int 0)) ((oo, .inl (cL, 1, .inr (.inl fo))) :: (x, .inr (4, fs)) :: T0) ((oo, .inl (cL, 1, .inr (.inl (vp_updL fo 0 (if r = 0 then 0 else 1))))) :: W1) D) 1 6 (ad ((oo, .inl (cL, 1, .inr (.inl fo))) :: (x, .inr (4, fs)) :: T0)) := by
  refine va_MetW (cc := b_L_feed) (maxL := 4) (ret := (some .int)) (hh := [(0, 16, 19, 13)]) (by decide) rfl ?_
  intro p e s m args below meth c s₁ B hml hv
  obtain ⟨rfl, hP, hK, hD0, hE, hEX, hEC⟩ := hv
  have hx := B.exec
  have hb := B.bytes
  have hr := B.returns
  have hts := atoms_spec (ws := (WSH y_L_feed b_L_feed 4 (some .int) [(0, 16, 19, 13)])) B.pre
  have hg : ∀ w ∈ GW, w.before _ s = true := fun w h => hts w (List.mem_cons_of_mem _ h)
  have hown : s.vm.findClass "LineGolombLaw" = some m.cls := findClass_of_methodNamed B.named
  have hlocks := B.notSynchronized
  obtain ⟨A, hAe⟩ : ∃ A, A = ad ((oo, .inl (cL, 1, .inr (.inl fo))) :: (x, .inr (4, fs)) :: T0) := ⟨_, rfl⟩
  have hD : va_D A ((oo, .inl (cL, 1, .inr (.inl fo))) :: (x, .inr (4, fs)) :: T0) := by rw [hAe]; exact va_D_ad hD0
  rw [← hAe] at hE hEX
  have hS : va_S A s.heap s.heap [] := va_S.rf
  have hl := lv_entry ([.ref x, .int p0, .ref oo]) (n := 4) (Nat.le_of_ble_eq_true rfl)
  rw [lg_entry_eq]
  generalize (lg_sl ([.ref x, .int p0, .ref oo]) ++ List.replicate (4 - (lg_sl ([.ref x, .int p0, .ref oo])).length) Slot.unset).toArray = ls at hl ⊢
  have hl : lv_has ls 4 [(0, .ref x), (1, .int p0), (2, .ref oo)] := hl
  refine lv_aload_n hx hb d_L_feed_0 rfl (lv_at hl 2 rfl) ?_
  refine lv_iconst (v := 0) hx hb d_L_feed_1 (by decide) ?_
  refine lv_aload_n hx hb d_L_feed_2 rfl (lv_at hl 0 rfl) ?_
  refine lv_iload_n hx hb d_L_feed_3 rfl (lv_at hl 1 rfl) ?_
  have hPc := tlP hP
  have hKc := tlK hK
  have hDc := tlD hD
  refine mti (va_runV (As := [.int p0]) (rest := [.int 0, .ref oo]) ⟨hx, hb, hml, hown, hg⟩ hM (cwV 1 hg (gV gw_409 gw_410 gw_411 gw_1 gw_412) rfl rfl rfl (by decide +kernel) ⟨by show F + 1 ≤ 8; omega, by show 8 + (2 + 11) + Lc ≤ 160; omega⟩) ⟨fun a U g mk q => by obtain ⟨q0, qP, qK, qD, qX⟩ := q; exact ⟨q0, qP, va_K.moved (u := U) (U := U.calling g mk a) (Vm.Alike.refl U.vm) qK, qD, qX.blind⟩, va_recv hKc hPc (ci := 4) (q0 := 0) rfl rfl, fun U hU hW => ⟨rfl, by rw [hU]; exact hPc, va_K.moved hW.alike hKc, hDc.weaken (fun _ _ _ _ => trivial), hE.call hS (adD hDc) hU hW⟩⟩ rfl rfl hl.1 rfl (lv_room (Nat.le_of_ble_eq_true rfl)) d_L_feed_4 ⟨Nat.zero_le _, Nat.zero_le _⟩) hS hP hD hadr (fun H locs hP hD hS => ?_)
  refine lv_if_eq (tgt := 14) hx hb d_L_feed_7 (by decide) (fun c_1 => ?_) (fun c_1 => ?_)
  · skip
    have hr0 : (if r = 0 then (0 : Int64) else 1) = 0 := if_pos c_1
    refine lv_lconst (v := 0) hx hb d_L_feed_14 (by decide) ?_
    refine va_last (x := 0) hx hb hK hP hD hS 0 0 rfl rfl (vp_in_nI (n := 0) (by decide) (by decide)) d_L_feed_15 (fun H locs hP hD hS => ?_)
    refine lv_goto (tgt := 22) hx hb d_L_feed_16 (by decide) ?_
    refine lv_iconst (v := 0) hx hb d_L_feed_22 (by decide) ?_
    refine W.widen (k := 1) (n := 6) (by omega) (by omega) ?_
    exact W.iret (v := 0) hx hb hr (fun t ht hW => ⟨rfl, by rw [ht]; exact (by rw [hr0]; exact hP), (hAe ▸ hS).F ht⟩) (hAe ▸ hS).2.2 d_L_feed_23
  · skip
    have hr0 : (if r = 0 then (0 : Int64) else 1) = 1 := if_neg c_1
    refine lv_lconst (v := 1) hx hb d_L_feed_10 (by decide) ?_
    refine lv_goto (tgt := 15) hx hb d_L_feed_11 (by decide) ?_
    refine va_last (x := 1) hx hb hK hP hD hS 0 0 rfl rfl (vp_in_nI (n := 0) (by decide) (by decide)) d_L_feed_15 (fun H locs hP hD hS => ?_)
    refine lv_goto (tgt := 22) hx hb d_L_feed_16 (by decide) ?_
    refine lv_iconst (v := 0) hx hb d_L_feed_22 (by decide) ?_
    refine W.widen (k := 1) (n := 6) (by omega) (by omega) ?_
    exact W.iret (v := 0) hx hb hr (fun t ht hW => ⟨rfl, by rw [ht]; exact (by rw [hr0]; exact hP), (hAe ▸ hS).F ht⟩) (hAe ▸ hS).2.2 d_L_feed_23
set_option maxHeartbeats 4000000 in
set_option maxRecDepth 100000 in
theorem kx_feed_A (l : Launch) (D : va_G) (tw : Nat) (sa : Nat → Nat) (x oo : Nat) (fs : List Value) (T0 : va_W) (tys : List (ClassId × FieldType)) (cL : ClassId) (fo : Nat → Int64) (p0 : Int32) (hM : vx_Met l y_X_feed (WSY y_X_feed b_X_feed 2 (some .boolean)) ({ frames := 6, cells := 1, slots := 6, locals := 110 }) (va_Pc [.ref x, .int p0] (PT D tw sa ((x, .inr (4, fs)) :: T0) tys)) QT (XT "java/lang/IllegalArgumentException") 1 6 (fun _ => False)) : Met l y_L_feed (WSH y_L_feed b_L_feed 4 (some .int) [(0, 16, 19, 13)]) ({ frames := 8, cells := 1, slots := 6, locals := 160 }) (va_Pc [.ref x, .int p0, .ref oo] (PL D tw sa ((oo, .inl (cL, 1, .inr (.inl fo))) :: (x, .inr (4, fs)) :: T0) ((cL, .long) :: tys))) (QM (some (.int 1)) ((oo, .inl (cL, 1, .inr (.inl fo))) :: (x, .inr (4, fs)) :: T0) ((oo, .inl (cL, 1, .inr (.inl fo))) :: (x, .inr (4, fs)) :: T0) D) 1 6 (ad ((oo, .inl (cL, 1, .inr (.inl fo))) :: (x, .inr (4, fs)) :: T0)) := by
  refine va_MetW (cc := b_L_feed) (maxL := 4) (ret := (some .int)) (hh := [(0, 16, 19, 13)]) (by decide) rfl ?_
  intro p e s m args below meth c s₁ B hml hv
  obtain ⟨rfl, hP, hK, hD0, hE, hEX, hEC⟩ := hv
  have hx := B.exec
  have hb := B.bytes
  have hr := B.returns
  have hts := atoms_spec (ws := (WSH y_L_feed b_L_feed 4 (some .int) [(0, 16, 19, 13)])) B.pre
  have hg : ∀ w ∈ GW, w.before _ s = true := fun w h => hts w (List.mem_cons_of_mem _ h)
  have hown : s.vm.findClass "LineGolombLaw" = some m.cls := findClass_of_methodNamed B.named
  have hlocks := B.notSynchronized
  obtain ⟨A, hAe⟩ : ∃ A, A = ad ((oo, .inl (cL, 1, .inr (.inl fo))) :: (x, .inr (4, fs)) :: T0) := ⟨_, rfl⟩
  have hD : va_D A ((oo, .inl (cL, 1, .inr (.inl fo))) :: (x, .inr (4, fs)) :: T0) := by rw [hAe]; exact va_D_ad hD0
  rw [← hAe] at hE hEX
  have hS : va_S A s.heap s.heap [] := va_S.rf
  have hl := lv_entry ([.ref x, .int p0, .ref oo]) (n := 4) (Nat.le_of_ble_eq_true rfl)
  rw [lg_entry_eq]
  generalize (lg_sl ([.ref x, .int p0, .ref oo]) ++ List.replicate (4 - (lg_sl ([.ref x, .int p0, .ref oo])).length) Slot.unset).toArray = ls at hl ⊢
  have hl : lv_has ls 4 [(0, .ref x), (1, .int p0), (2, .ref oo)] := hl
  refine lv_aload_n hx hb d_L_feed_0 rfl (lv_at hl 2 rfl) ?_
  refine lv_iconst (v := 0) hx hb d_L_feed_1 (by decide) ?_
  refine lv_aload_n hx hb d_L_feed_2 rfl (lv_at hl 0 rfl) ?_
  refine lv_iload_n hx hb d_L_feed_3 rfl (lv_at hl 1 rfl) ?_
  have htb : c.exceptionTable.toList = tableOf [(0, 16, 19, 13)] := vx_table (x := y_L_feed) B (hts _ List.mem_cons_self)
  have hPc := tlP hP
  have hKc := tlK hK
  refine vx_calli (vx_runV (As := [.int p0]) (rest := [.int 0, .ref oo]) ⟨hx, hb, hml, hown, hg⟩ hM (cwV 1 hg (gV gw_409 gw_410 gw_411 gw_1 gw_412) rfl rfl rfl (by decide +kernel) ⟨by decide, by decide⟩) ⟨fun a U g mk q => by obtain ⟨q0, qP, qK, qX, qY⟩ := q; exact ⟨q0, qP, va_K.moved (u := U) (U := U.calling g mk a) (Vm.Alike.refl U.vm) qK, qX.blind, qY.blind⟩, va_recv hKc hPc (ci := 4) (q0 := 0) rfl rfl, fun U hU hW => ⟨rfl, by rw [hU]; exact hPc, va_K.moved hW.alike hKc, hE.call hS (fun _ z => z.elim) hU hW, hEX.call hS (fun _ z => z.elim) hU hW⟩⟩ rfl rfl hl.1 rfl (lv_room (Nat.le_of_ble_eq_true rfl)) d_L_feed_4 ⟨Nat.le_of_ble_eq_true rfl, Nat.le_of_ble_eq_true rfl⟩) hS (fun _ _ z => z.elim) (fun _ z => z.elim) (fun _ _ z => z.elim) (fun E ce q9 u t H1 locs1 ht hvm _ hE0 hz hk hS hcell hv hcl => ?_) (fun _ _ _ _ _ _ _ z => z.elim)
  subst hE0
  have hP1 : va_P D CLS ((oo, .inl (cL, 1, .inr (.inl fo))) :: (x, .inr (4, fs)) :: T0) H1 := fun k q h => (hP k q h).kept (hk q.1 (hP k q h).lt (fun z => z))
  refine vx_catch (pc := 4) hown [] (⟨0, 16, 19, 13⟩ : ExceptionTableEntry) [] htb (fun z hz => by cases hz) (by decide) (by decide) (hg _ gw_195) (va_Nw.use rfl hEC.1) hcell hv hcl ?_
  refine lv_astore_n (lv' := [(3, .ref q9), (0, .ref x), (1, .int p0), (2, .ref oo)]) hx hb d_L_feed_19 rfl hl (by decide) rfl (fun ls hl => ?_)
  refine lv_iconst (v := 1) hx hb d_L_feed_20 (by decide) ?_
  exact W.iret (v := 1) hx hb hr (fun t ht hW => ⟨rfl, by rw [ht]; exact hP1, (hAe ▸ hS).F ht⟩) (hAe ▸ hS).2.2 d_L_feed_21
set_option maxHeartbeats 4000000 in
set_option maxRecDepth 100000 in
theorem k_pass (l : Launch) (D : va_G) (tw : Nat) (sa : Nat → Nat) (x oo : Nat) (fs : List Value) (T0 : va_W) (tys : List (ClassId × FieldType)) (cL : ClassId) (fo : Nat → Int64) (p0 p1 : Int32) (W1 : va_W) (F Lc : Nat) (r : Int32) (hF : F ≤ 7) (hLc : Lc ≤ 120) (hadr : W1.map (·.1) = ((x, .inr (4, fs)) :: T0).map (·.1)) (hM : Met l y_X_pass (WSY y_X_pass b_X_pass 5 (some .int)) ({ frames := F, cells := 0, slots := 0, locals := Lc }) (va_Pc [.ref x, .int p0, .int p1] (PE D tw ((x, .inr (4, fs)) :: T0) tys)) (QM (some (.int r)) ((x, .inr (4, fs)) :: T0) W1 D) 0 0 (ad ((x, .inr (4, fs)) :: T0))) : Met l y_L_pass (WSH y_L_pass b_L_pass 5 (some .int) [(0, 10, 13, 24), (0, 10, 17, 13)]) ({ frames := 8, cells := 1, slots := 6, locals := 160 }) (va_Pc [.ref x, .int p0, .int p1, .ref oo] (PL D tw sa ((oo, .inl (cL, 1, .inr (.inl fo))) :: (x, .inr (4, fs)) :: T0) ((cL, .long) :: tys))) (QM (some (.int 0)) ((oo, .inl (cL, 1, .inr (.inl fo))) :: (x, .inr (4, fs)) :: T0) ((oo, .inl (cL, 1, .inr (.inl (vp_updL fo 0 r.toInt64)))) :: W1) D) 1 6 (ad ((oo, .inl (cL, 1, .inr (.inl fo))) :: (x, .inr (4, fs)) :: T0)) := by
  refine va_MetW (cc := b_L_pass) (maxL := 5) (ret := (some .int)) (hh := [(0, 10, 13, 24), (0, 10, 17, 13)]) (by decide) rfl ?_
  intro p e s m args below meth c s₁ B hml hv
  obtain ⟨rfl, hP, hK, hD0, hE, hEX, hEC⟩ := hv
  have hx := B.exec
  have hb := B.bytes
  have hr := B.returns
  have hts := atoms_spec (ws := (WSH y_L_pass b_L_pass 5 (some .int) [(0, 10, 13, 24), (0, 10, 17, 13)])) B.pre
  have hg : ∀ w ∈ GW, w.before _ s = true := fun w h => hts w (List.mem_cons_of_mem _ h)
  have hown : s.vm.findClass "LineGolombLaw" = some m.cls := findClass_of_methodNamed B.named
  have hlocks := B.notSynchronized
  obtain ⟨A, hAe⟩ : ∃ A, A = ad ((oo, .inl (cL, 1, .inr (.inl fo))) :: (x, .inr (4, fs)) :: T0) := ⟨_, rfl⟩
  have hD : va_D A ((oo, .inl (cL, 1, .inr (.inl fo))) :: (x, .inr (4, fs)) :: T0) := by rw [hAe]; exact va_D_ad hD0
  rw [← hAe] at hE hEX
  have hS : va_S A s.heap s.heap [] := va_S.rf
  have hl := lv_entry ([.ref x, .int p0, .int p1, .ref oo]) (n := 5) (Nat.le_of_ble_eq_true rfl)
  rw [lg_entry_eq]
  generalize (lg_sl ([.ref x, .int p0, .int p1, .ref oo]) ++ List.replicate (5 - (lg_sl ([.ref x, .int p0, .int p1, .ref oo])).length) Slot.unset).toArray = ls at hl ⊢
  have hl : lv_has ls 5 [(0, .ref x), (1, .int p0), (2, .int p1), (3, .ref oo)] := hl
  refine lv_aload_n hx hb d_L_pass_0 rfl (lv_at hl 3 rfl) ?_
  refine lv_iconst (v := 0) hx hb d_L_pass_1 (by decide) ?_
  refine lv_aload_n hx hb d_L_pass_2 rfl (lv_at hl 0 rfl) ?_
  refine lv_iload_n hx hb d_L_pass_3 rfl (lv_at hl 1 rfl) ?_
  refine lv_iload_n hx hb d_L_pass_4 rfl (lv_at hl 2 rfl) ?_
  have hPc := tlP hP
  have hKc := tlK hK
  have hDc := tlD hD
  refine mti (va_runV (As := [.int p0, .int p1]) (rest := [.int 0, .ref oo]) ⟨hx, hb, hml, hown, hg⟩ hM (cwV 2 hg (gV gw_421 gw_422 gw_423 gw_1 gw_424) rfl rfl rfl (by decide +kernel) ⟨by show F + 1 ≤ 8; omega, by show 8 + (5 + 11) + Lc ≤ 160; omega⟩) ⟨fun a U g mk q => by obtain ⟨q0, qP, qK, qD, qX⟩ := q; exact ⟨q0, qP, va_K.moved (u := U) (U := U.calling g mk a) (Vm.Alike.refl U.vm) qK, qD, qX.blind⟩, va_recv hKc hPc (ci := 4) (q0 := 0) rfl rfl, fun U hU hW => ⟨rfl, by rw [hU]; exact hPc, va_K.moved hW.alike hKc, hDc.weaken (fun _ _ _ _ => trivial), hE.call hS (adD hDc) hU hW⟩⟩ rfl rfl hl.1 rfl (lv_room (Nat.le_of_ble_eq_true rfl)) d_L_pass_5 ⟨Nat.zero_le _, Nat.zero_le _⟩) hS hP hD hadr (fun H locs hP hD hS => ?_)
  refine lv_i2l (v := r.toInt64) hx hb d_L_pass_8 (rfl) ?_
  refine va_last (x := r.toInt64) hx hb hK hP hD hS 0 0 rfl rfl (vp_in_nI (n := 0) (by decide) (by decide)) d_L_pass_9 (fun H locs hP hD hS => ?_)
  refine lv_goto (tgt := 21) hx hb d_L_pass_10 (by decide) ?_
  refine lv_iconst (v := 0) hx hb d_L_pass_21 (by decide) ?_
  refine W.widen (k := 1) (n := 6) (by omega) (by omega) ?_
  exact W.iret (v := 0) hx hb hr (fun t ht hW => ⟨rfl, by rw [ht]; exact hP, (hAe ▸ hS).F ht⟩) (hAe ▸ hS).2.2 d_L_pass_22
set_option maxHeartbeats 4000000 in
set_option maxRecDepth 100000 in
theorem kx_pass_I (l : Launch) (D : va_G) (tw : Nat) (sa : Nat → Nat) (x oo : Nat) (fs : List Value) (T0 : va_W) (tys : List (ClassId × FieldType)) (cL : ClassId) (fo : Nat → Int64) (p0 p1 : Int32) (hM : vx_Met l y_X_pass (WSY y_X_pass b_X_pass 5 (some .int)) ({ frames := 6, cells := 1, slots := 6, locals := 110 }) (va_Pc [.ref x, .int p0, .int p1] (PT D tw sa ((x, .inr (4, fs)) :: T0) tys)) QT (XT "java/lang/IndexOutOfBoundsException") 1 6 (fun _ => False)) : Met l y_L_pass (WSH y_L_pass b_L_pass 5 (some .int) [(0, 10, 13, 24), (0, 10, 17, 13)]) ({ frames := 8, cells := 1, slots := 6, locals := 160 }) (va_Pc [.ref x, .int p0, .int p1, .ref oo] (PL D tw sa ((oo, .inl (cL, 1, .inr (.inl fo))) :: (x, .inr (4, fs)) :: T0) ((cL, .long) :: tys))) (QM (some (.int 1)) ((oo, .inl (cL, 1, .inr (.inl fo))) :: (x, .inr (4, fs)) :: T0) ((oo, .inl (cL, 1, .inr (.inl fo))) :: (x, .inr (4, fs)) :: T0) D) 1 6 (ad ((oo, .inl (cL, 1, .inr (.inl fo))) :: (x, .inr (4, fs)) :: T0)) := by
  refine va_MetW (cc := b_L_pass) (maxL := 5) (ret := (some .int)) (hh := [(0, 10, 13, 24), (0, 10, 17, 13)]) (by decide) rfl ?_
  intro p e s m args below meth c s₁ B hml hv
  obtain ⟨rfl, hP, hK, hD0, hE, hEX, hEC⟩ := hv
  have hx := B.exec
  have hb := B.bytes
  have hr := B.returns
  have hts := atoms_spec (ws := (WSH y_L_pass b_L_pass 5 (some .int) [(0, 10, 13, 24), (0, 10, 17, 13)])) B.pre
  have hg : ∀ w ∈ GW, w.before _ s = true := fun w h => hts w (List.mem_cons_of_mem _ h)
  have hown : s.vm.findClass "LineGolombLaw" = some m.cls := findClass_of_methodNamed B.named
  have hlocks := B.notSynchronized
  obtain ⟨A, hAe⟩ : ∃ A, A = ad ((oo, .inl (cL, 1, .inr (.inl fo))) :: (x, .inr (4, fs)) :: T0) := ⟨_, rfl⟩
  have hD : va_D A ((oo, .inl (cL, 1, .inr (.inl fo))) :: (x, .inr (4, fs)) :: T0) := by rw [hAe]; exact va_D_ad hD0
  rw [← hAe] at hE hEX
  have hS : va_S A s.heap s.heap [] := va_S.rf
  have hl := lv_entry ([.ref x, .int p0, .int p1, .ref oo]) (n := 5) (Nat.le_of_ble_eq_true rfl)
  rw [lg_entry_eq]
  generalize (lg_sl ([.ref x, .int p0, .int p1, .ref oo]) ++ List.replicate (5 - (lg_sl ([.ref x, .int p0, .int p1, .ref oo])).length) Slot.unset).toArray = ls at hl ⊢
  have hl : lv_has ls 5 [(0, .ref x), (1, .int p0), (2, .int p1), (3, .ref oo)] := hl
  refine lv_aload_n hx hb d_L_pass_0 rfl (lv_at hl 3 rfl) ?_
  refine lv_iconst (v := 0) hx hb d_L_pass_1 (by decide) ?_
  refine lv_aload_n hx hb d_L_pass_2 rfl (lv_at hl 0 rfl) ?_
  refine lv_iload_n hx hb d_L_pass_3 rfl (lv_at hl 1 rfl) ?_
  refine lv_iload_n hx hb d_L_pass_4 rfl (lv_at hl 2 rfl) ?_
  have htb : c.exceptionTable.toList = tableOf [(0, 10, 13, 24), (0, 10, 17, 13)] := vx_table (x := y_L_pass) B (hts _ List.mem_cons_self)
  have hPc := tlP hP
  have hKc := tlK hK
  refine vx_calli (vx_runV (As := [.int p0, .int p1]) (rest := [.int 0, .ref oo]) ⟨hx, hb, hml, hown, hg⟩ hM (cwV 2 hg (gV gw_421 gw_422 gw_423 gw_1 gw_424) rfl rfl rfl (by decide +kernel) ⟨by decide, by decide⟩) ⟨fun a U g mk q => by obtain ⟨q0, qP, qK, qX, qY⟩ := q; exact ⟨q0, qP, va_K.moved (u := U) (U := U.calling g mk a) (Vm.Alike.refl U.vm) qK, qX.blind, qY.blind⟩, va_recv hKc hPc (ci := 4) (q0 := 0) rfl rfl, fun U hU hW => ⟨rfl, by rw [hU]; exact hPc, va_K.moved hW.alike hKc, hE.call hS (fun _ z => z.elim) hU hW, hEX.call hS (fun _ z => z.elim) hU hW⟩⟩ rfl rfl hl.1 rfl (lv_room (Nat.le_of_ble_eq_true rfl)) d_L_pass_5 ⟨Nat.le_of_ble_eq_true rfl, Nat.le_of_ble_eq_true rfl⟩) hS (fun _ _ z => z.elim) (fun _ z => z.elim) (fun _ _ z => z.elim) (fun E ce q9 u t H1 locs1 ht hvm _ hE0 hz hk hS hcell hv hcl => ?_) (fun _ _ _ _ _ _ _ z => z.elim)
  subst hE0
  have hP1 : va_P D CLS ((oo, .inl (cL, 1, .inr (.inl fo))) :: (x, .inr (4, fs)) :: T0) H1 := fun k q h => (hP k q h).kept (hk q.1 (hP k q h).lt (fun z => z))
  refine vx_catch (pc := 5) hown [] (⟨0, 10, 13, 24⟩ : ExceptionTableEntry) [(⟨0, 10, 17, 13⟩ : ExceptionTableEntry)] htb (fun z hz => by cases hz) (by decide) (by decide) (hg _ gw_338) (va_Nw.use rfl hEC.2.2.1) hcell hv hcl ?_
  refine lv_astore (lv' := [(4, .ref q9), (0, .ref x), (1, .int p0), (2, .int p1), (3, .ref oo)]) hx hb d_L_pass_13 hl (by decide) rfl (fun ls hl => ?_)
  refine lv_iconst (v := 1) hx hb d_L_pass_15 (by decide) ?_
  exact W.iret (v := 1) hx hb hr (fun t ht hW => ⟨rfl, by rw [ht]; exact hP1, (hAe ▸ hS).F ht⟩) (hAe ▸ hS).2.2 d_L_pass_16
set_option maxHeartbeats 4000000 in
set_option maxRecDepth 100000 in
theorem kx_pass_A (l : Launch) (D : va_G) (tw : Nat) (sa : Nat → Nat) (x oo : Nat) (fs : List Value) (T0 : va_W) (tys : List (ClassId × FieldType)) (cL : ClassId) (fo : Nat → Int64) (p0 p1 : Int32) (hM : vx_Met l y_X_pass (WSY y_X_pass b_X_pass 5 (some .int)) ({ frames := 6, cells := 1, slots := 6, locals := 110 }) (va_Pc [.ref x, .int p0, .int p1] (PT D tw sa ((x, .inr (4, fs)) :: T0) tys)) QT (XT "java/lang/IllegalArgumentException") 1 6 (fun _ => False)) : Met l y_L_pass (WSH y_L_pass b_L_pass 5 (some .int) [(0, 10, 13, 24), (0, 10, 17, 13)]) ({ frames := 8, cells := 1, slots := 6, locals := 160 }) (va_Pc [.ref x, .int p0, .int p1, .ref oo] (PL D tw sa ((oo, .inl (cL, 1, .inr (.inl fo))) :: (x, .inr (4, fs)) :: T0) ((cL, .long) :: tys))) (QM (some (.int 2)) ((oo, .inl (cL, 1, .inr (.inl fo))) :: (x, .inr (4, fs)) :: T0) ((oo, .inl (cL, 1, .inr (.inl fo))) :: (x, .inr (4, fs)) :: T0) D) 1 6 (ad ((oo, .inl (cL, 1, .inr (.inl fo))) :: (x, .inr (4, fs)) :: T0)) := by
  refine va_MetW (cc := b_L_pass) (maxL := 5) (ret := (some .int)) (hh := [(0, 10, 13, 24), (0, 10, 17, 13)]) (by decide) rfl ?_
  intro p e s m args below meth c s₁ B hml hv
  obtain ⟨rfl, hP, hK, hD0, hE, hEX, hEC⟩ := hv
  have hx := B.exec
  have hb := B.bytes
  have hr := B.returns
  have hts := atoms_spec (ws := (WSH y_L_pass b_L_pass 5 (some .int) [(0, 10, 13, 24), (0, 10, 17, 13)])) B.pre
  have hg : ∀ w ∈ GW, w.before _ s = true := fun w h => hts w (List.mem_cons_of_mem _ h)
  have hown : s.vm.findClass "LineGolombLaw" = some m.cls := findClass_of_methodNamed B.named
  have hlocks := B.notSynchronized
  obtain ⟨A, hAe⟩ : ∃ A, A = ad ((oo, .inl (cL, 1, .inr (.inl fo))) :: (x, .inr (4, fs)) :: T0) := ⟨_, rfl⟩
  have hD : va_D A ((oo, .inl (cL, 1, .inr (.inl fo))) :: (x, .inr (4, fs)) :: T0) := by rw [hAe]; exact va_D_ad hD0
  rw [← hAe] at hE hEX
  have hS : va_S A s.heap s.heap [] := va_S.rf
  have hl := lv_entry ([.ref x, .int p0, .int p1, .ref oo]) (n := 5) (Nat.le_of_ble_eq_true rfl)
  rw [lg_entry_eq]
  generalize (lg_sl ([.ref x, .int p0, .int p1, .ref oo]) ++ List.replicate (5 - (lg_sl ([.ref x, .int p0, .int p1, .ref oo])).length) Slot.unset).toArray = ls at hl ⊢
  have hl : lv_has ls 5 [(0, .ref x), (1, .int p0), (2, .int p1), (3, .ref oo)] := hl
  refine lv_aload_n hx hb d_L_pass_0 rfl (lv_at hl 3 rfl) ?_
  refine lv_iconst (v := 0) hx hb d_L_pass_1 (by decide) ?_
  refine lv_aload_n hx hb d_L_pass_2 rfl (lv_at hl 0 rfl) ?_
  refine lv_iload_n hx hb d_L_pass_3 rfl (lv_at hl 1 rfl) ?_
  refine lv_iload_n hx hb d_L_pass_4 rfl (lv_at hl 2 rfl) ?_
  have htb : c.exceptionTable.toList = tableOf [(0, 10, 13, 24), (0, 10, 17, 13)] := vx_table (x := y_L_pass) B (hts _ List.mem_cons_self)
  have hPc := tlP hP
  have hKc := tlK hK
  refine vx_calli (vx_runV (As := [.int p0, .int p1]) (rest := [.int 0, .ref oo]) ⟨hx, hb, hml, hown, hg⟩ hM (cwV 2 hg (gV gw_421 gw_422 gw_423 gw_1 gw_424) rfl rfl rfl (by decide +kernel) ⟨by decide, by decide⟩) ⟨fun a U g mk q => by obtain ⟨q0, qP, qK, qX, qY⟩ := q; exact ⟨q0, qP, va_K.moved (u := U) (U := U.calling g mk a) (Vm.Alike.refl U.vm) qK, qX.blind, qY.blind⟩, va_recv hKc hPc (ci := 4) (q0 := 0) rfl rfl, fun U hU hW => ⟨rfl, by rw [hU]; exact hPc, va_K.moved hW.alike hKc, hE.call hS (fun _ z => z.elim) hU hW, hEX.call hS (fun _ z => z.elim) hU hW⟩⟩ rfl rfl hl.1 rfl (lv_room (Nat.le_of_ble_eq_true rfl)) d_L_pass_5 ⟨Nat.le_of_ble_eq_true rfl, Nat.le_of_ble_eq_true rfl⟩) hS (fun _ _ z => z.elim) (fun _ z => z.elim) (fun _ _ z => z.elim) (fun E ce q9 u t H1 locs1 ht hvm _ hE0 hz hk hS hcell hv hcl => ?_) (fun _ _ _ _ _ _ _ z => z.elim)
  subst hE0
  have hP1 : va_P D CLS ((oo, .inl (cL, 1, .inr (.inl fo))) :: (x, .inr (4, fs)) :: T0) H1 := fun k q h => (hP k q h).kept (hk q.1 (hP k q h).lt (fun z => z))
  refine vx_catch (pc := 5) hown [(⟨0, 10, 13, 24⟩ : ExceptionTableEntry)] (⟨0, 10, 17, 13⟩ : ExceptionTableEntry) [] htb (fun z hz => by rw [List.mem_singleton] at hz; subst hz; exact Or.inr ⟨by decide, _, hg _ gw_338, hEC.2.2.2.2.1⟩) (by decide) (by decide) (hg _ gw_195) (va_Nw.use rfl hEC.1) hcell hv hcl ?_
  refine lv_astore (lv' := [(4, .ref q9), (0, .ref x), (1, .int p0), (2, .int p1), (3, .ref oo)]) hx hb d_L_pass_17 hl (by decide) rfl (fun ls hl => ?_)
  refine lv_iconst (v := 2) hx hb d_L_pass_19 (by decide) ?_
  exact W.iret (v := 2) hx hb hr (fun t ht hW => ⟨rfl, by rw [ht]; exact hP1, (hAe ▸ hS).F ht⟩) (hAe ▸ hS).2.2 d_L_pass_20
set_option maxHeartbeats 4000000 in
set_option maxRecDepth 100000 in
theorem k_read (l : Launch) (D : va_G) (tw : Nat) (sa : Nat → Nat) (x oo : Nat) (fs : List Value) (T0 : va_W) (tys : List (ClassId × FieldType)) (cL : ClassId) (fo : Nat → Int64) (p0 : Int32) (W1 : va_W) (F Lc : Nat) (r : Int32) (hF : F ≤ 7) (hLc : Lc ≤ 120) (hadr : W1.map (·.1) = ((x, .inr (4, fs)) :: T0).map (·.1)) (hM : Met l y_X_read (WSY y_X_read b_X_read 2 (some .int)) ({ frames := F, cells := 0, slots := 0, locals := Lc }) (va_Pc [.ref x, .int p0] (PE D tw ((x, .inr (4, fs)) :: T0) tys)) (QM (some (.int r)) ((x, .inr (4, fs)) :: T0) W1 D) 0 0 (ad ((x, .inr (4, fs)) :: T0))) : Met l y_L_read (WSH y_L_read b_L_read 4 (some .int) [(0, 9, 12, 13)]) ({ frames := 8, cells := 1, slots := 6, locals := 160 }) (va_Pc [.ref x, .int p0, .ref oo] (PL D tw sa ((oo, .inl (cL, 1, .inr (.inl fo))) :: (x, .inr (4, fs)) :: T0) ((cL, .long) :: tys))) (QM (some (.int 0)) ((oo, .inl (cL, 1, .inr (.inl fo))) :: (x, .inr (4, fs)) :: T0) ((oo, .inl (cL, 1, .inr (.inl (vp_updL fo 0 r.toInt64)))) :: W1) D) 1 6 (ad ((oo, .inl (cL, 1, .inr (.inl fo))) :: (x, .inr (4, fs)) :: T0)) := by
  refine va_MetW (cc := b_L_read) (maxL := 4) (ret := (some .int)) (hh := [(0, 9, 12, 13)]) (by decide) rfl ?_
  intro p e s m args below meth c s₁ B hml hv
  obtain ⟨rfl, hP, hK, hD0, hE, hEX, hEC⟩ := hv
  have hx := B.exec
  have hb := B.bytes
  have hr := B.returns
  have hts := atoms_spec (ws := (WSH y_L_read b_L_read 4 (some .int) [(0, 9, 12, 13)])) B.pre
  have hg : ∀ w ∈ GW, w.before _ s = true := fun w h => hts w (List.mem_cons_of_mem _ h)
  have hown : s.vm.findClass "LineGolombLaw" = some m.cls := findClass_of_methodNamed B.named
  have hlocks := B.notSynchronized
  obtain ⟨A, hAe⟩ : ∃ A, A = ad ((oo, .inl (cL, 1, .inr (.inl fo))) :: (x, .inr (4, fs)) :: T0) := ⟨_, rfl⟩
  have hD : va_D A ((oo, .inl (cL, 1, .inr (.inl fo))) :: (x, .inr (4, fs)) :: T0) := by rw [hAe]; exact va_D_ad hD0
  rw [← hAe] at hE hEX
  have hS : va_S A s.heap s.heap [] := va_S.rf
  have hl := lv_entry ([.ref x, .int p0, .ref oo]) (n := 4) (Nat.le_of_ble_eq_true rfl)
  rw [lg_entry_eq]
  generalize (lg_sl ([.ref x, .int p0, .ref oo]) ++ List.replicate (4 - (lg_sl ([.ref x, .int p0, .ref oo])).length) Slot.unset).toArray = ls at hl ⊢
  have hl : lv_has ls 4 [(0, .ref x), (1, .int p0), (2, .ref oo)] := hl
  refine lv_aload_n hx hb d_L_read_0 rfl (lv_at hl 2 rfl) ?_
  refine lv_iconst (v := 0) hx hb d_L_read_1 (by decide) ?_
  refine lv_aload_n hx hb d_L_read_2 rfl (lv_at hl 0 rfl) ?_
  refine lv_iload_n hx hb d_L_read_3 rfl (lv_at hl 1 rfl) ?_
  have hPc := tlP hP
  have hKc := tlK hK
  have hDc := tlD hD
  refine mti (va_runV (As := [.int p0]) (rest := [.int 0, .ref oo]) ⟨hx, hb, hml, hown, hg⟩ hM (cwV 1 hg (gV gw_433 gw_434 gw_435 gw_1 gw_436) rfl rfl rfl (by decide +kernel) ⟨by show F + 1 ≤ 8; omega, by show 8 + (2 + 11) + Lc ≤ 160; omega⟩) ⟨fun a U g mk q => by obtain ⟨q0, qP, qK, qD, qX⟩ := q; exact ⟨q0, qP, va_K.moved (u := U) (U := U.calling g mk a) (Vm.Alike.refl U.vm) qK, qD, qX.blind⟩, va_recv hKc hPc (ci := 4) (q0 := 0) rfl rfl, fun U hU hW => ⟨rfl, by rw [hU]; exact hPc, va_K.moved hW.alike hKc, hDc.weaken (fun _ _ _ _ => trivial), hE.call hS (adD hDc) hU hW⟩⟩ rfl rfl hl.1 rfl (lv_room (Nat.le_of_ble_eq_true rfl)) d_L_read_4 ⟨Nat.zero_le _, Nat.zero_le _⟩) hS hP hD hadr (fun H locs hP hD hS => ?_)
  refine lv_i2l (v := r.toInt64) hx hb d_L_read_7 (rfl) ?_
  refine va_last (x := r.toInt64) hx hb hK hP hD hS 0 0 rfl rfl (vp_in_nI (n := 0) (by decide) (by decide)) d_L_read_8 (fun H locs hP hD hS => ?_)
  refine lv_goto (tgt := 15) hx hb d_L_read_9 (by decide) ?_
  refine lv_iconst (v := 0) hx hb d_L_read_15 (by decide) ?_
  refine W.widen (k := 1) (n := 6) (by omega) (by omega) ?_
  exact W.iret (v := 0) hx hb hr (fun t ht hW => ⟨rfl, by rw [ht]; exact hP, (hAe ▸ hS).F ht⟩) (hAe ▸ hS).2.2 d_L_read_16
set_option maxHeartbeats 4000000 in
set_option maxRecDepth 100000 in
theorem kx_read_A (l : Launch) (D : va_G) (tw : Nat) (sa : Nat → Nat) (x oo : Nat) (fs : List Value) (T0 : va_W) (tys : List (ClassId × FieldType)) (cL : ClassId) (fo : Nat → Int64) (p0 : Int32) (hM : vx_Met l y_X_read (WSY y_X_read b_X_read 2 (some .int)) ({ frames := 6, cells := 1, slots := 6, locals := 110 }) (va_Pc [.ref x, .int p0] (PT D tw sa ((x, .inr (4, fs)) :: T0) tys)) QT (XT "java/lang/IllegalArgumentException") 1 6 (fun _ => False)) : Met l y_L_read (WSH y_L_read b_L_read 4 (some .int) [(0, 9, 12, 13)]) ({ frames := 8, cells := 1, slots := 6, locals := 160 }) (va_Pc [.ref x, .int p0, .ref oo] (PL D tw sa ((oo, .inl (cL, 1, .inr (.inl fo))) :: (x, .inr (4, fs)) :: T0) ((cL, .long) :: tys))) (QM (some (.int 1)) ((oo, .inl (cL, 1, .inr (.inl fo))) :: (x, .inr (4, fs)) :: T0) ((oo, .inl (cL, 1, .inr (.inl fo))) :: (x, .inr (4, fs)) :: T0) D) 1 6 (ad ((oo, .inl (cL, 1, .inr (.inl fo))) :: (x, .inr (4, fs)) :: T0)) := by
  refine va_MetW (cc := b_L_read) (maxL := 4) (ret := (some .int)) (hh := [(0, 9, 12, 13)]) (by decide) rfl ?_
  intro p e s m args below meth c s₁ B hml hv
  obtain ⟨rfl, hP, hK, hD0, hE, hEX, hEC⟩ := hv
  have hx := B.exec
  have hb := B.bytes
  have hr := B.returns
  have hts := atoms_spec (ws := (WSH y_L_read b_L_read 4 (some .int) [(0, 9, 12, 13)])) B.pre
  have hg : ∀ w ∈ GW, w.before _ s = true := fun w h => hts w (List.mem_cons_of_mem _ h)
  have hown : s.vm.findClass "LineGolombLaw" = some m.cls := findClass_of_methodNamed B.named
  have hlocks := B.notSynchronized
  obtain ⟨A, hAe⟩ : ∃ A, A = ad ((oo, .inl (cL, 1, .inr (.inl fo))) :: (x, .inr (4, fs)) :: T0) := ⟨_, rfl⟩
  have hD : va_D A ((oo, .inl (cL, 1, .inr (.inl fo))) :: (x, .inr (4, fs)) :: T0) := by rw [hAe]; exact va_D_ad hD0
  rw [← hAe] at hE hEX
  have hS : va_S A s.heap s.heap [] := va_S.rf
  have hl := lv_entry ([.ref x, .int p0, .ref oo]) (n := 4) (Nat.le_of_ble_eq_true rfl)
  rw [lg_entry_eq]
  generalize (lg_sl ([.ref x, .int p0, .ref oo]) ++ List.replicate (4 - (lg_sl ([.ref x, .int p0, .ref oo])).length) Slot.unset).toArray = ls at hl ⊢
  have hl : lv_has ls 4 [(0, .ref x), (1, .int p0), (2, .ref oo)] := hl
  refine lv_aload_n hx hb d_L_read_0 rfl (lv_at hl 2 rfl) ?_
  refine lv_iconst (v := 0) hx hb d_L_read_1 (by decide) ?_
  refine lv_aload_n hx hb d_L_read_2 rfl (lv_at hl 0 rfl) ?_
  refine lv_iload_n hx hb d_L_read_3 rfl (lv_at hl 1 rfl) ?_
  have htb : c.exceptionTable.toList = tableOf [(0, 9, 12, 13)] := vx_table (x := y_L_read) B (hts _ List.mem_cons_self)
  have hPc := tlP hP
  have hKc := tlK hK
  refine vx_calli (vx_runV (As := [.int p0]) (rest := [.int 0, .ref oo]) ⟨hx, hb, hml, hown, hg⟩ hM (cwV 1 hg (gV gw_433 gw_434 gw_435 gw_1 gw_436) rfl rfl rfl (by decide +kernel) ⟨by decide, by decide⟩) ⟨fun a U g mk q => by obtain ⟨q0, qP, qK, qX, qY⟩ := q; exact ⟨q0, qP, va_K.moved (u := U) (U := U.calling g mk a) (Vm.Alike.refl U.vm) qK, qX.blind, qY.blind⟩, va_recv hKc hPc (ci := 4) (q0 := 0) rfl rfl, fun U hU hW => ⟨rfl, by rw [hU]; exact hPc, va_K.moved hW.alike hKc, hE.call hS (fun _ z => z.elim) hU hW, hEX.call hS (fun _ z => z.elim) hU hW⟩⟩ rfl rfl hl.1 rfl (lv_room (Nat.le_of_ble_eq_true rfl)) d_L_read_4 ⟨Nat.le_of_ble_eq_true rfl, Nat.le_of_ble_eq_true rfl⟩) hS (fun _ _ z => z.elim) (fun _ z => z.elim) (fun _ _ z => z.elim) (fun E ce q9 u t H1 locs1 ht hvm _ hE0 hz hk hS hcell hv hcl => ?_) (fun _ _ _ _ _ _ _ z => z.elim)
  subst hE0
  have hP1 : va_P D CLS ((oo, .inl (cL, 1, .inr (.inl fo))) :: (x, .inr (4, fs)) :: T0) H1 := fun k q h => (hP k q h).kept (hk q.1 (hP k q h).lt (fun z => z))
  refine vx_catch (pc := 4) hown [] (⟨0, 9, 12, 13⟩ : ExceptionTableEntry) [] htb (fun z hz => by cases hz) (by decide) (by decide) (hg _ gw_195) (va_Nw.use rfl hEC.1) hcell hv hcl ?_
  refine lv_astore_n (lv' := [(3, .ref q9), (0, .ref x), (1, .int p0), (2, .ref oo)]) hx hb d_L_read_12 rfl hl (by decide) rfl (fun ls hl => ?_)
  refine lv_iconst (v := 1) hx hb d_L_read_13 (by decide) ?_
  exact W.iret (v := 1) hx hb hr (fun t ht hW => ⟨rfl, by rw [ht]; exact hP1, (hAe ▸ hS).F ht⟩) (hAe ▸ hS).2.2 d_L_read_14
set_option maxHeartbeats 4000000 in
set_option maxRecDepth 100000 in
theorem k_readRun (l : Launch) (D : va_G) (tw : Nat) (sa : Nat → Nat) (x oo : Nat) (fs : List Value) (T0 : va_W) (tys : List (ClassId × FieldType)) (cL : ClassId) (fo : Nat → Int64) (p0 : Int32) (W1 : va_W) (F Lc : Nat) (r : Int32) (hF : F ≤ 7) (hLc : Lc ≤ 120) (hadr : W1.map (·.1) = ((x, .inr (4, fs)) :: T0).map (·.1)) (hM : Met l y_X_readRun (WSY y_X_readRun b_X_readRun 6 (some .int)) ({ frames := F, cells := 0, slots := 0, locals := Lc }) (va_Pc [.ref x, .int p0] (PE D tw ((x, .inr (4, fs)) :: T0) tys)) (QM (some (.int r)) ((x, .inr (4, fs)) :: T0) W1 D) 0 0 (ad ((x, .inr (4, fs)) :: T0))) : Met l y_L_readRun (WSH y_L_readRun b_L_readRun 4 (some .int) [(0, 9, 12, 13)]) ({ frames := 8, cells := 1, slots := 6, locals := 160 }) (va_Pc [.ref x, .int p0, .ref oo] (PL D tw sa ((oo, .inl (cL, 1, .inr (.inl fo))) :: (x, .inr (4, fs)) :: T0) ((cL, .long) :: tys))) (QM (some (.int 0)) ((oo, .inl (cL, 1, .inr (.inl fo))) :: (x, .inr (4, fs)) :: T0) ((oo, .inl (cL, 1, .inr (.inl (vp_updL fo 0 r.toInt64)))) :: W1) D) 1 6 (ad ((oo, .inl (cL, 1, .inr (.inl fo))) :: (x, .inr (4, fs)) :: T0)) := by
  refine va_MetW (cc := b_L_readRun) (maxL := 4) (ret := (some .int)) (hh := [(0, 9, 12, 13)]) (by decide) rfl ?_
  intro p e s m args below meth c s₁ B hml hv
  obtain ⟨rfl, hP, hK, hD0, hE, hEX, hEC⟩ := hv
  have hx := B.exec
  have hb := B.bytes
  have hr := B.returns
  have hts := atoms_spec (ws := (WSH y_L_readRun b_L_readRun 4 (some .int) [(0, 9, 12, 13)])) B.pre
  have hg : ∀ w ∈ GW, w.before _ s = true := fun w h => hts w (List.mem_cons_of_mem _ h)
  have hown : s.vm.findClass "LineGolombLaw" = some m.cls := findClass_of_methodNamed B.named
  have hlocks := B.notSynchronized
  obtain ⟨A, hAe⟩ : ∃ A, A = ad ((oo, .inl (cL, 1, .inr (.inl fo))) :: (x, .inr (4, fs)) :: T0) := ⟨_, rfl⟩
  have hD : va_D A ((oo, .inl (cL, 1, .inr (.inl fo))) :: (x, .inr (4, fs)) :: T0) := by rw [hAe]; exact va_D_ad hD0
  rw [← hAe] at hE hEX
  have hS : va_S A s.heap s.heap [] := va_S.rf
  have hl := lv_entry ([.ref x, .int p0, .ref oo]) (n := 4) (Nat.le_of_ble_eq_true rfl)
  rw [lg_entry_eq]
  generalize (lg_sl ([.ref x, .int p0, .ref oo]) ++ List.replicate (4 - (lg_sl ([.ref x, .int p0, .ref oo])).length) Slot.unset).toArray = ls at hl ⊢
  have hl : lv_has ls 4 [(0, .ref x), (1, .int p0), (2, .ref oo)] := hl
  refine lv_aload_n hx hb d_L_readRun_0 rfl (lv_at hl 2 rfl) ?_
  refine lv_iconst (v := 0) hx hb d_L_readRun_1 (by decide) ?_
  refine lv_aload_n hx hb d_L_readRun_2 rfl (lv_at hl 0 rfl) ?_
  refine lv_iload_n hx hb d_L_readRun_3 rfl (lv_at hl 1 rfl) ?_
  have hPc := tlP hP
  have hKc := tlK hK
  have hDc := tlD hD
  refine mti (va_runV (As := [.int p0]) (rest := [.int 0, .ref oo]) ⟨hx, hb, hml, hown, hg⟩ hM (cwV 1 hg (gV gw_456 gw_457 gw_458 gw_1 gw_459) rfl rfl rfl (by decide +kernel) ⟨by show F + 1 ≤ 8; omega, by show 8 + (6 + 11) + Lc ≤ 160; omega⟩) ⟨fun a U g mk q => by obtain ⟨q0, qP, qK, qD, qX⟩ := q; exact ⟨q0, qP, va_K.moved (u := U) (U := U.calling g mk a) (Vm.Alike.refl U.vm) qK, qD, qX.blind⟩, va_recv hKc hPc (ci := 4) (q0 := 0) rfl rfl, fun U hU hW => ⟨rfl, by rw [hU]; exact hPc, va_K.moved hW.alike hKc, hDc.weaken (fun _ _ _ _ => trivial), hE.call hS (adD hDc) hU hW⟩⟩ rfl rfl hl.1 rfl (lv_room (Nat.le_of_ble_eq_true rfl)) d_L_readRun_4 ⟨Nat.zero_le _, Nat.zero_le _⟩) hS hP hD hadr (fun H locs hP hD hS => ?_)
  refine lv_i2l (v := r.toInt64) hx hb d_L_readRun_7 (rfl) ?_
  refine va_last (x := r.toInt64) hx hb hK hP hD hS 0 0 rfl rfl (vp_in_nI (n := 0) (by decide) (by decide)) d_L_readRun_8 (fun H locs hP hD hS => ?_)
  refine lv_goto (tgt := 15) hx hb d_L_readRun_9 (by decide) ?_
  refine lv_iconst (v := 0) hx hb d_L_readRun_15 (by decide) ?_
  refine W.widen (k := 1) (n := 6) (by omega) (by omega) ?_
  exact W.iret (v := 0) hx hb hr (fun t ht hW => ⟨rfl, by rw [ht]; exact hP, (hAe ▸ hS).F ht⟩) (hAe ▸ hS).2.2 d_L_readRun_16
set_option maxHeartbeats 4000000 in
set_option maxRecDepth 100000 in
theorem kx_readRun_A (l : Launch) (D : va_G) (tw : Nat) (sa : Nat → Nat) (x oo : Nat) (fs : List Value) (T0 : va_W) (tys : List (ClassId × FieldType)) (cL : ClassId) (fo : Nat → Int64) (p0 : Int32) (hM : vx_Met l y_X_readRun (WSY y_X_readRun b_X_readRun 6 (some .int)) ({ frames := 6, cells := 1, slots := 6, locals := 110 }) (va_Pc [.ref x, .int p0] (PT D tw sa ((x, .inr (4, fs)) :: T0) tys)) QT (XT "java/lang/IllegalArgumentException") 1 6 (fun _ => False)) : Met l y_L_readRun (WSH y_L_readRun b_L_readRun 4 (some .int) [(0, 9, 12, 13)]) ({ frames := 8, cells := 1, slots := 6, locals := 160 }) (va_Pc [.ref x, .int p0, .ref oo] (PL D tw sa ((oo, .inl (cL, 1, .inr (.inl fo))) :: (x, .inr (4, fs)) :: T0) ((cL, .long) :: tys))) (QM (some (.int 1)) ((oo, .inl (cL, 1, .inr (.inl fo))) :: (x, .inr (4, fs)) :: T0) ((oo, .inl (cL, 1, .inr (.inl fo))) :: (x, .inr (4, fs)) :: T0) D) 1 6 (ad ((oo, .inl (cL, 1, .inr (.inl fo))) :: (x, .inr (4, fs)) :: T0)) := by
  refine va_MetW (cc := b_L_readRun) (maxL := 4) (ret := (some .int)) (hh := [(0, 9, 12, 13)]) (by decide) rfl ?_
  intro p e s m args below meth c s₁ B hml hv
  obtain ⟨rfl, hP, hK, hD0, hE, hEX, hEC⟩ := hv
  have hx := B.exec
  have hb := B.bytes
  have hr := B.returns
  have hts := atoms_spec (ws := (WSH y_L_readRun b_L_readRun 4 (some .int) [(0, 9, 12, 13)])) B.pre
  have hg : ∀ w ∈ GW, w.before _ s = true := fun w h => hts w (List.mem_cons_of_mem _ h)
  have hown : s.vm.findClass "LineGolombLaw" = some m.cls := findClass_of_methodNamed B.named
  have hlocks := B.notSynchronized
  obtain ⟨A, hAe⟩ : ∃ A, A = ad ((oo, .inl (cL, 1, .inr (.inl fo))) :: (x, .inr (4, fs)) :: T0) := ⟨_, rfl⟩
  have hD : va_D A ((oo, .inl (cL, 1, .inr (.inl fo))) :: (x, .inr (4, fs)) :: T0) := by rw [hAe]; exact va_D_ad hD0
  rw [← hAe] at hE hEX
  have hS : va_S A s.heap s.heap [] := va_S.rf
  have hl := lv_entry ([.ref x, .int p0, .ref oo]) (n := 4) (Nat.le_of_ble_eq_true rfl)
  rw [lg_entry_eq]
  generalize (lg_sl ([.ref x, .int p0, .ref oo]) ++ List.replicate (4 - (lg_sl ([.ref x, .int p0, .ref oo])).length) Slot.unset).toArray = ls at hl ⊢
  have hl : lv_has ls 4 [(0, .ref x), (1, .int p0), (2, .ref oo)] := hl
  refine lv_aload_n hx hb d_L_readRun_0 rfl (lv_at hl 2 rfl) ?_
  refine lv_iconst (v := 0) hx hb d_L_readRun_1 (by decide) ?_
  refine lv_aload_n hx hb d_L_readRun_2 rfl (lv_at hl 0 rfl) ?_
  refine lv_iload_n hx hb d_L_readRun_3 rfl (lv_at hl 1 rfl) ?_
  have htb : c.exceptionTable.toList = tableOf [(0, 9, 12, 13)] := vx_table (x := y_L_readRun) B (hts _ List.mem_cons_self)
  have hPc := tlP hP
  have hKc := tlK hK
  refine vx_calli (vx_runV (As := [.int p0]) (rest := [.int 0, .ref oo]) ⟨hx, hb, hml, hown, hg⟩ hM (cwV 1 hg (gV gw_456 gw_457 gw_458 gw_1 gw_459) rfl rfl rfl (by decide +kernel) ⟨by decide, by decide⟩) ⟨fun a U g mk q => by obtain ⟨q0, qP, qK, qX, qY⟩ := q; exact ⟨q0, qP, va_K.moved (u := U) (U := U.calling g mk a) (Vm.Alike.refl U.vm) qK, qX.blind, qY.blind⟩, va_recv hKc hPc (ci := 4) (q0 := 0) rfl rfl, fun U hU hW => ⟨rfl, by rw [hU]; exact hPc, va_K.moved hW.alike hKc, hE.call hS (fun _ z => z.elim) hU hW, hEX.call hS (fun _ z => z.elim) hU hW⟩⟩ rfl rfl hl.1 rfl (lv_room (Nat.le_of_ble_eq_true rfl)) d_L_readRun_4 ⟨Nat.le_of_ble_eq_true rfl, Nat.le_of_ble_eq_true rfl⟩) hS (fun _ _ z => z.elim) (fun _ z => z.elim) (fun _ _ z => z.elim) (fun E ce q9 u t H1 locs1 ht hvm _ hE0 hz hk hS hcell hv hcl => ?_) (fun _ _ _ _ _ _ _ z => z.elim)
  subst hE0
  have hP1 : va_P D CLS ((oo, .inl (cL, 1, .inr (.inl fo))) :: (x, .inr (4, fs)) :: T0) H1 := fun k q h => (hP k q h).kept (hk q.1 (hP k q h).lt (fun z => z))
  refine vx_catch (pc := 4) hown [] (⟨0, 9, 12, 13⟩ : ExceptionTableEntry) [] htb (fun z hz => by cases hz) (by decide) (by decide) (hg _ gw_195) (va_Nw.use rfl hEC.1) hcell hv hcl ?_
  refine lv_astore_n (lv' := [(3, .ref q9), (0, .ref x), (1, .int p0), (2, .ref oo)]) hx hb d_L_readRun_12 rfl hl (by decide) rfl (fun ls hl => ?_)
  refine lv_iconst (v := 1) hx hb d_L_readRun_13 (by decide) ?_
  exact W.iret (v := 1) hx hb hr (fun t ht hW => ⟨rfl, by rw [ht]; exact hP1, (hAe ▸ hS).F ht⟩) (hAe ▸ hS).2.2 d_L_readRun_14
set_option maxHeartbeats 4000000 in
set_option maxRecDepth 100000 in
theorem k_readInterrupt (l : Launch) (D : va_G) (tw : Nat) (sa : Nat → Nat) (x oo : Nat) (fs : List Value) (T0 : va_W) (tys : List (ClassId × FieldType)) (cL : ClassId) (fo : Nat → Int64) (p0 : Int32) (W1 : va_W) (F Lc : Nat) (r : Int32) (hF : F ≤ 7) (hLc : Lc ≤ 120) (hadr : W1.map (·.1) = ((x, .inr (4, fs)) :: T0).map (·.1)) (hM : Met l y_X_readInterrupt (WSY y_X_readInterrupt b_X_readInterrupt 6 (some .int)) ({ frames := F, cells := 0, slots := 0, locals := Lc }) (va_Pc [.ref x, .int p0] (PE D tw ((x, .inr (4, fs)) :: T0) tys)) (QM (some (.int r)) ((x, .inr (4, fs)) :: T0) W1 D) 0 0 (ad ((x, .inr (4, fs)) :: T0))) : Met l y_L_readInterrupt (WSH y_L_readInterrupt b_L_readInterrupt 4 (some .int) [(0, 9, 12, 24)]) ({ frames := 8, cells := 1, slots := 6, locals := 160 }) (va_Pc [.ref x, .int p0, .ref oo] (PL D tw sa ((oo, .inl (cL, 1, .inr (.inl fo))) :: (x, .inr (4, fs)) :: T0) ((cL, .long) :: tys))) (QM (some (.int 0)) ((oo, .inl (cL, 1, .inr (.inl fo))) :: (x, .inr (4, fs)) :: T0) ((oo, .inl (cL, 1, .inr (.inl (vp_updL fo 0 r.toInt64)))) :: W1) D) 1 6 (ad ((oo, .inl (cL, 1, .inr (.inl fo))) :: (x, .inr (4, fs)) :: T0)) := by
  refine va_MetW (cc := b_L_readInterrupt) (maxL := 4) (ret := (some .int)) (hh := [(0, 9, 12, 24)]) (by decide) rfl ?_
  intro p e s m args below meth c s₁ B hml hv
  obtain ⟨rfl, hP, hK, hD0, hE, hEX, hEC⟩ := hv
  have hx := B.exec
  have hb := B.bytes
  have hr := B.returns
  have hts := atoms_spec (ws := (WSH y_L_readInterrupt b_L_readInterrupt 4 (some .int) [(0, 9, 12, 24)])) B.pre
  have hg : ∀ w ∈ GW, w.before _ s = true := fun w h => hts w (List.mem_cons_of_mem _ h)
  have hown : s.vm.findClass "LineGolombLaw" = some m.cls := findClass_of_methodNamed B.named
  have hlocks := B.notSynchronized
  obtain ⟨A, hAe⟩ : ∃ A, A = ad ((oo, .inl (cL, 1, .inr (.inl fo))) :: (x, .inr (4, fs)) :: T0) := ⟨_, rfl⟩
  have hD : va_D A ((oo, .inl (cL, 1, .inr (.inl fo))) :: (x, .inr (4, fs)) :: T0) := by rw [hAe]; exact va_D_ad hD0
  rw [← hAe] at hE hEX
  have hS : va_S A s.heap s.heap [] := va_S.rf
  have hl := lv_entry ([.ref x, .int p0, .ref oo]) (n := 4) (Nat.le_of_ble_eq_true rfl)
  rw [lg_entry_eq]
  generalize (lg_sl ([.ref x, .int p0, .ref oo]) ++ List.replicate (4 - (lg_sl ([.ref x, .int p0, .ref oo])).length) Slot.unset).toArray = ls at hl ⊢
  have hl : lv_has ls 4 [(0, .ref x), (1, .int p0), (2, .ref oo)] := hl
  refine lv_aload_n hx hb d_L_readInterrupt_0 rfl (lv_at hl 2 rfl) ?_
  refine lv_iconst (v := 0) hx hb d_L_readInterrupt_1 (by decide) ?_
  refine lv_aload_n hx hb d_L_readInterrupt_2 rfl (lv_at hl 0 rfl) ?_
  refine lv_iload_n hx hb d_L_readInterrupt_3 rfl (lv_at hl 1 rfl) ?_
  have hPc := tlP hP
  have hKc := tlK hK
  have hDc := tlD hD
  refine mti (va_runV (As := [.int p0]) (rest := [.int 0, .ref oo]) ⟨hx, hb, hml, hown, hg⟩ hM (cwV 1 hg (gV gw_473 gw_474 gw_475 gw_1 gw_476) rfl rfl rfl (by decide +kernel) ⟨by show F + 1 ≤ 8; omega, by show 8 + (6 + 11) + Lc ≤ 160; omega⟩) ⟨fun a U g mk q => by obtain ⟨q0, qP, qK, qD, qX⟩ := q; exact ⟨q0, qP, va_K.moved (u := U) (U := U.calling g mk a) (Vm.Alike.refl U.vm) qK, qD, qX.blind⟩, va_recv hKc hPc (ci := 4) (q0 := 0) rfl rfl, fun U hU hW => ⟨rfl, by rw [hU]; exact hPc, va_K.moved hW.alike hKc, hDc.weaken (fun _ _ _ _ => trivial), hE.call hS (adD hDc) hU hW⟩⟩ rfl rfl hl.1 rfl (lv_room (Nat.le_of_ble_eq_true rfl)) d_L_readInterrupt_4 ⟨Nat.zero_le _, Nat.zero_le _⟩) hS hP hD hadr (fun H locs hP hD hS => ?_)
  refine lv_i2l (v := r.toInt64) hx hb d_L_readInterrupt_7 (rfl) ?_
  refine va_last (x := r.toInt64) hx hb hK hP hD hS 0 0 rfl rfl (vp_in_nI (n := 0) (by decide) (by decide)) d_L_readInterrupt_8 (fun H locs hP hD hS => ?_)
  refine lv_goto (tgt := 15) hx hb d_L_readInterrupt_9 (by decide) ?_
  refine lv_iconst (v := 0) hx hb d_L_readInterrupt_15 (by decide) ?_
  refine W.widen (k := 1) (n := 6) (by omega) (by omega) ?_
  exact W.iret (v := 0) hx hb hr (fun t ht hW => ⟨rfl, by rw [ht]; exact hP, (hAe ▸ hS).F ht⟩) (hAe ▸ hS).2.2 d_L_readInterrupt_16
set_option maxHeartbeats 4000000 in
set_option maxRecDepth 100000 in
theorem kx_readInterrupt_I (l : Launch) (D : va_G) (tw : Nat) (sa : Nat → Nat) (x oo : Nat) (fs : List Value) (T0 : va_W) (tys : List (ClassId × FieldType)) (cL : ClassId) (fo : Nat → Int64) (p0 : Int32) (hM : vx_Met l y_X_readInterrupt (WSY y_X_readInterrupt b_X_readInterrupt 6 (some .int)) ({ frames := 6, cells := 1, slots := 6, locals := 110 }) (va_Pc [.ref x, .int p0] (PT D tw sa ((x, .inr (4, fs)) :: T0) tys)) QT (XT "java/lang/IndexOutOfBoundsException") 1 6 (fun _ => False)) : Met l y_L_readInterrupt (WSH y_L_readInterrupt b_L_readInterrupt 4 (some .int) [(0, 9, 12, 24)]) ({ frames := 8, cells := 1, slots := 6, locals := 160 }) (va_Pc [.ref x, .int p0, .ref oo] (PL D tw sa ((oo, .inl (cL, 1, .inr (.inl fo))) :: (x, .inr (4, fs)) :: T0) ((cL, .long) :: tys))) (QM (some (.int 1)) ((oo, .inl (cL, 1, .inr (.inl fo))) :: (x, .inr (4, fs)) :: T0) ((oo, .inl (cL, 1, .inr (.inl fo))) :: (x, .inr (4, fs)) :: T0) D) 1 6 (ad ((oo, .inl (cL, 1, .inr (.inl fo))) :: (x, .inr (4, fs)) :: T0)) := by
  refine va_MetW (cc := b_L_readInterrupt) (maxL := 4) (ret := (some .int)) (hh := [(0, 9, 12, 24)]) (by decide) rfl ?_
  intro p e s m args below meth c s₁ B hml hv
  obtain ⟨rfl, hP, hK, hD0, hE, hEX, hEC⟩ := hv
  have hx := B.exec
  have hb := B.bytes
  have hr := B.returns
  have hts := atoms_spec (ws := (WSH y_L_readInterrupt b_L_readInterrupt 4 (some .int) [(0, 9, 12, 24)])) B.pre
  have hg : ∀ w ∈ GW, w.before _ s = true := fun w h => hts w (List.mem_cons_of_mem _ h)
  have hown : s.vm.findClass "LineGolombLaw" = some m.cls := findClass_of_methodNamed B.named
  have hlocks := B.notSynchronized
  obtain ⟨A, hAe⟩ : ∃ A, A = ad ((oo, .inl (cL, 1, .inr (.inl fo))) :: (x, .inr (4, fs)) :: T0) := ⟨_, rfl⟩
  have hD : va_D A ((oo, .inl (cL, 1, .inr (.inl fo))) :: (x, .inr (4, fs)) :: T0) := by rw [hAe]; exact va_D_ad hD0
  rw [← hAe] at hE hEX
  have hS : va_S A s.heap s.heap [] := va_S.rf
  have hl := lv_entry ([.ref x, .int p0, .ref oo]) (n := 4) (Nat.le_of_ble_eq_true rfl)
  rw [lg_entry_eq]
  generalize (lg_sl ([.ref x, .int p0, .ref oo]) ++ List.replicate (4 - (lg_sl ([.ref x, .int p0, .ref oo])).length) Slot.unset).toArray = ls at hl ⊢
  have hl : lv_has ls 4 [(0, .ref x), (1, .int p0), (2, .ref oo)] := hl
  refine lv_aload_n hx hb d_L_readInterrupt_0 rfl (lv_at hl 2 rfl) ?_
  refine lv_iconst (v := 0) hx hb d_L_readInterrupt_1 (by decide) ?_
  refine lv_aload_n hx hb d_L_readInterrupt_2 rfl (lv_at hl 0 rfl) ?_
  refine lv_iload_n hx hb d_L_readInterrupt_3 rfl (lv_at hl 1 rfl) ?_
  have htb : c.exceptionTable.toList = tableOf [(0, 9, 12, 24)] := vx_table (x := y_L_readInterrupt) B (hts _ List.mem_cons_self)
  have hPc := tlP hP
  have hKc := tlK hK
  refine vx_calli (vx_runV (As := [.int p0]) (rest := [.int 0, .ref oo]) ⟨hx, hb, hml, hown, hg⟩ hM (cwV 1 hg (gV gw_473 gw_474 gw_475 gw_1 gw_476) rfl rfl rfl (by decide +kernel) ⟨by decide, by decide⟩) ⟨fun a U g mk q => by obtain ⟨q0, qP, qK, qX, qY⟩ := q; exact ⟨q0, qP, va_K.moved (u := U) (U := U.calling g mk a) (Vm.Alike.refl U.vm) qK, qX.blind, qY.blind⟩, va_recv hKc hPc (ci := 4) (q0 := 0) rfl rfl, fun U hU hW => ⟨rfl, by rw [hU]; exact hPc, va_K.moved hW.alike hKc, hE.call hS (fun _ z => z.elim) hU hW, hEX.call hS (fun _ z => z.elim) hU hW⟩⟩ rfl rfl hl.1 rfl (lv_room (Nat.le_of_ble_eq_true rfl)) d_L_readInterrupt_4 ⟨Nat.le_of_ble_eq_true rfl, Nat.le_of_ble_eq_true rfl⟩) hS (fun _ _ z => z.elim) (fun _ z => z.elim) (fun _ _ z => z.elim) (fun E ce q9 u t H1 locs1 ht hvm _ hE0 hz hk hS hcell hv hcl => ?_) (fun _ _ _ _ _ _ _ z => z.elim)
  subst hE0
  have hP1 : va_P D CLS ((oo, .inl (cL, 1, .inr (.inl fo))) :: (x, .inr (4, fs)) :: T0) H1 := fun k q h => (hP k q h).kept (hk q.1 (hP k q h).lt (fun z => z))
  refine vx_catch (pc := 4) hown [] (⟨0, 9, 12, 24⟩ : ExceptionTableEntry) [] htb (fun z hz => by cases hz) (by decide) (by decide) (hg _ gw_338) (va_Nw.use rfl hEC.2.2.1) hcell hv hcl ?_
  refine lv_astore_n (lv' := [(3, .ref q9), (0, .ref x), (1, .int p0), (2, .ref oo)]) hx hb d_L_readInterrupt_12 rfl hl (by decide) rfl (fun ls hl => ?_)
  refine lv_iconst (v := 1) hx hb d_L_readInterrupt_13 (by decide) ?_
  exact W.iret (v := 1) hx hb hr (fun t ht hW => ⟨rfl, by rw [ht]; exact hP1, (hAe ▸ hS).F ht⟩) (hAe ▸ hS).2.2 d_L_readInterrupt_14
set_option maxHeartbeats 4000000 in
set_option maxRecDepth 100000 in
theorem k_map (l : Launch) (D : va_G) (tw : Nat) (sa : Nat → Nat) (x oo : Nat) (fs : List Value) (T0 : va_W) (tys : List (ClassId × FieldType)) (cL : ClassId) (fo : Nat → Int64) (p0 p1 : Int32) (W1 : va_W) (F Lc : Nat) (r : Int32) (hF : F ≤ 7) (hLc : Lc ≤ 120) (hadr : W1.map (·.1) = ((x, .inr (4, fs)) :: T0).map (·.1)) (hM : Met l y_X_map (WSY y_X_map b_X_map 3 (some .int)) ({ frames := F, cells := 0, slots := 0, locals := Lc }) (va_Pc [.ref x, .int p0, .int p1] (PE D tw ((x, .inr (4, fs)) :: T0) tys)) (QM (some (.int r)) ((x, .inr (4, fs)) :: T0) W1 D) 0 0 (ad ((x, .inr (4, fs)) :: T0))) : Met l y_L_map (WSH y_L_map b_L_map 5 (some .int) [(0, 10, 13, 13)]) ({ frames := 8, cells := 1, slots := 6, locals := 160 }) (va_Pc [.ref x, .int p0, .int p1, .ref oo] (PL D tw sa ((oo, .inl (cL, 1, .inr (.inl fo))) :: (x, .inr (4, fs)) :: T0) ((cL, .long) :: tys))) (QM (some (.int 0)) ((oo, .inl (cL, 1, .inr (.inl fo))) :: (x, .inr (4, fs)) :: T0) ((oo, .inl (cL, 1, .inr (.inl (vp_updL fo 0 r.toInt64)))) :: W1) D) 1 6 (ad ((oo, .inl (cL, 1, .inr (.inl fo))) :: (x, .inr (4, fs)) :: T0)) := by
  refine va_MetW (cc := b_L_map) (maxL := 5) (ret := (some .int)) (hh := [(0, 10, 13, 13)]) (by decide) rfl ?_
  intro p e s m args below meth c s₁ B hml hv
  obtain ⟨rfl, hP, hK, hD0, hE, hEX, hEC⟩ := hv
  have hx := B.exec
  have hb := B.bytes
  have hr := B.returns
  have hts := atoms_spec (ws := (WSH y_L_map b_L_map 5 (some .int) [(0, 10, 13, 13)])) B.pre
  have hg : ∀ w ∈ GW, w.before _ s = true := fun w h => hts w (List.mem_cons_of_mem _ h)
  have hown : s.vm.findClass "LineGolombLaw" = some m.cls := findClass_of_methodNamed B.named
  have hlocks := B.notSynchronized
  obtain ⟨A, hAe⟩ : ∃ A, A = ad ((oo, .inl (cL, 1, .inr (.inl fo))) :: (x, .inr (4, fs)) :: T0) := ⟨_, rfl⟩
  have hD : va_D A ((oo, .inl (cL, 1, .inr (.inl fo))) :: (x, .inr (4, fs)) :: T0) := by rw [hAe]; exact va_D_ad hD0
  rw [← hAe] at hE hEX
  have hS : va_S A s.heap s.heap [] := va_S.rf
  have hl := lv_entry ([.ref x, .int p0, .int p1, .ref oo]) (n := 5) (Nat.le_of_ble_eq_true rfl)
  rw [lg_entry_eq]
  generalize (lg_sl ([.ref x, .int p0, .int p1, .ref oo]) ++ List.replicate (5 - (lg_sl ([.ref x, .int p0, .int p1, .ref oo])).length) Slot.unset).toArray = ls at hl ⊢
  have hl : lv_has ls 5 [(0, .ref x), (1, .int p0), (2, .int p1), (3, .ref oo)] := hl
  refine lv_aload_n hx hb d_L_map_0 rfl (lv_at hl 3 rfl) ?_
  refine lv_iconst (v := 0) hx hb d_L_map_1 (by decide) ?_
  refine lv_aload_n hx hb d_L_map_2 rfl (lv_at hl 0 rfl) ?_
  refine lv_iload_n hx hb d_L_map_3 rfl (lv_at hl 1 rfl) ?_
  refine lv_iload_n hx hb d_L_map_4 rfl (lv_at hl 2 rfl) ?_
  have hPc := tlP hP
  have hKc := tlK hK
  have hDc := tlD hD
  refine mti (va_runV (As := [.int p0, .int p1]) (rest := [.int 0, .ref oo]) ⟨hx, hb, hml, hown, hg⟩ hM (cwV 2 hg (gV gw_485 gw_486 gw_487 gw_1 gw_488) rfl rfl rfl (by decide +kernel) ⟨by show F + 1 ≤ 8; omega, by show 8 + (3 + 11) + Lc ≤ 160; omega⟩) ⟨fun a U g mk q => by obtain ⟨q0, qP, qK, qD, qX⟩ := q; exact ⟨q0, qP, va_K.moved (u := U) (U := U.calling g mk a) (Vm.Alike.refl U.vm) qK, qD, qX.blind⟩, va_recv hKc hPc (ci := 4) (q0 := 0) rfl rfl, fun U hU hW => ⟨rfl, by rw [hU]; exact hPc, va_K.moved hW.alike hKc, hDc.weaken (fun _ _ _ _ => trivial), hE.call hS (adD hDc) hU hW⟩⟩ rfl rfl hl.1 rfl (lv_room (Nat.le_of_ble_eq_true rfl)) d_L_map_5 ⟨Nat.zero_le _, Nat.zero_le _⟩) hS hP hD hadr (fun H locs hP hD hS => ?_)
  refine lv_i2l (v := r.toInt64) hx hb d_L_map_8 (rfl) ?_
  refine va_last (x := r.toInt64) hx hb hK hP hD hS 0 0 rfl rfl (vp_in_nI (n := 0) (by decide) (by decide)) d_L_map_9 (fun H locs hP hD hS => ?_)
  refine lv_goto (tgt := 17) hx hb d_L_map_10 (by decide) ?_
  refine lv_iconst (v := 0) hx hb d_L_map_17 (by decide) ?_
  refine W.widen (k := 1) (n := 6) (by omega) (by omega) ?_
  exact W.iret (v := 0) hx hb hr (fun t ht hW => ⟨rfl, by rw [ht]; exact hP, (hAe ▸ hS).F ht⟩) (hAe ▸ hS).2.2 d_L_map_18
set_option maxHeartbeats 4000000 in
set_option maxRecDepth 100000 in
theorem kx_map_A (l : Launch) (D : va_G) (tw : Nat) (sa : Nat → Nat) (x oo : Nat) (fs : List Value) (T0 : va_W) (tys : List (ClassId × FieldType)) (cL : ClassId) (fo : Nat → Int64) (p0 p1 : Int32) (hM : vx_Met l y_X_map (WSY y_X_map b_X_map 3 (some .int)) ({ frames := 6, cells := 1, slots := 6, locals := 110 }) (va_Pc [.ref x, .int p0, .int p1] (PT D tw sa ((x, .inr (4, fs)) :: T0) tys)) QT (XT "java/lang/IllegalArgumentException") 1 6 (fun _ => False)) : Met l y_L_map (WSH y_L_map b_L_map 5 (some .int) [(0, 10, 13, 13)]) ({ frames := 8, cells := 1, slots := 6, locals := 160 }) (va_Pc [.ref x, .int p0, .int p1, .ref oo] (PL D tw sa ((oo, .inl (cL, 1, .inr (.inl fo))) :: (x, .inr (4, fs)) :: T0) ((cL, .long) :: tys))) (QM (some (.int 1)) ((oo, .inl (cL, 1, .inr (.inl fo))) :: (x, .inr (4, fs)) :: T0) ((oo, .inl (cL, 1, .inr (.inl fo))) :: (x, .inr (4, fs)) :: T0) D) 1 6 (ad ((oo, .inl (cL, 1, .inr (.inl fo))) :: (x, .inr (4, fs)) :: T0)) := by
  refine va_MetW (cc := b_L_map) (maxL := 5) (ret := (some .int)) (hh := [(0, 10, 13, 13)]) (by decide) rfl ?_
  intro p e s m args below meth c s₁ B hml hv
  obtain ⟨rfl, hP, hK, hD0, hE, hEX, hEC⟩ := hv
  have hx := B.exec
  have hb := B.bytes
  have hr := B.returns
  have hts := atoms_spec (ws := (WSH y_L_map b_L_map 5 (some .int) [(0, 10, 13, 13)])) B.pre
  have hg : ∀ w ∈ GW, w.before _ s = true := fun w h => hts w (List.mem_cons_of_mem _ h)
  have hown : s.vm.findClass "LineGolombLaw" = some m.cls := findClass_of_methodNamed B.named
  have hlocks := B.notSynchronized
  obtain ⟨A, hAe⟩ : ∃ A, A = ad ((oo, .inl (cL, 1, .inr (.inl fo))) :: (x, .inr (4, fs)) :: T0) := ⟨_, rfl⟩
  have hD : va_D A ((oo, .inl (cL, 1, .inr (.inl fo))) :: (x, .inr (4, fs)) :: T0) := by rw [hAe]; exact va_D_ad hD0
  rw [← hAe] at hE hEX
  have hS : va_S A s.heap s.heap [] := va_S.rf
  have hl := lv_entry ([.ref x, .int p0, .int p1, .ref oo]) (n := 5) (Nat.le_of_ble_eq_true rfl)
  rw [lg_entry_eq]
  generalize (lg_sl ([.ref x, .int p0, .int p1, .ref oo]) ++ List.replicate (5 - (lg_sl ([.ref x, .int p0, .int p1, .ref oo])).length) Slot.unset).toArray = ls at hl ⊢
  have hl : lv_has ls 5 [(0, .ref x), (1, .int p0), (2, .int p1), (3, .ref oo)] := hl
  refine lv_aload_n hx hb d_L_map_0 rfl (lv_at hl 3 rfl) ?_
  refine lv_iconst (v := 0) hx hb d_L_map_1 (by decide) ?_
  refine lv_aload_n hx hb d_L_map_2 rfl (lv_at hl 0 rfl) ?_
  refine lv_iload_n hx hb d_L_map_3 rfl (lv_at hl 1 rfl) ?_
  refine lv_iload_n hx hb d_L_map_4 rfl (lv_at hl 2 rfl) ?_
  have htb : c.exceptionTable.toList = tableOf [(0, 10, 13, 13)] := vx_table (x := y_L_map) B (hts _ List.mem_cons_self)
  have hPc := tlP hP
  have hKc := tlK hK
  refine vx_calli (vx_runV (As := [.int p0, .int p1]) (rest := [.int 0, .ref oo]) ⟨hx, hb, hml, hown, hg⟩ hM (cwV 2 hg (gV gw_485 gw_486 gw_487 gw_1 gw_488) rfl rfl rfl (by decide +kernel) ⟨by decide, by decide⟩) ⟨fun a U g mk q => by obtain ⟨q0, qP, qK, qX, qY⟩ := q; exact ⟨q0, qP, va_K.moved (u := U) (U := U.calling g mk a) (Vm.Alike.refl U.vm) qK, qX.blind, qY.blind⟩, va_recv hKc hPc (ci := 4) (q0 := 0) rfl rfl, fun U hU hW => ⟨rfl, by rw [hU]; exact hPc, va_K.moved hW.alike hKc, hE.call hS (fun _ z => z.elim) hU hW, hEX.call hS (fun _ z => z.elim) hU hW⟩⟩ rfl rfl hl.1 rfl (lv_room (Nat.le_of_ble_eq_true rfl)) d_L_map_5 ⟨Nat.le_of_ble_eq_true rfl, Nat.le_of_ble_eq_true rfl⟩) hS (fun _ _ z => z.elim) (fun _ z => z.elim) (fun _ _ z => z.elim) (fun E ce q9 u t H1 locs1 ht hvm _ hE0 hz hk hS hcell hv hcl => ?_) (fun _ _ _ _ _ _ _ z => z.elim)
  subst hE0
  have hP1 : va_P D CLS ((oo, .inl (cL, 1, .inr (.inl fo))) :: (x, .inr (4, fs)) :: T0) H1 := fun k q h => (hP k q h).kept (hk q.1 (hP k q h).lt (fun z => z))
  refine vx_catch (pc := 5) hown [] (⟨0, 10, 13, 13⟩ : ExceptionTableEntry) [] htb (fun z hz => by cases hz) (by decide) (by decide) (hg _ gw_195) (va_Nw.use rfl hEC.1) hcell hv hcl ?_
  refine lv_astore (lv' := [(4, .ref q9), (0, .ref x), (1, .int p0), (2, .int p1), (3, .ref oo)]) hx hb d_L_map_13 hl (by decide) rfl (fun ls hl => ?_)
  refine lv_iconst (v := 1) hx hb d_L_map_15 (by decide) ?_
  exact W.iret (v := 1) hx hb hr (fun t ht hW => ⟨rfl, by rw [ht]; exact hP1, (hAe ▸ hS).F ht⟩) (hAe ▸ hS).2.2 d_L_map_16
set_option maxHeartbeats 4000000 in
set_option maxRecDepth 100000 in
theorem k_unmap (l : Launch) (D : va_G) (tw : Nat) (sa : Nat → Nat) (x oo : Nat) (fs : List Value) (T0 : va_W) (tys : List (ClassId × FieldType)) (cL : ClassId) (fo : Nat → Int64) (p0 p1 : Int32) (W1 : va_W) (F Lc : Nat) (r : Int32) (hF : F ≤ 7) (hLc : Lc ≤ 120) (hadr : W1.map (·.1) = ((x, .inr (4, fs)) :: T0).map (·.1)) (hM : Met l y_X_unmap (WSY y_X_unmap b_X_unmap 6 (some .int)) ({ frames := F, cells := 0, slots := 0, locals := Lc }) (va_Pc [.ref x, .int p0, .int p1] (PE D tw ((x, .inr (4, fs)) :: T0) tys)) (QM (some (.int r)) ((x, .inr (4, fs)) :: T0) W1 D) 0 0 (ad ((x, .inr (4, fs)) :: T0))) : Met l y_L_unmap (WSH y_L_unmap b_L_unmap 5 (some .int) [(0, 10, 13, 13)]) ({ frames := 8, cells := 1, slots := 6, locals := 160 }) (va_Pc [.ref x, .int p0, .int p1, .ref oo] (PL D tw sa ((oo, .inl (cL, 1, .inr (.inl fo))) :: (x, .inr (4, fs)) :: T0) ((cL, .long) :: tys))) (QM (some (.int 0)) ((oo, .inl (cL, 1, .inr (.inl fo))) :: (x, .inr (4, fs)) :: T0) ((oo, .inl (cL, 1, .inr (.inl (vp_updL fo 0 r.toInt64)))) :: W1) D) 1 6 (ad ((oo, .inl (cL, 1, .inr (.inl fo))) :: (x, .inr (4, fs)) :: T0)) := by
  refine va_MetW (cc := b_L_unmap) (maxL := 5) (ret := (some .int)) (hh := [(0, 10, 13, 13)]) (by decide) rfl ?_
  intro p e s m args below meth c s₁ B hml hv
  obtain ⟨rfl, hP, hK, hD0, hE, hEX, hEC⟩ := hv
  have hx := B.exec
  have hb := B.bytes
  have hr := B.returns
  have hts := atoms_spec (ws := (WSH y_L_unmap b_L_unmap 5 (some .int) [(0, 10, 13, 13)])) B.pre
  have hg : ∀ w ∈ GW, w.before _ s = true := fun w h => hts w (List.mem_cons_of_mem _ h)
  have hown : s.vm.findClass "LineGolombLaw" = some m.cls := findClass_of_methodNamed B.named
  have hlocks := B.notSynchronized
  obtain ⟨A, hAe⟩ : ∃ A, A = ad ((oo, .inl (cL, 1, .inr (.inl fo))) :: (x, .inr (4, fs)) :: T0) := ⟨_, rfl⟩
  have hD : va_D A ((oo, .inl (cL, 1, .inr (.inl fo))) :: (x, .inr (4, fs)) :: T0) := by rw [hAe]; exact va_D_ad hD0
  rw [← hAe] at hE hEX
  have hS : va_S A s.heap s.heap [] := va_S.rf
  have hl := lv_entry ([.ref x, .int p0, .int p1, .ref oo]) (n := 5) (Nat.le_of_ble_eq_true rfl)
  rw [lg_entry_eq]
  generalize (lg_sl ([.ref x, .int p0, .int p1, .ref oo]) ++ List.replicate (5 - (lg_sl ([.ref x, .int p0, .int p1, .ref oo])).length) Slot.unset).toArray = ls at hl ⊢
  have hl : lv_has ls 5 [(0, .ref x), (1, .int p0), (2, .int p1), (3, .ref oo)] := hl
  refine lv_aload_n hx hb d_L_unmap_0 rfl (lv_at hl 3 rfl) ?_
  refine lv_iconst (v := 0) hx hb d_L_unmap_1 (by decide) ?_
  refine lv_aload_n hx hb d_L_unmap_2 rfl (lv_at hl 0 rfl) ?_
  refine lv_iload_n hx hb d_L_unmap_3 rfl (lv_at hl 1 rfl) ?_
  refine lv_iload_n hx hb d_L_unmap_4 rfl (lv_at hl 2 rfl) ?_
  have hPc := tlP hP
  have hKc := tlK hK
  have hDc := tlD hD
  refine mti (va_runV (As := [.int p0, .int p1]) (rest := [.int 0, .ref oo]) ⟨hx, hb, hml, hown, hg⟩ hM (cwV 2 hg (gV gw_495 gw_496 gw_497 gw_1 gw_498) rfl rfl rfl (by decide +kernel) ⟨by show F + 1 ≤ 8; omega, by show 8 + (6 + 11) + Lc ≤ 160; omega⟩) ⟨fun a U g mk q => by obtain ⟨q0, qP, qK, qD, qX⟩ := q; exact ⟨q0, qP, va_K.moved (u := U) (U := U.calling g mk a) (Vm.Alike.refl U.vm) qK, qD, qX.blind⟩, va_recv hKc hPc (ci := 4) (q0 := 0) rfl rfl, fun U hU hW => ⟨rfl, by rw [hU]; exact hPc, va_K.moved hW.alike hKc, hDc.weaken (fun _ _ _ _ => trivial), hE.call hS (adD hDc) hU hW⟩⟩ rfl rfl hl.1 rfl (lv_room (Nat.le_of_ble_eq_true rfl)) d_L_unmap_5 ⟨Nat.zero_le _, Nat.zero_le _⟩) hS hP hD hadr (fun H locs hP hD hS => ?_)
  refine lv_i2l (v := r.toInt64) hx hb d_L_unmap_8 (rfl) ?_
  refine va_last (x := r.toInt64) hx hb hK hP hD hS 0 0 rfl rfl (vp_in_nI (n := 0) (by decide) (by decide)) d_L_unmap_9 (fun H locs hP hD hS => ?_)
  refine lv_goto (tgt := 17) hx hb d_L_unmap_10 (by decide) ?_
  refine lv_iconst (v := 0) hx hb d_L_unmap_17 (by decide) ?_
  refine W.widen (k := 1) (n := 6) (by omega) (by omega) ?_
  exact W.iret (v := 0) hx hb hr (fun t ht hW => ⟨rfl, by rw [ht]; exact hP, (hAe ▸ hS).F ht⟩) (hAe ▸ hS).2.2 d_L_unmap_18
set_option maxHeartbeats 4000000 in
set_option maxRecDepth 100000 in
theorem kx_unmap_A (l : Launch) (D : va_G) (tw : Nat) (sa : Nat → Nat) (x oo : Nat) (fs : List Value) (T0 : va_W) (tys : List (ClassId × FieldType)) (cL : ClassId) (fo : Nat → Int64) (p0 p1 : Int32) (hM : vx_Met l y_X_unmap (WSY y_X_unmap b_X_unmap 6 (some .int)) ({ frames := 6, cells := 1, slots := 6, locals := 110 }) (va_Pc [.ref x, .int p0, .int p1] (PT D tw sa ((x, .inr (4, fs)) :: T0) tys)) QT (XT "java/lang/IllegalArgumentException") 1 6 (fun _ => False)) : Met l y_L_unmap (WSH y_L_unmap b_L_unmap 5 (some .int) [(0, 10, 13, 13)]) ({ frames := 8, cells := 1, slots := 6, locals := 160 }) (va_Pc [.ref x, .int p0, .int p1, .ref oo] (PL D tw sa ((oo, .inl (cL, 1, .inr (.inl fo))) :: (x, .inr (4, fs)) :: T0) ((cL, .long) :: tys))) (QM (some (.int 1)) ((oo, .inl (cL, 1, .inr (.inl fo))) :: (x, .inr (4, fs)) :: T0) ((oo, .inl (cL, 1, .inr (.inl fo))) :: (x, .inr (4, fs)) :: T0) D) 1 6 (ad ((oo, .inl (cL, 1, .inr (.inl fo))) :: (x, .inr (4, fs)) :: T0)) := by
  refine va_MetW (cc := b_L_unmap) (maxL := 5) (ret := (some .int)) (hh := [(0, 10, 13, 13)]) (by decide) rfl ?_
  intro p e s m args below meth c s₁ B hml hv
  obtain ⟨rfl, hP, hK, hD0, hE, hEX, hEC⟩ := hv
  have hx := B.exec
  have hb := B.bytes
  have hr := B.returns
  have hts := atoms_spec (ws := (WSH y_L_unmap b_L_unmap 5 (some .int) [(0, 10, 13, 13)])) B.pre
  have hg : ∀ w ∈ GW, w.before _ s = true := fun w h => hts w (List.mem_cons_of_mem _ h)
  have hown : s.vm.findClass "LineGolombLaw" = some m.cls := findClass_of_methodNamed B.named
  have hlocks := B.notSynchronized
  obtain ⟨A, hAe⟩ : ∃ A, A = ad ((oo, .inl (cL, 1, .inr (.inl fo))) :: (x, .inr (4, fs)) :: T0) := ⟨_, rfl⟩
  have hD : va_D A ((oo, .inl (cL, 1, .inr (.inl fo))) :: (x, .inr (4, fs)) :: T0) := by rw [hAe]; exact va_D_ad hD0
  rw [← hAe] at hE hEX
  have hS : va_S A s.heap s.heap [] := va_S.rf
  have hl := lv_entry ([.ref x, .int p0, .int p1, .ref oo]) (n := 5) (Nat.le_of_ble_eq_true rfl)
  rw [lg_entry_eq]
  generalize (lg_sl ([.ref x, .int p0, .int p1, .ref oo]) ++ List.replicate (5 - (lg_sl ([.ref x, .int p0, .int p1, .ref oo])).length) Slot.unset).toArray = ls at hl ⊢
  have hl : lv_has ls 5 [(0, .ref x), (1, .int p0), (2, .int p1), (3, .ref oo)] := hl
  refine lv_aload_n hx hb d_L_unmap_0 rfl (lv_at hl 3 rfl) ?_
  refine lv_iconst (v := 0) hx hb d_L_unmap_1 (by decide) ?_
  refine lv_aload_n hx hb d_L_unmap_2 rfl (lv_at hl 0 rfl) ?_
  refine lv_iload_n hx hb d_L_unmap_3 rfl (lv_at hl 1 rfl) ?_
  refine lv_iload_n hx hb d_L_unmap_4 rfl (lv_at hl 2 rfl) ?_
  have htb : c.exceptionTable.toList = tableOf [(0, 10, 13, 13)] := vx_table (x := y_L_unmap) B (hts _ List.mem_cons_self)
  have hPc := tlP hP
  have hKc := tlK hK
  refine vx_calli (vx_runV (As := [.int p0, .int p1]) (rest := [.int 0, .ref oo]) ⟨hx, hb, hml, hown, hg⟩ hM (cwV 2 hg (gV gw_495 gw_496 gw_497 gw_1 gw_498) rfl rfl rfl (by decide +kernel) ⟨by decide, by decide⟩) ⟨fun a U g mk q => by obtain ⟨q0, qP, qK, qX, qY⟩ := q; exact ⟨q0, qP, va_K.moved (u := U) (U := U.calling g mk a) (Vm.Alike.refl U.vm) qK, qX.blind, qY.blind⟩, va_recv hKc hPc (ci := 4) (q0 := 0) rfl rfl, fun U hU hW => ⟨rfl, by rw [hU]; exact hPc, va_K.moved hW.alike hKc, hE.call hS (fun _ z => z.elim) hU hW, hEX.call hS (fun _ z => z.elim) hU hW⟩⟩ rfl rfl hl.1 rfl (lv_room (Nat.le_of_ble_eq_true rfl)) d_L_unmap_5 ⟨Nat.le_of_ble_eq_true rfl, Nat.le_of_ble_eq_true rfl⟩) hS (fun _ _ z => z.elim) (fun _ z => z.elim) (fun _ _ z => z.elim) (fun E ce q9 u t H1 locs1 ht hvm _ hE0 hz hk hS hcell hv hcl => ?_) (fun _ _ _ _ _ _ _ z => z.elim)
  subst hE0
  have hP1 : va_P D CLS ((oo, .inl (cL, 1, .inr (.inl fo))) :: (x, .inr (4, fs)) :: T0) H1 := fun k q h => (hP k q h).kept (hk q.1 (hP k q h).lt (fun z => z))
  refine vx_catch (pc := 5) hown [] (⟨0, 10, 13, 13⟩ : ExceptionTableEntry) [] htb (fun z hz => by cases hz) (by decide) (by decide) (hg _ gw_195) (va_Nw.use rfl hEC.1) hcell hv hcl ?_
  refine lv_astore (lv' := [(4, .ref q9), (0, .ref x), (1, .int p0), (2, .int p1), (3, .ref oo)]) hx hb d_L_unmap_13 hl (by decide) rfl (fun ls hl => ?_)
  refine lv_iconst (v := 1) hx hb d_L_unmap_15 (by decide) ?_
  exact W.iret (v := 1) hx hb hr (fun t ht hW => ⟨rfl, by rw [ht]; exact hP1, (hAe ▸ hS).F ht⟩) (hAe ▸ hS).2.2 d_L_unmap_16
set_option maxHeartbeats 4000000 in
set_option maxRecDepth 100000 in
theorem k_state (l : Launch) (D : va_G) (tw : Nat) (sa : Nat → Nat) (x oo : Nat) (fs : List Value) (T0 : va_W) (tys : List (ClassId × FieldType)) (cL : ClassId) (fo : Nat → Int64) (p0 p1 p2 : Int32) (W1 : va_W) (F Lc : Nat) (r : Int32) (hF : F ≤ 7) (hLc : Lc ≤ 120) (hadr : W1.map (·.1) = ((x, .inr (4, fs)) :: T0).map (·.1)) (hM : Met l y_X_state (WSY y_X_state b_X_state 5 (some .int)) ({ frames := F, cells := 0, slots := 0, locals := Lc }) (va_Pc [.ref x, .int p0, .int p1, .int p2] (PE D tw ((x, .inr (4, fs)) :: T0) tys)) (QM (some (.int r)) ((x, .inr (4, fs)) :: T0) W1 D) 0 0 (ad ((x, .inr (4, fs)) :: T0))) : Met l y_L_state (WSH y_L_state b_L_state 6 (some .int) [(0, 12, 15, 24), (0, 12, 19, 13)]) ({ frames := 8, cells := 1, slots := 6, locals := 160 }) (va_Pc [.ref x, .int p0, .int p1, .int p2, .ref oo] (PL D tw sa ((oo, .inl (cL, 1, .inr (.inl fo))) :: (x, .inr (4, fs)) :: T0) ((cL, .long) :: tys))) (QM (some (.int 0)) ((oo, .inl (cL, 1, .inr (.inl fo))) :: (x, .inr (4, fs)) :: T0) ((oo, .inl (cL, 1, .inr (.inl (vp_updL fo 0 r.toInt64)))) :: W1) D) 1 6 (ad ((oo, .inl (cL, 1, .inr (.inl fo))) :: (x, .inr (4, fs)) :: T0)) := by
  refine va_MetW (cc := b_L_state) (maxL := 6) (ret := (some .int)) (hh := [(0, 12, 15, 24), (0, 12, 19, 13)]) (by decide) rfl ?_
  intro p e s m args below meth c s₁ B hml hv
  obtain ⟨rfl, hP, hK, hD0, hE, hEX, hEC⟩ := hv
  have hx := B.exec
  have hb := B.bytes
  have hr := B.returns
  have hts := atoms_spec (ws := (WSH y_L_state b_L_state 6 (some .int) [(0, 12, 15, 24), (0, 12, 19, 13)])) B.pre
  have hg : ∀ w ∈ GW, w.before _ s = true := fun w h => hts w (List.mem_cons_of_mem _ h)
  have hown : s.vm.findClass "LineGolombLaw" = some m.cls := findClass_of_methodNamed B.named
  have hlocks := B.notSynchronized
  obtain ⟨A, hAe⟩ : ∃ A, A = ad ((oo, .inl (cL, 1, .inr (.inl fo))) :: (x, .inr (4, fs)) :: T0) := ⟨_, rfl⟩
  have hD : va_D A ((oo, .inl (cL, 1, .inr (.inl fo))) :: (x, .inr (4, fs)) :: T0) := by rw [hAe]; exact va_D_ad hD0
  rw [← hAe] at hE hEX
  have hS : va_S A s.heap s.heap [] := va_S.rf
  have hl := lv_entry ([.ref x, .int p0, .int p1, .int p2, .ref oo]) (n := 6) (Nat.le_of_ble_eq_true rfl)
  rw [lg_entry_eq]
  generalize (lg_sl ([.ref x, .int p0, .int p1, .int p2, .ref oo]) ++ List.replicate (6 - (lg_sl ([.ref x, .int p0, .int p1, .int p2, .ref oo])).length) Slot.unset).toArray = ls at hl ⊢
  have hl : lv_has ls 6 [(0, .ref x), (1, .int p0), (2, .int p1), (3, .int p2), (4, .ref oo)] := hl
  refine lv_aload hx hb d_L_state_0 (lv_at hl 4 rfl) ?_
  refine lv_iconst (v := 0) hx hb d_L_state_2 (by decide) ?_
  refine lv_aload_n hx hb d_L_state_3 rfl (lv_at hl 0 rfl) ?_
  refine lv_iload_n hx hb d_L_state_4 rfl (lv_at hl 1 rfl) ?_
  refine lv_iload_n hx hb d_L_state_5 rfl (lv_at hl 2 rfl) ?_
  refine lv_iload_n hx hb d_L_state_6 rfl (lv_at hl 3 rfl) ?_
  have hPc := tlP hP
  have hKc := tlK hK
  have hDc := tlD hD
  refine mti (va_runV (As := [.int p0, .int p1, .int p2]) (rest := [.int 0, .ref oo]) ⟨hx, hb, hml, hown, hg⟩ hM (cwV 3 hg (gV gw_503 gw_504 gw_505 gw_1 gw_506) rfl rfl rfl (by decide +kernel) ⟨by show F + 1 ≤ 8; omega, by show 8 + (5 + 11) + Lc ≤ 160; omega⟩) ⟨fun a U g mk q => by obtain ⟨q0, qP, qK, qD, qX⟩ := q; exact ⟨q0, qP, va_K.moved (u := U) (U := U.calling g mk a) (Vm.Alike.refl U.vm) qK, qD, qX.blind⟩, va_recv hKc hPc (ci := 4) (q0 := 0) rfl rfl, fun U hU hW => ⟨rfl, by rw [hU]; exact hPc, va_K.moved hW.alike hKc, hDc.weaken (fun _ _ _ _ => trivial), hE.call hS (adD hDc) hU hW⟩⟩ rfl rfl hl.1 rfl (lv_room (Nat.le_of_ble_eq_true rfl)) d_L_state_7 ⟨Nat.zero_le _, Nat.zero_le _⟩) hS hP hD hadr (fun H locs hP hD hS => ?_)
  refine lv_i2l (v := r.toInt64) hx hb d_L_state_10 (rfl) ?_
  refine va_last (x := r.toInt64) hx hb hK hP hD hS 0 0 rfl rfl (vp_in_nI (n := 0) (by decide) (by decide)) d_L_state_11 (fun H locs hP hD hS => ?_)
  refine lv_goto (tgt := 23) hx hb d_L_state_12 (by decide) ?_
  refine lv_iconst (v := 0) hx hb d_L_state_23 (by decide) ?_
  refine W.widen (k := 1) (n := 6) (by omega) (by omega) ?_
  exact W.iret (v := 0) hx hb hr (fun t ht hW => ⟨rfl, by rw [ht]; exact hP, (hAe ▸ hS).F ht⟩) (hAe ▸ hS).2.2 d_L_state_24
set_option maxHeartbeats 4000000 in
set_option maxRecDepth 100000 in
theorem kx_state_I (l : Launch) (D : va_G) (tw : Nat) (sa : Nat → Nat) (x oo : Nat) (fs : List Value) (T0 : va_W) (tys : List (ClassId × FieldType)) (cL : ClassId) (fo : Nat → Int64) (p0 p1 p2 : Int32) (hM : vx_Met l y_X_state (WSY y_X_state b_X_state 5 (some .int)) ({ frames := 6, cells := 1, slots := 6, locals := 110 }) (va_Pc [.ref x, .int p0, .int p1, .int p2] (PT D tw sa ((x, .inr (4, fs)) :: T0) tys)) QT (XT "java/lang/IndexOutOfBoundsException") 1 6 (fun _ => False)) : Met l y_L_state (WSH y_L_state b_L_state 6 (some .int) [(0, 12, 15, 24), (0, 12, 19, 13)]) ({ frames := 8, cells := 1, slots := 6, locals := 160 }) (va_Pc [.ref x, .int p0, .int p1, .int p2, .ref oo] (PL D tw sa ((oo, .inl (cL, 1, .inr (.inl fo))) :: (x, .inr (4, fs)) :: T0) ((cL, .long) :: tys))) (QM (some (.int 1)) ((oo, .inl (cL, 1, .inr (.inl fo))) :: (x, .inr (4, fs)) :: T0) ((oo, .inl (cL, 1, .inr (.inl fo))) :: (x, .inr (4, fs)) :: T0) D) 1 6 (ad ((oo, .inl (cL, 1, .inr (.inl fo))) :: (x, .inr (4, fs)) :: T0)) := by
  refine va_MetW (cc := b_L_state) (maxL := 6) (ret := (some .int)) (hh := [(0, 12, 15, 24), (0, 12, 19, 13)]) (by decide) rfl ?_
  intro p e s m args below meth c s₁ B hml hv
  obtain ⟨rfl, hP, hK, hD0, hE, hEX, hEC⟩ := hv
  have hx := B.exec
  have hb := B.bytes
  have hr := B.returns
  have hts := atoms_spec (ws := (WSH y_L_state b_L_state 6 (some .int) [(0, 12, 15, 24), (0, 12, 19, 13)])) B.pre
  have hg : ∀ w ∈ GW, w.before _ s = true := fun w h => hts w (List.mem_cons_of_mem _ h)
  have hown : s.vm.findClass "LineGolombLaw" = some m.cls := findClass_of_methodNamed B.named
  have hlocks := B.notSynchronized
  obtain ⟨A, hAe⟩ : ∃ A, A = ad ((oo, .inl (cL, 1, .inr (.inl fo))) :: (x, .inr (4, fs)) :: T0) := ⟨_, rfl⟩
  have hD : va_D A ((oo, .inl (cL, 1, .inr (.inl fo))) :: (x, .inr (4, fs)) :: T0) := by rw [hAe]; exact va_D_ad hD0
  rw [← hAe] at hE hEX
  have hS : va_S A s.heap s.heap [] := va_S.rf
  have hl := lv_entry ([.ref x, .int p0, .int p1, .int p2, .ref oo]) (n := 6) (Nat.le_of_ble_eq_true rfl)
  rw [lg_entry_eq]
  generalize (lg_sl ([.ref x, .int p0, .int p1, .int p2, .ref oo]) ++ List.replicate (6 - (lg_sl ([.ref x, .int p0, .int p1, .int p2, .ref oo])).length) Slot.unset).toArray = ls at hl ⊢
  have hl : lv_has ls 6 [(0, .ref x), (1, .int p0), (2, .int p1), (3, .int p2), (4, .ref oo)] := hl
  refine lv_aload hx hb d_L_state_0 (lv_at hl 4 rfl) ?_
  refine lv_iconst (v := 0) hx hb d_L_state_2 (by decide) ?_
  refine lv_aload_n hx hb d_L_state_3 rfl (lv_at hl 0 rfl) ?_
  refine lv_iload_n hx hb d_L_state_4 rfl (lv_at hl 1 rfl) ?_
  refine lv_iload_n hx hb d_L_state_5 rfl (lv_at hl 2 rfl) ?_
  refine lv_iload_n hx hb d_L_state_6 rfl (lv_at hl 3 rfl) ?_
  have htb : c.exceptionTable.toList = tableOf [(0, 12, 15, 24), (0, 12, 19, 13)] := vx_table (x := y_L_state) B (hts _ List.mem_cons_self)
  have hPc := tlP hP
  have hKc := tlK hK
  refine vx_calli (vx_runV (As := [.int p0, .int p1, .int p2]) (rest := [.int 0, .ref oo]) ⟨hx, hb, hml, hown, hg⟩ hM (cwV 3 hg (gV gw_503 gw_504 gw_505 gw_1 gw_506) rfl rfl rfl (by decide +kernel) ⟨by decide, by decide⟩) ⟨fun a U g mk q => by obtain ⟨q0, qP, qK, qX, qY⟩ := q; exact ⟨q0, qP, va_K.moved (u := U) (U := U.calling g mk a) (Vm.Alike.refl U.vm) qK, qX.blind, qY.blind⟩, va_recv hKc hPc (ci := 4) (q0 := 0) rfl rfl, fun U hU hW => ⟨rfl, by rw [hU]; exact hPc, va_K.moved hW.alike hKc, hE.call hS (fun _ z => z.elim) hU hW, hEX.call hS (fun _ z => z.elim) hU hW⟩⟩ rfl rfl hl.1 rfl (lv_room (Nat.le_of_ble_eq_true rfl)) d_L_state_7 ⟨Nat.le_of_ble_eq_true rfl, Nat.le_of_ble_eq_true rfl⟩) hS (fun _ _ z => z.elim) (fun _ z => z.elim) (fun _ _ z => z.elim) (fun E ce q9 u t H1 locs1 ht hvm _ hE0 hz hk hS hcell hv hcl => ?_) (fun _ _ _ _ _ _ _ z => z.elim)
  subst hE0
  have hP1 : va_P D CLS ((oo, .inl (cL, 1, .inr (.inl fo))) :: (x, .inr (4, fs)) :: T0) H1 := fun k q h => (hP k q h).kept (hk q.1 (hP k q h).lt (fun z => z))
  refine vx_catch (pc := 7) hown [] (⟨0, 12, 15, 24⟩ : ExceptionTableEntry) [(⟨0, 12, 19, 13⟩ : ExceptionTableEntry)] htb (fun z hz => by cases hz) (by decide) (by decide) (hg _ gw_338) (va_Nw.use rfl hEC.2.2.1) hcell hv hcl ?_
  refine lv_astore (lv' := [(5, .ref q9), (0, .ref x), (1, .int p0), (2, .int p1), (3, .int p2), (4, .ref oo)]) hx hb d_L_state_15 hl (by decide) rfl (fun ls hl => ?_)
  refine lv_iconst (v := 1) hx hb d_L_state_17 (by decide) ?_
  exact W.iret (v := 1) hx hb hr (fun t ht hW => ⟨rfl, by rw [ht]; exact hP1, (hAe ▸ hS).F ht⟩) (hAe ▸ hS).2.2 d_L_state_18
set_option maxHeartbeats 4000000 in
set_option maxRecDepth 100000 in
theorem kx_state_A (l : Launch) (D : va_G) (tw : Nat) (sa : Nat → Nat) (x oo : Nat) (fs : List Value) (T0 : va_W) (tys : List (ClassId × FieldType)) (cL : ClassId) (fo : Nat → Int64) (p0 p1 p2 : Int32) (hM : vx_Met l y_X_state (WSY y_X_state b_X_state 5 (some .int)) ({ frames := 6, cells := 1, slots := 6, locals := 110 }) (va_Pc [.ref x, .int p0, .int p1, .int p2] (PT D tw sa ((x, .inr (4, fs)) :: T0) tys)) QT (XT "java/lang/IllegalArgumentException") 1 6 (fun _ => False)) : Met l y_L_state (WSH y_L_state b_L_state 6 (some .int) [(0, 12, 15, 24), (0, 12, 19, 13)]) ({ frames := 8, cells := 1, slots := 6, locals := 160 }) (va_Pc [.ref x, .int p0, .int p1, .int p2, .ref oo] (PL D tw sa ((oo, .inl (cL, 1, .inr (.inl fo))) :: (x, .inr (4, fs)) :: T0) ((cL, .long) :: tys))) (QM (some (.int 2)) ((oo, .inl (cL, 1, .inr (.inl fo))) :: (x, .inr (4, fs)) :: T0) ((oo, .inl (cL, 1, .inr (.inl fo))) :: (x, .inr (4, fs)) :: T0) D) 1 6 (ad ((oo, .inl (cL, 1, .inr (.inl fo))) :: (x, .inr (4, fs)) :: T0)) := by
  refine va_MetW (cc := b_L_state) (maxL := 6) (ret := (some .int)) (hh := [(0, 12, 15, 24), (0, 12, 19, 13)]) (by decide) rfl ?_
  intro p e s m args below meth c s₁ B hml hv
  obtain ⟨rfl, hP, hK, hD0, hE, hEX, hEC⟩ := hv
  have hx := B.exec
  have hb := B.bytes
  have hr := B.returns
  have hts := atoms_spec (ws := (WSH y_L_state b_L_state 6 (some .int) [(0, 12, 15, 24), (0, 12, 19, 13)])) B.pre
  have hg : ∀ w ∈ GW, w.before _ s = true := fun w h => hts w (List.mem_cons_of_mem _ h)
  have hown : s.vm.findClass "LineGolombLaw" = some m.cls := findClass_of_methodNamed B.named
  have hlocks := B.notSynchronized
  obtain ⟨A, hAe⟩ : ∃ A, A = ad ((oo, .inl (cL, 1, .inr (.inl fo))) :: (x, .inr (4, fs)) :: T0) := ⟨_, rfl⟩
  have hD : va_D A ((oo, .inl (cL, 1, .inr (.inl fo))) :: (x, .inr (4, fs)) :: T0) := by rw [hAe]; exact va_D_ad hD0
  rw [← hAe] at hE hEX
  have hS : va_S A s.heap s.heap [] := va_S.rf
  have hl := lv_entry ([.ref x, .int p0, .int p1, .int p2, .ref oo]) (n := 6) (Nat.le_of_ble_eq_true rfl)
  rw [lg_entry_eq]
  generalize (lg_sl ([.ref x, .int p0, .int p1, .int p2, .ref oo]) ++ List.replicate (6 - (lg_sl ([.ref x, .int p0, .int p1, .int p2, .ref oo])).length) Slot.unset).toArray = ls at hl ⊢
  have hl : lv_has ls 6 [(0, .ref x), (1, .int p0), (2, .int p1), (3, .int p2), (4, .ref oo)] := hl
  refine lv_aload hx hb d_L_state_0 (lv_at hl 4 rfl) ?_
  refine lv_iconst (v := 0) hx hb d_L_state_2 (by decide) ?_
  refine lv_aload_n hx hb d_L_state_3 rfl (lv_at hl 0 rfl) ?_
  refine lv_iload_n hx hb d_L_state_4 rfl (lv_at hl 1 rfl) ?_
  refine lv_iload_n hx hb d_L_state_5 rfl (lv_at hl 2 rfl) ?_
  refine lv_iload_n hx hb d_L_state_6 rfl (lv_at hl 3 rfl) ?_
  have htb : c.exceptionTable.toList = tableOf [(0, 12, 15, 24), (0, 12, 19, 13)] := vx_table (x := y_L_state) B (hts _ List.mem_cons_self)
  have hPc := tlP hP
  have hKc := tlK hK
  refine vx_calli (vx_runV (As := [.int p0, .int p1, .int p2]) (rest := [.int 0, .ref oo]) ⟨hx, hb, hml, hown, hg⟩ hM (cwV 3 hg (gV gw_503 gw_504 gw_505 gw_1 gw_506) rfl rfl rfl (by decide +kernel) ⟨by decide, by decide⟩) ⟨fun a U g mk q => by obtain ⟨q0, qP, qK, qX, qY⟩ := q; exact ⟨q0, qP, va_K.moved (u := U) (U := U.calling g mk a) (Vm.Alike.refl U.vm) qK, qX.blind, qY.blind⟩, va_recv hKc hPc (ci := 4) (q0 := 0) rfl rfl, fun U hU hW => ⟨rfl, by rw [hU]; exact hPc, va_K.moved hW.alike hKc, hE.call hS (fun _ z => z.elim) hU hW, hEX.call hS (fun _ z => z.elim) hU hW⟩⟩ rfl rfl hl.1 rfl (lv_room (Nat.le_of_ble_eq_true rfl)) d_L_state_7 ⟨Nat.le_of_ble_eq_true rfl, Nat.le_of_ble_eq_true rfl⟩) hS (fun _ _ z => z.elim) (fun _ z => z.elim) (fun _ _ z => z.elim) (fun E ce q9 u t H1 locs1 ht hvm _ hE0 hz hk hS hcell hv hcl => ?_) (fun _ _ _ _ _ _ _ z => z.elim)
  subst hE0
  have hP1 : va_P D CLS ((oo, .inl (cL, 1, .inr (.inl fo))) :: (x, .inr (4, fs)) :: T0) H1 := fun k q h => (hP k q h).kept (hk q.1 (hP k q h).lt (fun z => z))
  refine vx_catch (pc := 7) hown [(⟨0, 12, 15, 24⟩ : ExceptionTableEntry)] (⟨0, 12, 19, 13⟩ : ExceptionTableEntry) [] htb (fun z hz => by rw [List.mem_singleton] at hz; subst hz; exact Or.inr ⟨by decide, _, hg _ gw_338, hEC.2.2.2.2.1⟩) (by decide) (by decide) (hg _ gw_195) (va_Nw.use rfl hEC.1) hcell hv hcl ?_
  refine lv_astore (lv' := [(5, .ref q9), (0, .ref x), (1, .int p0), (2, .int p1), (3, .int p2), (4, .ref oo)]) hx hb d_L_state_19 hl (by decide) rfl (fun ls hl => ?_)
  refine lv_iconst (v := 2) hx hb d_L_state_21 (by decide) ?_
  exact W.iret (v := 2) hx hb hr (fun t ht hW => ⟨rfl, by rw [ht]; exact hP1, (hAe ▸ hS).F ht⟩) (hAe ▸ hS).2.2 d_L_state_22
