/-! the law: its words (as the skeleton has them), calls on two worlds, its cell, what its start gives -/
def R_law : String := "LineGolombLaw"
def lw_P (b : Addr) (xs : List Int32) (args : Array Value) (s : State) : Prop := args = #[.ref b] ∧ s.IntsAt b xs ∧ xs.length ≤ 2051 ∧ (Jvm.Cond.and given_1 narrow_1).before args s = true
def lw_Q (_ : Array Value) (s : State) (o : Outcome) (t : State) : Prop := o = .returned (some (.int 1)) ∧ Framed s o t [] 1064 22786
def lw_Z (below : List Frame) (a : Array Value) (s : State) : State → Prop := fun t => ∃ o, t.status = .running ∧ Ended t below o ∧ lw_Q a s o t
/-- the law's own end, with 1 on the stack, nothing written that was there before, its room as the claim has it -/
theorem lw_ret {p : Program} {l : Launch} {e : Env} {s : State} {m : MethodId} {below : List Frame} {meth : Method} {c : Code} {b : Nat} (hx : p.tables.exec = Jvm.exec) (hb : c.code = code) (hr : meth.sig.returnType = ret) (hlocks : meth.locks = false) {pc : Nat} {H : Heap} {ls : Array Slot} (hdg : decode code pc = .ok (.ireturn, 1)) : W p l e room_1 s m #[Value.ref b] below meth c H [] 1064 22786 (lw_Z below #[Value.ref b] s) (F0 m pc ls [.int 1]) := by
  intro T hT X
  obtain ⟨fs, hret, hrun, hended, hW, hframe⟩ := X.leave (v := some (.int 1)) (hlocks := hlocks) (fun h => by rw [hr] at h; cases h)
  have hmeth' : T.vm.method? m = some meth := X.method'
  refine ⟨T.setFrames fs, ?_, .returned (some (.int 1)), hrun, hended, rfl, ⟨_, rfl⟩, hW, hframe⟩
  jvm_step X.here [X.here.top, hx, hb, hdg, hmeth', hr, ret, narrow_b1]
  (try refine ⟨rfl, ?_⟩); (try refine ⟨rfl, ?_⟩)
  first | (intro acts; rw [hret _ acts rfl rfl rfl]) | rw [hret _ _ rfl rfl rfl]
  exact Steps.refl _
/-- what holds at the law's entry: the machine, the code, the tables' words (any of lw_tbl by 'hts w (by decide +kernel)'), the script of L ints xs at the cell b, what the Statement gives of the start (any of its parts by flat_of_before) -/
def lw_At (p : Program) (s : State) (m : MethodId) (meth : Method) (c : Code) (b L : Nat) (xs : Nat → Int32) : Prop :=
  p.tables.exec = Jvm.exec ∧ c.code = code ∧ meth.sig.returnType = ret ∧ c.maxLocals = 7 ∧ s.vm.findClass R_law = some m.cls ∧ (∀ w ∈ lw_tbl, w.before #[Value.ref b] s = true) ∧ va_X b L xs s s.heap ∧ b < s.heap.size ∧ meth.locks = false ∧ (Jvm.Cond.and given_1 narrow_1).before #[Value.ref b] s = true
theorem gSH {own : String} {i : Nat} {y : MethodName} {b : ByteArray} {n : Nat} {r : Option FieldType} {hh : List (Nat × Nat × Nat × Nat)} (h1 : Cond.methodLink own i y ∈ GW) (h2 : Cond.static y ∈ GW) (h4 : Cond.initialized y.cls ∈ GW) (h5 : Cond.codeWith y b n r hh ∈ GW) : GoodIn GW (va_wsS own i y (WSH y b n r hh)) :=
  good_GW (fun _ h => h) (fun w hw => by
    simp only [va_wsS, WSH, List.cons_append, List.nil_append, List.mem_cons] at hw
    rcases hw with rfl | rfl | rfl | rfl | hw
    · exact h1
    · exact h2
    · exact h4
    · exact h5
    · exact hw)
section LAWC
variable {p : Program} {l : Launch} {e : Env} {R : Room} {s : State} {m : MethodId} {args : Array Value} {below : List Frame} {meth : Method} {c : Code} {H : Heap} {locs : List Loc} {cells slots : Nat} {Q : State → Prop}
variable {pc : Nat} {ls : Array Slot} {rest st0 : List Value} {a : Array Value} {D : va_G} {A : Nat → Prop} {H0 : Heap}
/-- a call on one world, beside another -/
theorem cal {v : Option Value} {w0 w1 V : va_W} {mc ms : Nat} (hr : va_Run p l e R s m args below meth c H locs cells slots mc ms (F0 m pc ls st0) rest (QM v w0 w1 D a) (ad w0)) (hS : va_S A H0 H locs) (hV : va_P D CLS V H) (hd : ∀ q, ad V q → ¬ ad w0 q) (hA : ∀ q, ad w0 q → A q)
    (kk : ∀ (H1 : Heap) (locs1 : List Loc), va_P D CLS w1 H1 → va_P D CLS V H1 → va_S A H0 H1 locs1 → W p l e R s m args below meth c H1 locs1 (cells + mc) (slots + ms) Q (F0 m (pc + 3) ls (v.toList ++ rest))) : W p l e R s m args below meth c H locs cells slots Q (F0 m pc ls st0) := by
  intro T hT X
  obtain ⟨v', st₀, t, T', L, h0, X', hL, e1, e2, ⟨hv, h1, hF⟩, st⟩ := hr T hT X
  cases hv
  obtain ⟨k1, k2, k3⟩ := vx_keep h0 e1 hS (fun q _ h => hA q h) hA hL hF
  have j1 : va_P D CLS V T'.heap := fun k q hk => (hV k q hk).kept (k2 q.1 (hV k q hk).lt (hd q.1 (List.mem_map.mpr ⟨q, List.mem_of_getElem? hk, rfl⟩)))
  obtain ⟨t2, a1, b1⟩ := kk T'.heap (locs ++ L) (by rw [e1]; exact h1) j1 k3 T' rfl X'
  exact ⟨t2, st t2 a1, b1⟩
end LAWC
section PRES
variable {s : State} {H : Heap} {locs : List Loc} {A : Nat → Prop} {D : va_G} {tw : Nat} {sa : Nat → Nat} {W T : va_W} {tys : List (ClassId × FieldType)} {As : List Value} {b : Nat} {fs : List Value}
theorem preL (hE : EV A tw s) (hEX : EX A sa s) (hEC : EC s) (hK : va_K D CLS tys s) (hP : va_P D CLS W H) (hD : va_D (fun _ => True) W) (hS : va_S A s.heap H locs) (hA : ∀ q, ad W q → A q) : PreS s H (va_Pc As (PL D tw sa W tys)) As :=
  ⟨fun a U g mk q => by obtain ⟨q0, qP, qK, qD, qE, qX, qC⟩ := q; exact ⟨q0, qP, va_K.moved (u := U) (U := U.calling g mk a) (Vm.Alike.refl U.vm) qK, qD, qE.blind, qX.blind, qC.blind⟩, fun U hU hW => ⟨rfl, by rw [hU]; exact hP, va_K.moved hW.alike hK, hD, hE.call hS hA hU hW, hEX.call hS hA hU hW, hEC.warm hW⟩⟩
theorem preM (hK : va_K D CLS tys s) (hP : va_P D CLS ((b, .inr (5, fs)) :: T) H) (hD : va_D (fun _ => True) ((b, .inr (5, fs)) :: T)) : PreV s H "LineGolombModel" b (va_Pc (.ref b :: As) (PM D ((b, .inr (5, fs)) :: T) tys)) As :=
  ⟨fun a U g mk q => by obtain ⟨q0, qP, qK, qD⟩ := q; exact ⟨q0, qP, va_K.moved (u := U) (U := U.calling g mk a) (Vm.Alike.refl U.vm) qK, qD⟩, va_recv hK hP (ci := 5) (q0 := 0) rfl rfl, fun U hU hW => ⟨rfl, by rw [hU]; exact hP, va_K.moved hW.alike hK, hD⟩⟩
theorem preE (hE : EV A tw s) (hK : va_K D CLS tys s) (hP : va_P D CLS ((b, .inr (4, fs)) :: T) H) (hD : va_D (fun _ => True) ((b, .inr (4, fs)) :: T)) (hS : va_S A s.heap H locs) (hA : ∀ q, ad ((b, .inr (4, fs)) :: T) q → A q) : PreV s H "LineGolomb" b (va_Pc (.ref b :: As) (PE D tw ((b, .inr (4, fs)) :: T) tys)) As :=
  ⟨fun a U g mk q => by obtain ⟨q0, qP, qK, qD, qE⟩ := q; exact ⟨q0, qP, va_K.moved (u := U) (U := U.calling g mk a) (Vm.Alike.refl U.vm) qK, qD, qE.blind⟩, va_recv hK hP (ci := 4) (q0 := 0) rfl rfl, fun U hU hW => ⟨rfl, by rw [hU]; exact hP, va_K.moved hW.alike hK, hD, hE.call hS hA hU hW⟩⟩
theorem preT (hK : va_K D CLS tys s) (hP : va_P D CLS ((b, .inr (5, fs)) :: T) H) : PreV s H "LineGolombModel" b (va_Pc [.ref b] (fun U => va_P D CLS [(b, .inr (5, fs))] U.heap ∧ va_K D CLS [] U)) [] :=
  ⟨fun a U g mk q => by obtain ⟨q0, qP, qK⟩ := q; exact ⟨q0, qP, va_K.moved (u := U) (U := U.calling g mk a) (Vm.Alike.refl U.vm) qK⟩, va_recv hK hP (ci := 5) (q0 := 0) rfl rfl, fun U hU hW => ⟨rfl, by rw [hU]; exact hP.sub [0] rfl, va_K.moved hW.alike (hK.sub [] rfl)⟩⟩
theorem preC {L : Nat} {xs : Nat → Int32} {k : Int32} {H0 : Heap} (hX : va_X b L xs s H0) (hb : b < H0.size) (hbA : ¬ A b) (hS : va_S A H0 H locs) : PreS s H (va_Pc [.ref b, .int k] (fun U => va_X b L xs U U.heap)) [.ref b, .int k] :=
  ⟨fun a U g mk q => ⟨q.1, va_X.moved (u := U) (U := U.calling g mk a) (Vm.Alike.refl U.vm) q.2⟩, fun U hU hW => ⟨rfl, by show va_X b L xs U U.heap; rw [hU]; exact (hX.kept (hS.2.1 b hb hbA)).moved hW.alike⟩⟩
end PRES
set_option maxHeartbeats 4000000 in
set_option maxRecDepth 100000 in
theorem c_L_cell (l : Launch) (b L : Nat) (xs : Nat → Int32) (k : Nat) (hk : k < 2 ^ 30) (hL : L ≤ 2051) : Met l y_L_cell (WSY y_L_cell b_L_cell 2 (some .int)) ({ frames := 0, cells := 0, slots := 0, locals := 0 }) (va_Pc [.ref b, .int (nI k)] (fun U => va_X b L xs U U.heap)) (QR (some (.int (if k < L then xs k else 0)))) 0 0 (fun _ => False) := by
  refine Met.ofW (cc := b_L_cell) (maxL := 2) (ret := (some .int)) (by decide) rfl ?_
  intro p e s m args below meth c s₁ B hml hv
  obtain ⟨rfl, hX⟩ := hv
  have hx := B.exec
  have hb := B.bytes
  have hr := B.returns
  have hlocks := B.notSynchronized
  have hbl : b < s.heap.size := by obtain ⟨scr, h1, -⟩ := hX; exact (Array.getElem?_eq_some_iff.mp h1).1
  have hS : va_S (fun _ => False) s.heap s.heap [] := va_S.rf
  have hl := lv_entry ([.ref b, .int (nI k)]) (n := 2) (Nat.le_of_ble_eq_true rfl)
  rw [lg_entry_eq]
  generalize (lg_sl ([.ref b, .int (nI k)]) ++ List.replicate (2 - (lg_sl ([.ref b, .int (nI k)])).length) Slot.unset).toArray = ls at hl ⊢
  have hl : lv_has ls 2 [(0, .ref b), (1, .int (nI k))] := hl
  refine lv_iload_n hx hb d_L_cell_0 rfl (lv_at hl 1 rfl) ?_
  refine lv_aload_n hx hb d_L_cell_1 rfl (lv_at hl 0 rfl) ?_
  refine va_slen hx hb hX hbl (fun z => z) hS d_L_cell_2 ?_
  refine lv_icmp_ge (tgt := 12) hx hb d_L_cell_3 (by decide) (fun c_1 => ?_) (fun c_1 => ?_)
  · skip
    have hc := (nI_leI (by omega) (by omega)).mp c_1
    refine lv_iconst (v := 0) hx hb d_L_cell_12 (by decide) ?_
    refine tpi (y := if k < L then xs k else 0) ((if_neg (by omega)).symm) ?_
    exact W.iret (v := if k < L then xs k else 0) hx hb hr (fun t ht hW => ⟨rfl, ht⟩) (fun q h => by cases h) d_L_cell_13
  · skip
    have hc : k < L := by have : ¬ L ≤ k := fun z => c_1 ((nI_leI (by omega) (by omega)).mpr z); omega
    refine lv_aload_n hx hb d_L_cell_6 rfl (lv_at hl 0 rfl) ?_
    refine lv_iload_n hx hb d_L_cell_7 rfl (lv_at hl 1 rfl) ?_
    refine va_sld hx hb hX hbl (fun z => z) hS (vp_in_nI hc (by omega)) d_L_cell_8 ?_
    refine tpi (y := if k < L then xs k else 0) (by rw [nI_clamp (by omega), if_pos hc]) ?_
    refine lv_goto (tgt := 13) hx hb d_L_cell_9 (by decide) ?_
    exact W.iret (v := if k < L then xs k else 0) hx hb hr (fun t ht hW => ⟨rfl, ht⟩) (fun q h => by cases h) d_L_cell_13
theorem thr_ini : (.initialized Bundle.tN : Cond) ∈ lw_tbl := by decide +kernel
theorem NWL_ok : ∀ w ∈ NWL, w.onTables = true := by decide +kernel
theorem NWL_tbl : ∀ w ∈ NWL, w ∈ lw_tbl := by decide +kernel
theorem cst_A : (.castable "java/lang/IllegalArgumentException" "java/lang/IllegalArgumentException" : Cond) ∈ lw_tbl := by decide +kernel
theorem cst_U : (.castable "java/lang/UnsupportedOperationException" "java/lang/UnsupportedOperationException" : Cond) ∈ lw_tbl := by decide +kernel
theorem cst_I : (.castable "java/lang/IndexOutOfBoundsException" "java/lang/IndexOutOfBoundsException" : Cond) ∈ lw_tbl := by decide +kernel
theorem ncs_1 : (.not (.castable "java/lang/UnsupportedOperationException" "java/lang/IllegalArgumentException") : Cond) ∈ flatC (Jvm.Cond.and given_1 narrow_1) := by decide +kernel
theorem ncs_2 : (.not (.castable "java/lang/IllegalArgumentException" "java/lang/IndexOutOfBoundsException") : Cond) ∈ flatC (Jvm.Cond.and given_1 narrow_1) := by decide +kernel
theorem ncs_3 : (.not (.castable "java/lang/UnsupportedOperationException" "java/lang/IndexOutOfBoundsException") : Cond) ∈ flatC (Jvm.Cond.and given_1 narrow_1) := by decide +kernel
theorem wd_arr : (.arrayOf (.static "LineGolomb" "WIDTHS" "[I") .int : Cond) ∈ flatC (Jvm.Cond.and given_1 narrow_1) := by decide +kernel
theorem wd_len : (.eq (.length (.static "LineGolomb" "WIDTHS" "[I")) (.int (Int32.ofNat 32)) : Cond) ∈ flatC (Jvm.Cond.and given_1 narrow_1) := by decide +kernel
theorem wd_el : ∀ j, j < 32 → (.eq (.elem (.static "LineGolomb" "WIDTHS" "[I") (.int (Int32.ofNat j))) (.int (nI (wdt j))) : Cond) ∈ flatC (Jvm.Cond.and given_1 narrow_1) := by decide +kernel
theorem wd_lay : (.laysStatic "LineGolomb" "WIDTHS" "[I" : Cond) ∈ lw_tbl := by decide +kernel
theorem us_lay : (.laysStatic Bundle.tN "UNASSIGNED_STACK" Bundle.steD : Cond) ∈ lw_tbl := by decide +kernel
theorem ss_lay : (.laysStatic Bundle.tN "SUPPRESSED_SENTINEL" Bundle.listD : Cond) ∈ lw_tbl := by decide +kernel
theorem us_ref : (.isRef (.static Bundle.tN "UNASSIGNED_STACK" Bundle.steD) : Cond) ∈ flatC (Jvm.Cond.and given_1 narrow_1) := by decide +kernel
theorem ss_ref : (.isRef (.static Bundle.tN "SUPPRESSED_SENTINEL" Bundle.listD) : Cond) ∈ flatC (Jvm.Cond.and given_1 narrow_1) := by decide +kernel
theorem st_exa : ∀ e ∈ STL, (.exactly (.string "LineGolomb" e.1) "java/lang/String" : Cond) ∈ flatC (Jvm.Cond.and given_1 narrow_1) := by decide +kernel
theorem st_ref : ∀ e ∈ STL, (.stringRef "LineGolomb" e.1 e.2 : Cond) ∈ lw_tbl := by decide +kernel
theorem st_EVn {a : Array Value} {s : State} (hts : ∀ w ∈ lw_tbl, w.before a s = true) : EVn s := fun w hw => va_Nw.of (NWL_ok w hw) (hts w (NWL_tbl w hw))
theorem st_EXt {a : Array Value} {s : State} (hts : ∀ w ∈ lw_tbl, w.before a s = true) : EXt s := fun w hw => va_Nw.of (by have h2 := XAL_ok w hw; simp only [Bool.and_eq_true] at h2; exact h2.1) (hts w (XAL_tbl w hw))
theorem st_EC {a : Array Value} {s : State} (hts : ∀ w ∈ lw_tbl, w.before a s = true) (hgv : ∀ w ∈ flatC (Jvm.Cond.and given_1 narrow_1), w.before a s = true) : EC s :=
  ⟨va_Nw.of rfl (hts _ cst_A), va_Nw.of rfl (hts _ cst_U), va_Nw.of rfl (hts _ cst_I), va_Nc.of (hgv _ ncs_1), va_Nc.of (hgv _ ncs_2), va_Nc.of (hgv _ ncs_3)⟩
theorem st_EV {a : Array Value} {s : State} (hts : ∀ w ∈ lw_tbl, w.before a s = true) (hgv : ∀ w ∈ flatC (Jvm.Cond.and given_1 narrow_1), w.before a s = true) : ∃ tw, EV (fun q => s.heap.size ≤ q) tw s := by
  obtain ⟨t, ht, hT⟩ := va_Tof (A := fun q => s.heap.size ≤ q) (tm := .static "LineGolomb" "WIDTHS" "[I") (ty := .int) (N := 32) (f := fun j => .int (nI (wdt j))) (by decide) (hgv _ wd_arr) (va_eqt (hgv _ wd_len)) (fun j hj => va_eqt (hgv _ (wd_el j hj))) (fun a h => Nat.not_le.mpr h)
  exact ⟨t, st_EVn hts, va_Zref (hts _ wd_lay) (hts _ (GW_tbl gw_1)) ht (fun a h => Nat.not_le.mpr h), hT⟩
theorem st_EX {a : Array Value} {s : State} (hts : ∀ w ∈ lw_tbl, w.before a s = true) (hgv : ∀ w ∈ flatC (Jvm.Cond.and given_1 narrow_1), w.before a s = true) : ∃ sa, EX (fun q => s.heap.size ≤ q) sa s := by
  have h0 : ∀ k : Nat, ∃ q : Nat, ∀ t, (k, t) ∈ STL → vk_R "LineGolomb" k t q s := by
    intro k
    by_cases hk : ∃ t, (k, t) ∈ STL
    · obtain ⟨t0, ht0⟩ := hk
      obtain ⟨q, c, cA, kA, q1, -⟩ := Cond.exactly_spec (args := a) (first := s) (o := none) (s := s) (idx := []) (t := .string "LineGolomb" k) (cls := "java/lang/String") (hgv _ (st_exa _ ht0))
      exact ⟨q, fun t ht => vk_R.of (hts _ (st_ref _ ht)) q1⟩
    · exact ⟨0, fun t ht => absurd ⟨t, ht⟩ hk⟩
  obtain ⟨sa, hsa⟩ := Classical.axiomOfChoice h0
  exact ⟨sa, st_EXt hts, fun e he => hsa e.1 e.2 he, vx_Zqof (hts _ us_lay) (hts _ thr_ini) (hgv _ us_ref) (fun a h => Nat.not_le.mpr h), vx_Zqof (hts _ ss_lay) (hts _ thr_ini) (hgv _ ss_ref) (fun a h => Nat.not_le.mpr h)⟩
