/-! numbers; what is taken as given beside the good words: nest links, the widths -/
theorem s_l : ∀ n, n < 32 → ((nI n &&& 31).toBitVec.smod 32).toNat = n := by decide +kernel
theorem wb_tb (n : Nat) : (lN n).toBitVec = BitVec.ofNat 64 n := rfl
theorem wb_inj {a b : Int64} (h : a.toBitVec = b.toBitVec) : a = b := Int64.toBitVec_inj.mp h
theorem wb_c : ∀ k, k < 64 → ((nI k).toInt64 &&& 63) = lN k := by decide +kernel
theorem wb_sm : ∀ k, k < 64 → (BitVec.ofNat 64 k).smod 64 = BitVec.ofNat 64 k := by decide +kernel
theorem wb_shl (n : Nat) {k : Nat} (hk : k < 64) : lN n <<< ((nI k).toInt64 &&& 63) = lN (n * 2 ^ k) := by
  rw [wb_c k hk]
  apply wb_inj
  rw [Int64.toBitVec_shiftLeft, wb_tb, wb_tb, wb_tb, wb_sm k hk]
  apply BitVec.eq_of_toNat_eq
  rw [BitVec.shiftLeft_eq', BitVec.toNat_shiftLeft, BitVec.toNat_ofNat, BitVec.toNat_ofNat, BitVec.toNat_ofNat, Nat.mod_eq_of_lt (show k < 2 ^ 64 by omega), Nat.shiftLeft_eq, Nat.mul_mod, Nat.mod_mod, ← Nat.mul_mod]
/-- the links to private members of nest mates -/
def NWL : List Cond := [.methodLinkNest "LineGolomb" 9 y_B_init "LineGolomb", .fieldLinkNest "LineGolomb" 153 "LineGolomb$BitRow" "used" "I" "LineGolomb", .methodLinkNest "LineGolomb" 18 y_Q_init "LineGolomb", .fieldLinkNest "LineGolomb" 176 "LineGolomb$BitQueue" "held" "I" "LineGolomb", .fieldLinkNest "LineGolomb" 210 "LineGolomb$Ends" "sum" "I" "LineGolomb", .fieldLinkNest "LineGolomb" 213 "LineGolomb$Ends" "count" "I" "LineGolomb", .fieldLinkNest "LineGolomb" 216 "LineGolomb$Ends" "negatives" "I" "LineGolomb", .fieldLinkNest "LineGolomb" 99 "LineGolomb$Side" "place" "I" "LineGolomb", .fieldLinkNest "LineGolomb" 228 "LineGolomb$Side" "runWidth" "I" "LineGolomb", .methodLinkNest "LineGolomb$Side" 21 y_X_widthOf "LineGolomb", .methodLinkNest "LineGolomb$Side" 31 y_X_stepBelow "LineGolomb"]
theorem nw_24 : (.methodLinkNest "LineGolomb" 9 y_B_init "LineGolomb" : Cond) ∈ NWL := List.mem_of_getElem? (i := 0) rfl
theorem nw_30 : (.fieldLinkNest "LineGolomb" 153 "LineGolomb$BitRow" "used" "I" "LineGolomb" : Cond) ∈ NWL := List.mem_of_getElem? (i := 1) rfl
theorem nw_39 : (.methodLinkNest "LineGolomb" 18 y_Q_init "LineGolomb" : Cond) ∈ NWL := List.mem_of_getElem? (i := 2) rfl
theorem nw_46 : (.fieldLinkNest "LineGolomb" 176 "LineGolomb$BitQueue" "held" "I" "LineGolomb" : Cond) ∈ NWL := List.mem_of_getElem? (i := 3) rfl
theorem nw_85 : (.fieldLinkNest "LineGolomb" 210 "LineGolomb$Ends" "sum" "I" "LineGolomb" : Cond) ∈ NWL := List.mem_of_getElem? (i := 4) rfl
theorem nw_87 : (.fieldLinkNest "LineGolomb" 213 "LineGolomb$Ends" "count" "I" "LineGolomb" : Cond) ∈ NWL := List.mem_of_getElem? (i := 5) rfl
theorem nw_89 : (.fieldLinkNest "LineGolomb" 216 "LineGolomb$Ends" "negatives" "I" "LineGolomb" : Cond) ∈ NWL := List.mem_of_getElem? (i := 6) rfl
theorem nw_104 : (.fieldLinkNest "LineGolomb" 99 "LineGolomb$Side" "place" "I" "LineGolomb" : Cond) ∈ NWL := List.mem_of_getElem? (i := 7) rfl
theorem nw_106 : (.fieldLinkNest "LineGolomb" 228 "LineGolomb$Side" "runWidth" "I" "LineGolomb" : Cond) ∈ NWL := List.mem_of_getElem? (i := 8) rfl
theorem nw_331 : (.methodLinkNest "LineGolomb$Side" 21 y_X_widthOf "LineGolomb" : Cond) ∈ NWL := List.mem_of_getElem? (i := 9) rfl
theorem nw_332 : (.methodLinkNest "LineGolomb$Side" 31 y_X_stepBelow "LineGolomb" : Cond) ∈ NWL := List.mem_of_getElem? (i := 10) rfl
def EVn (U : State) : Prop := ∀ w ∈ NWL, va_Nw w U
theorem EVn.warm {s U : State} (hW : s.WarmedH U.vm) (h : EVn s) : EVn U := by
  intro w hw
  have h1 := h w hw
  simp only [NWL, List.mem_cons, List.not_mem_nil, or_false] at hw
  rcases hw with rfl | rfl | rfl | rfl | rfl | rfl | rfl | rfl | rfl | rfl | rfl <;> first | exact va_Nw.warmF hW h1 | exact va_Nw.warmM hW h1
/-- the width of a step -/
def wdt (p : Nat) : Nat := ([0, 0, 0, 0, 1, 1, 1, 1, 2, 2, 2, 2, 3, 3, 3, 3, 4, 4, 5, 5, 6, 6, 7, 7, 8, 9, 10, 11, 12, 13, 14, 15] : List Nat).getD p 0
theorem wdt_le : ∀ p, p < 32 → wdt p ≤ 15 := by decide
def EVw (A : Nat → Prop) (tw : Nat) (U : State) (H : Heap) : Prop := va_Z "LineGolomb" "WIDTHS" "[I" (.ref tw) A U H ∧ va_T .int tw 32 (fun j => .int (nI (wdt j))) A U H
def EV (A : Nat → Prop) (tw : Nat) (U : State) : Prop := EVn U ∧ EVw A tw U U.heap
theorem EV.nw {A : Nat → Prop} {tw : Nat} {U : State} (h : EV A tw U) {w : Cond} (hw : w ∈ NWL) : va_Nw w U := h.1 w hw
theorem EV.call {A B : Nat → Prop} {tw : Nat} {s U : State} {H : Heap} {locs : List Loc} (h : EV A tw s) (hS : va_S A s.heap H locs) (hB : ∀ q, B q → A q) (hU : U.heap = H) (hW : s.WarmedH U.vm) : EV B tw U := by
  refine ⟨h.1.warm hW, ?_, ?_⟩
  · rw [hU]; exact ((h.2.1.kept hS.2.1).narrow hB).moved hW.alike
  · rw [hU]; exact ((h.2.2.kept hS.2.1).narrow hB).moved hW.alike
theorem EV.blind {A : Nat → Prop} {tw : Nat} {U : State} {g : JFrame} {mk : MethodId} {a : Array Value} (h : EV A tw U) : EV A tw (U.calling g mk a) :=
  ⟨h.1.warm (U := U.calling g mk a) (State.WarmedH.refl U), h.2.1.moved (u := U) (U := U.calling g mk a) (Vm.Alike.refl U.vm), h.2.2.moved (u := U) (U := U.calling g mk a) (Vm.Alike.refl U.vm)⟩
theorem noF {A : Nat → Prop} : ∀ q : Nat, (fun _ => False) q → A q := fun _ h => h.elim
section OK3
variable {p : Program} {l : Launch} {e : Env} {R : Room} {s : State} {m : MethodId} {args : Array Value} {below : List Frame} {meth : Method} {c : Code} {H : Heap} {locs : List Loc} {cells slots : Nat} {Q : State → Prop}
theorem tlen {cc : ByteArray} {pc : Nat} {ls : Array Slot} {rest : List Value} {A : Nat → Prop} {t N : Nat} {f : Nat → Value} {ty : FieldType} (hexec : p.tables.exec = Jvm.exec) (hb : c.code = cc) (hT : va_T ty t N f A s s.heap) (hS : va_S A s.heap H locs) (hdg : decode cc pc = .ok (.arraylength, 1))
    (kk : W p l e R s m args below meth c H locs cells slots Q (F0 m (pc + 1) ls (.int (nI N) :: rest))) : W p l e R s m args below meth c H locs cells slots Q (F0 m pc ls (.ref t :: rest)) := by
  obtain ⟨cell, h1, h2, h3, h4, h5, h6, h7⟩ := hT
  exact W.alen (n := nI N) hexec hb (by rw [hS.2.1 t (Array.getElem?_eq_some_iff.mp h1).1 h7]; exact h1) h2 h5 rfl rfl hdg kk
end OK3
theorem ngT {n : Nat} (h : n < 2 ^ 31) : (-nI n).toInt = -(n : Int) := sb_negT h
theorem ltT {x y : Int32} : x < y ↔ x.toInt < y.toInt := Int32.lt_iff_toInt_lt
theorem leT {x y : Int32} : x ≤ y ↔ x.toInt ≤ y.toInt := Int32.le_iff_toInt_le
theorem eqT {x y : Int32} : x = y ↔ x.toInt = y.toInt := Int32.toInt_inj.symm
theorem zT : (0 : Int32).toInt = 0 := rfl
theorem absP {n : Nat} (h : n < 2 ^ 31) : (if 0 ≤ nI n then nI n else 0 - nI n) = nI n := if_pos (nI_pos' h)
theorem absN {n : Nat} (h0 : 0 < n) (h : n < 2 ^ 31) : (if 0 ≤ -nI n then -nI n else 0 - -nI n) = nI n := by
  rw [if_neg (by rw [leT, ngT h, zT]; omega)]
  simp
theorem sgn (e : Int32) (h : -(2 ^ 30 : Int) ≤ e.toInt) (h2 : e.toInt ≤ 2 ^ 30) : ∃ n : Nat, n ≤ 2 ^ 30 ∧ (e = nI n ∨ (0 < n ∧ e = -nI n)) := by
  refine ⟨e.toInt.natAbs, by omega, ?_⟩
  rcases Int.lt_or_le e.toInt 0 with q | q
  · refine Or.inr ⟨by omega, ?_⟩
    rw [eqT, ngT (by omega)]; omega
  · refine Or.inl ?_
    rw [eqT, nI_toInt (by omega)]; omega
theorem sh1 {k : Nat} (hk : k < 31) : (1 : Int32) <<< (nI k &&& 31) = nI (2 ^ k) := by
  have h : 2 ^ k < 2 ^ 32 := Nat.pow_lt_pow_right (by decide) (by omega)
  have := pk_shlN (n := 1) (nI k &&& 31) k (s_l k (by omega)) (by omega)
  rw [Nat.one_mul] at this
  exact this
theorem shr {a k : Nat} (ha : a < 2 ^ 31) (hk : k < 32) : nI a >>> (nI k &&& 31) = nI (a / 2 ^ k) := pk_shrN ha _ k (s_l k hk)
theorem shl {a k : Nat} (hk : k < 32) (h : a * 2 ^ k < 2 ^ 32) : nI a <<< (nI k &&& 31) = nI (a * 2 ^ k) := pk_shlN _ k (s_l k hk) h
theorem pw30 {k : Nat} (h : k ≤ 30) : 2 ^ k ≤ 2 ^ 30 := Nat.pow_le_pow_right (by decide) h
theorem div2 {a : Nat} (h : a < 2 ^ 31) : nI a / 2 = nI (a / 2) := pk_div (d := 2) h (by decide) (by decide)
theorem rem2 {a : Nat} (h : a < 2 ^ 31) : nI a - nI a / 2 * 2 = nI (a % 2) := pk_rem (d := 2) h (by decide) (by decide)
theorem mul2 (a : Nat) : 2 * nI a = nI (2 * a) := pk_mul 2 a
theorem mn31 {p : Nat} (hp : p < 32) : (if nI 31 < nI (p + 1) then nI 31 else nI (p + 1)) = nI (if p < 31 then p + 1 else p) := by
  by_cases h : p < 31
  · rw [if_neg (nI_nlt (by omega) (by omega)), if_pos h]
  · rw [show p = 31 by omega]; rfl
