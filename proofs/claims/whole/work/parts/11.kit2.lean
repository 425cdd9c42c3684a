/-! OWN ROWS: methods that write their cells and make none -/
def QM (v : Option Value) (w0 w1 : va_W) (D : va_G) : Array Value → State → Outcome → State → Prop := fun _ st o t => o = .returned v ∧ va_P D CLS w1 t.heap ∧ va_F (ad w0) st t
section OK2
variable {p : Program} {l : Launch} {e : Env} {R : Room} {s : State} {m : MethodId} {args : Array Value} {below : List Frame} {meth : Method} {c : Code} {H : Heap} {locs : List Loc} {cells slots : Nat} {Q : State → Prop}
variable {pc : Nat} {ls : Array Slot} {rest st0 : List Value} {a : Array Value} {D : va_G} {A : Nat → Prop} {H0 : Heap}
theorem mc_go {v : Option Value} {w0 w1 ws : va_W} (hr : va_Run p l e R s m args below meth c H locs cells slots 0 0 (F0 m pc ls st0) rest (QM v w0 w1 D a) (ad w0)) (hS : va_S A H0 H locs) (hP : va_P D CLS ws H) (hD : va_D A ws) (is : List Nat) (hC : is.map (fun i => ws[i]?) = w0.map some) (hl : is.length = w1.length) (hadr : (rep ws is w1).map (·.1) = ws.map (·.1))
    (kk : ∀ (H1 : Heap) (locs1 : List Loc), va_P D CLS (rep ws is w1) H1 → va_D A (rep ws is w1) → va_S A H0 H1 locs1 → W p l e R s m args below meth c H1 locs1 cells slots Q (F0 m (pc + 3) ls (v.toList ++ rest))) : W p l e R s m args below meth c H locs cells slots Q (F0 m pc ls st0) := by
  intro T hT X
  obtain ⟨v', st₀, t, T', L, h0, X', hL, e1, e2, ⟨hv, h1, hF⟩, st⟩ := hr T hT X
  cases hv
  have hA := ad_sub hD is hC
  obtain ⟨k1, k2, k3⟩ := vx_keep h0 e1 hS (fun q _ h => hA q h) hA hL hF
  obtain ⟨j1, j2⟩ := jn hP hD is hC hl hadr (by rw [e1]; exact h1) k2
  obtain ⟨t2, a1, b1⟩ := kk T'.heap (locs ++ L) j1 j2 k3 T' rfl X'
  exact ⟨t2, st t2 a1, b1⟩
theorem mci {r : Int32} {w0 w1 ws : va_W} (hr : va_Run p l e R s m args below meth c H locs cells slots 0 0 (F0 m pc ls st0) rest (QM (some (.int r)) w0 w1 D a) (ad w0)) (hS : va_S A H0 H locs) (hP : va_P D CLS ws H) (hD : va_D A ws) (is : List Nat) (hC : is.map (fun i => ws[i]?) = w0.map some) (hl : is.length = w1.length) (hadr : (rep ws is w1).map (·.1) = ws.map (·.1))
    (kk : ∀ (H1 : Heap) (locs1 : List Loc), va_P D CLS (rep ws is w1) H1 → va_D A (rep ws is w1) → va_S A H0 H1 locs1 → W p l e R s m args below meth c H1 locs1 cells slots Q (F0 m (pc + 3) ls (.int r :: rest))) : W p l e R s m args below meth c H locs cells slots Q (F0 m pc ls st0) := mc_go hr hS hP hD is hC hl hadr kk
theorem mcv {w0 w1 ws : va_W} (hr : va_Run p l e R s m args below meth c H locs cells slots 0 0 (F0 m pc ls st0) rest (QM none w0 w1 D a) (ad w0)) (hS : va_S A H0 H locs) (hP : va_P D CLS ws H) (hD : va_D A ws) (is : List Nat) (hC : is.map (fun i => ws[i]?) = w0.map some) (hl : is.length = w1.length) (hadr : (rep ws is w1).map (·.1) = ws.map (·.1))
    (kk : ∀ (H1 : Heap) (locs1 : List Loc), va_P D CLS (rep ws is w1) H1 → va_D A (rep ws is w1) → va_S A H0 H1 locs1 → W p l e R s m args below meth c H1 locs1 cells slots Q (F0 m (pc + 3) ls rest)) : W p l e R s m args below meth c H locs cells slots Q (F0 m pc ls st0) := mc_go hr hS hP hD is hC hl hadr kk
end OK2
/-- n places of f from u on hold b -/
def fil (f : Nat → Int32) (b : Int32) (u : Nat) : Nat → Nat → Int32
  | 0 => f
  | n + 1 => upd (fil f b u n) (u + n) b
/-- bit n of v -/
def bitv (v : Int32) (n : Nat) : Int32 := (v >>> (nI n &&& 31)) &&& 1
/-- the bits w - 1, .. of v, j of them, from u on -/
def flw (f : Nat → Int32) (v : Int32) (w u : Nat) : Nat → Nat → Int32
  | 0 => f
  | j + 1 => upd (flw f v w u j) (u + j) (bitv v (w - 1 - j))
theorem and1 (x : Int32) : x &&& 1 = 0 ∨ x &&& 1 = 1 := by
  obtain ⟨j, hj, h⟩ := pk_andE x (m := 1) 1 (by decide)
  rcases (show j = 0 ∨ j = 1 by omega) with rfl | rfl
  · exact Or.inl h
  · exact Or.inr h
theorem bitv01 (v : Int32) (n : Nat) : bitv v n = 0 ∨ bitv v n = 1 := and1 _
theorem b8 {b : Int32} (h : b = 0 ∨ b = 1) : b.toInt8.toInt32 = b := by rcases h with rfl | rfl <;> rfl
theorem n8 {b : Int32} (h : b = 0 ∨ b = 1) : vp_nar .byte b = b := by rcases h with rfl | rfl <;> rfl
theorem dec1 (x : Int32) : x + Int32.ofInt (-1) = x - 1 := by
  rw [show Int32.ofInt (-1) = -1 from by decide, Int32.sub_eq_add_neg]
