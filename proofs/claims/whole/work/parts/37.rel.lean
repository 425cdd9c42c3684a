/-! what ties the cells of the class to those of the model -/
theorem fil_at (f : Nat → Int32) (b : Int32) (u : Nat) : ∀ n j, fil f b u n j = if u ≤ j ∧ j < u + n then b else f j
  | 0, j => by rw [if_neg (by omega)]; rfl
  | n + 1, j => by
    show upd _ _ _ j = _
    by_cases e : j = u + n
    · subst e; rw [pk_us, if_pos (by omega)]
    · rw [pk_un e, fil_at f b u n j]
      by_cases h : u ≤ j ∧ j < u + n
      · rw [if_pos h, if_pos (by omega)]
      · rw [if_neg h, if_neg (by omega)]
theorem flw_at (f : Nat → Int32) (v : Int32) (w u : Nat) : ∀ n j, flw f v w u n j = if u ≤ j ∧ j < u + n then bitv v (w - 1 - (j - u)) else f j
  | 0, j => by rw [if_neg (by omega)]; rfl
  | n + 1, j => by
    show upd _ _ _ j = _
    by_cases e : j = u + n
    · subst e; rw [pk_us, if_pos (by omega), Nat.add_sub_cancel_left]
    · rw [pk_un e, flw_at f v w u n j]
      by_cases h : u ≤ j ∧ j < u + n
      · rw [if_pos h, if_pos (by omega)]
      · rw [if_neg h, if_neg (by omega)]
/-- n1 times b1, one b2, w low bits of v -/
def pc3 (f : Nat → Int32) (b1 b2 : Int32) (n1 : Nat) (v : Int32) (w u : Nat) : Nat → Int32 := flw (fil (fil f b1 u n1) b2 (u + n1) 1) v w (u + n1 + 1) w
theorem pc3_lo {f : Nat → Int32} {b1 b2 v : Int32} {n1 w u j : Nat} (h : j < u) : pc3 f b1 b2 n1 v w u j = f j := by
  unfold pc3
  rw [flw_at, if_neg (by omega), fil_at, if_neg (by omega), fil_at, if_neg (by omega)]
theorem pc3_v {f : Nat → Int32} {b1 b2 v : Int32} {n1 w u j : Nat} (h : j < n1 + 1 + w) : pc3 f b1 b2 n1 v w u (u + j) = if j < n1 then b1 else if j = n1 then b2 else bitv v (w - 1 - (j - n1 - 1)) := by
  unfold pc3
  by_cases h1 : j < n1
  · rw [flw_at, if_neg (by omega), fil_at, if_neg (by omega), fil_at, if_pos (by omega), if_pos h1]
  · by_cases h2 : j = n1
    · rw [flw_at, if_neg (by omega), fil_at, if_pos (by omega), if_neg h1, if_pos h2]
    · rw [flw_at, if_pos (by omega), if_neg h1, if_neg h2, show u + j - (u + n1 + 1) = j - n1 - 1 by omega]
theorem wnum_lo {f : Nat → Int32} {q K N mo u j : Nat} (h : j < u) : wnum f q K N mo u j = f j := by
  unfold wnum
  split
  · exact pc3_lo (b1 := 0) (b2 := 1) (n1 := N / 2 ^ K) (v := nI N) (w := K) h
  · exact pc3_lo (b1 := 0) (b2 := 1) (n1 := mo) (v := nI N - 1) (w := q) h
theorem wnum_sh {f f' : Nat → Int32} {q K N mo u u' j : Nat} (h : j < nlen q K N mo) : wnum f q K N mo u (u + j) = wnum f' q K N mo u' (u' + j) := by
  unfold nlen at h
  unfold wnum
  split <;> rename_i hc
  · rw [if_pos hc] at h
    exact (pc3_v (f := f) (b1 := 0) (b2 := 1) (n1 := N / 2 ^ K) (v := nI N) (w := K) (u := u) h).trans (pc3_v (f := f') (b1 := 0) (b2 := 1) (n1 := N / 2 ^ K) (v := nI N) (w := K) (u := u') h).symm
  · rw [if_neg hc] at h
    exact (pc3_v (f := f) (b1 := 0) (b2 := 1) (n1 := mo) (v := nI N - 1) (w := q) (u := u) h).trans (pc3_v (f := f') (b1 := 0) (b2 := 1) (n1 := mo) (v := nI N - 1) (w := q) (u := u') h).symm
theorem cpw_lo {wr dr : Nat → Int32} {sz : Nat} : ∀ {n j : Nat}, j < sz → cpw wr sz dr n j = wr j
  | 0, _, _ => rfl
  | n + 1, j, h => by
    show upd _ _ _ j = _
    rw [pk_un (by omega)]; exact cpw_lo h
theorem cpw_at {wr dr : Nat → Int32} {sz : Nat} : ∀ {n j : Nat}, j < n → cpw wr sz dr n (sz + j) = dr j
  | 0, _, h => absurd h (Nat.not_lt_zero _)
  | n + 1, j, h => by
    show upd _ _ _ (sz + j) = _
    by_cases e : j = n
    · subst e; rw [pk_us]
    · rw [pk_un (by omega)]; exact cpw_at (by omega)
/-- the written bits -/
def RRW (u : Nat) (f wr : Nat → Int32) : Prop := u ≤ 6000 ∧ ∀ j, j < u → wr j = f j ∧ (f j = 0 ∨ f j = 1)
theorem RRW.put {u len : Nat} {f wr f' dr : Nat → Int32} (h : RRW u f wr) (hu : u + len ≤ 6000) (hlo : ∀ j, j < u → f' j = f j) (hsh : ∀ j, j < len → f' (u + j) = dr j) (h01 : ∀ j, j < len → dr j = 0 ∨ dr j = 1) : RRW (u + len) f' (cpw wr u dr len) := by
  refine ⟨hu, fun j hj => ?_⟩
  by_cases h1 : j < u
  · rw [cpw_lo h1, hlo j h1]; exact h.2 j h1
  · obtain ⟨i, rfl⟩ : ∃ i, j = u + i := ⟨j - u, by omega⟩
    have hi : i < len := by omega
    rw [cpw_at hi, hsh i hi]
    exact ⟨rfl, h01 i hi⟩
/-- the waiting bits -/
def RQU (fi h : Nat) (g wq : Nat → Int32) : Prop := fi < 1000 ∧ h ≤ 1000 ∧ ∀ j, j < h → qb g fi h j = wq j ∧ (wq j = 0 ∨ wq j = 1)
theorem RQU.fn {fi h : Nat} {g wq : Nat → Int32} (hq : RQU fi h g wq) : qb g fi h = mbt wq h := by
  funext j
  by_cases hj : j < h
  · rw [mbt_in hj]; exact (hq.2.2 j hj).1
  · rw [mbt_out hj]; exact qb_out hj
theorem mbt01 {fi h : Nat} {g wq : Nat → Int32} (hq : RQU fi h g wq) (j : Nat) : mbt wq h j = 0 ∨ mbt wq h j = 1 := by
  by_cases hj : j < h
  · rw [mbt_in hj]; exact (hq.2.2 j hj).2
  · rw [mbt_out hj]; exact Or.inl rfl
theorem RQU.bits {fi h : Nat} {g wq : Nat → Int32} (hq : RQU fi h g wq) : ∀ j, j < h → wq j = 0 ∨ wq j = 1 := fun j hj => (hq.2.2 j hj).2
theorem rpl_rpl {fi n j : Nat} (hf : fi < 1000) (h : n + j < 1000) : rpl (rpl fi n) j = rpl fi (n + j) := by
  unfold rpl; (repeat' split) <;> omega
theorem RQU.drop {fi h n : Nat} {g wq : Nat → Int32} (hq : RQU fi h g wq) (hn : n ≤ h) : RQU (rpl fi n) (h - n) g (gof wq n (h - n)) := by
  obtain ⟨h1, h2, h3⟩ := hq
  refine ⟨rpl_lt h1 (by omega), by omega, fun j hj => ?_⟩
  obtain ⟨a, b⟩ := h3 (j + n) (by omega)
  rw [gof_lo wq n (h - n) j hj, qb_in hj, rpl_rpl h1 (by omega), Nat.add_comm n j]
  rw [qb_in (by omega)] at a
  exact ⟨a, b⟩
theorem rpl_ne {fi j k : Nat} (hf : fi < 1000) (h : j < k) (hk : k < 1000) : rpl fi j ≠ rpl fi k := by
  unfold rpl; (repeat' split) <;> omega
theorem RQU.add {fi h : Nat} {g wq : Nat → Int32} {b : Int32} (hq : RQU fi h g wq) (hh : h < 1000) (hb : b = 0 ∨ b = 1) : RQU fi (h + 1) (upd g (rpl fi h) b) (upd wq h b) := by
  obtain ⟨h1, h2, h3⟩ := hq
  refine ⟨h1, by omega, fun j hj => ?_⟩
  rw [qb_in hj]
  by_cases e : j = h
  · subst e; rw [pk_us, pk_us]; exact ⟨rfl, hb⟩
  · obtain ⟨a, c⟩ := h3 j (by omega)
    rw [qb_in (by omega)] at a
    rw [pk_un e, pk_un (rpl_ne h1 (by omega) hh)]
    exact ⟨a, c⟩
theorem RQU.pass {fi h u i : Nat} {g wq f wr : Nat → Int32} (hq : RQU fi h g wq) (hr : RRW u f wr) : ∀ k, i + k ≤ u → h + k ≤ 1000 → RQU fi (h + k) (pqq g fi h f i k) (mpq wq h wr i k)
  | 0, _, _ => hq
  | k + 1, h1, h2 => by
    have ih := RQU.pass hq hr (i := i) k (by omega) (by omega)
    obtain ⟨a, b⟩ := hr.2 (i + k) (by omega)
    have := ih.add (b := f (i + k)) (by omega) b
    show RQU fi (h + k + 1) (upd (pqq g fi h f i k) (rpl fi (h + k)) (f (i + k))) (upd (mpq wq h wr i k) (h + k) (wr (i + k)))
    rw [a]; exact this
theorem bnum_nat {b : Nat → Int32} (hb : ∀ j, b j = 0 ∨ b j = 1) (a : Nat) : ∀ n, ∃ v, v < 2 ^ n ∧ bnum b a n = nI v
  | 0 => ⟨0, by decide, rfl⟩
  | n + 1 => by
    obtain ⟨v, hv, e⟩ := bnum_nat hb a n
    rw [Nat.pow_succ]
    rcases hb (a + n) with h | h
    · refine ⟨2 * v, by omega, ?_⟩
      show 2 * bnum b a n + b (a + n) = _
      rw [e, h, mul2]; exact nI_add (2 * v) 0
    · refine ⟨2 * v + 1, by omega, ?_⟩
      show 2 * bnum b a n + b (a + n) = _
      rw [e, h, mul2]; exact nI_add (2 * v) 1
theorem rnum_nat {b : Nat → Int32} (hb : ∀ j, b j = 0 ∨ b j = 1) {q K mo z : Nat} (hq : q ≤ 16) (hK : K ≤ 16) (hz : z ≤ 200) : ∃ N, N < 2 ^ 29 ∧ rnum b q K mo z = nI N ∧ z * 2 ^ K < 2 ^ 31 := by
  have p1 : 2 ^ K ≤ 2 ^ 16 := Nat.pow_le_pow_right (by decide) hK
  have p2 : 2 ^ q ≤ 2 ^ 16 := Nat.pow_le_pow_right (by decide) hq
  have p3 : z * 2 ^ K ≤ 200 * 2 ^ 16 := Nat.mul_le_mul hz p1
  unfold rnum
  by_cases h : z < mo
  · obtain ⟨v, hv, e⟩ := bnum_nat hb (z + 1) K
    exact ⟨z * 2 ^ K + v, by omega, by rw [if_pos h, e]; exact nI_add _ _, by omega⟩
  · obtain ⟨v, hv, e⟩ := bnum_nat hb (z + 1) q
    exact ⟨v + 1, by omega, by rw [if_neg h, e]; exact nI_1 _, by omega⟩
theorem ex_z (b : Nat → Int32) (B h : Nat) : ∃ z, z ≤ B ∧ z ≤ h ∧ (∀ j, j < z → b j = 0) ∧ (z = B ∨ z = h ∨ b z ≠ 0) := by
  obtain ⟨z, h1, h2⟩ := pk_least (fun z => z = B ∨ z = h ∨ b z ≠ 0) ⟨B, Or.inl rfl⟩
  have hB : z ≤ B := Nat.le_of_not_lt (fun q => h2 B q (Or.inl rfl))
  have hh : z ≤ h := Nat.le_of_not_lt (fun q => h2 h q (Or.inr (Or.inl rfl)))
  exact ⟨z, hB, hh, fun j hj => Decidable.byContradiction (fun q => h2 j hj (Or.inr (Or.inr q))), h1⟩
theorem ex_K {T c : Nat} (h : T ≤ c * 2 ^ 16) : ∃ K, K ≤ 16 ∧ T ≤ c * 2 ^ K ∧ ∀ j, j < K → c * 2 ^ j < T := by
  obtain ⟨K, h1, h2⟩ := pk_least (fun k => T ≤ c * 2 ^ k) ⟨16, h⟩
  exact ⟨K, Nat.le_of_not_lt (fun q => h2 16 q h), h1, fun j hj => Nat.lt_of_not_le (h2 j hj)⟩
theorem rac_ge {p : Nat} (hp : p < 32) : ∀ j, min 31 j ≤ rac p j
  | 0 => by omega
  | j + 1 => by
    have ih := rac_ge hp j
    have hl := rac_lt hp j
    show min 31 (j + 1) ≤ upp (rac p j)
    unfold upp; split <;> omega
theorem ex_R {n p : Nat} (hp : p < 32) (hn : n ≤ 65535) : ∃ m0, m0 ≤ 40 ∧ (∀ j, j < m0 → 2 ^ wdt (rac p j) ≤ rrc n p j) ∧ rrc n p m0 < 2 ^ wdt (rac p m0) := by
  have e31 : rac p 31 = 31 := by have := rac_ge hp 31; have := rac_lt hp 31; omega
  have e32 : rac p 32 = 31 := by have := rac_ge hp 32; have := rac_lt hp 32; omega
  have hex : ∃ m, m ≤ 32 ∧ rrc n p m < 2 ^ wdt (rac p m) := by
    by_cases h1 : rrc n p 31 < 2 ^ wdt (rac p 31)
    · exact ⟨31, by omega, h1⟩
    · refine ⟨32, by omega, ?_⟩
      have hle := rrc_le n p 31
      have hst : rrc n p 32 = rrc n p 31 - 2 ^ wdt (rac p 31) := rfl
      rw [hst, e31, e32]
      rw [e31] at h1
      have : (2 : Nat) ^ wdt 31 = 32768 := by decide
      omega
  obtain ⟨m, hm, hP⟩ := hex
  obtain ⟨k, h1, h2⟩ := pk_least (fun m => rrc n p m < 2 ^ wdt (rac p m)) ⟨m, hP⟩
  have hk : k ≤ m := Nat.le_of_not_lt (fun q => h2 m q hP)
  exact ⟨k, by omega, fun j hj => Nat.le_of_not_lt (h2 j hj), h1⟩
theorem ex_RR (b : Nat → Int32) (n p h : Nat) : ∃ m0, m0 ≤ h ∧ (∀ j, j < m0 → 2 ^ wdt (rac p j) < rrc n p j ∧ ¬ b j = 0) ∧ (m0 = h ∨ b m0 = 0 ∨ rrc n p m0 ≤ 2 ^ wdt (rac p m0)) := by
  obtain ⟨k, h1, h2⟩ := pk_least (fun m => m = h ∨ b m = 0 ∨ rrc n p m ≤ 2 ^ wdt (rac p m)) ⟨h, Or.inl rfl⟩
  refine ⟨k, Nat.le_of_not_lt (fun q => h2 h q (Or.inl rfl)), fun j hj => ⟨Nat.lt_of_not_le (fun q => h2 j hj (Or.inr (Or.inr q))), fun q => h2 j hj (Or.inr (Or.inl q))⟩, h1⟩
/-- what is kept of the ends of one kind -/
def REN (s c n : Nat) (su cu nu : Nat → Int32) (i : Nat) : Prop := su i = nI s ∧ cu i = nI c ∧ nu i = nI n ∧ 1 ≤ c ∧ c ≤ 64 ∧ n ≤ c ∧ s ≤ 32768 * c
theorem REN.other {s c n i k : Nat} {su cu nu : Nat → Int32} {a b d : Int32} (h : REN s c n su cu nu i) (hk : i ≠ k) : REN s c n (upd su k a) (upd cu k b) (upd nu k d) i := by
  obtain ⟨h1, h2, h3, h4⟩ := h
  exact ⟨by rw [pk_un hk]; exact h1, by rw [pk_un hk]; exact h2, by rw [pk_un hk]; exact h3, h4⟩
theorem REN.learn {s c n i x n' : Nat} {su cu nu : Nat → Int32} (h : REN s c n su cu nu i) (hx : x ≤ 32768) (hn : n' ≤ n + 1) : REN (hvd c (s + x)) (hvd c c + 1) (hvd c n') (upd su i (nI (hvd c (s + x)))) (upd cu i (nI (hvd c c + 1))) (upd nu i (nI (hvd c n'))) i := by
  obtain ⟨-, -, -, h4, h5, h6, h7⟩ := h
  refine ⟨pk_us, pk_us, pk_us, by omega, ?_, ?_, ?_⟩ <;> unfold hvd <;> split <;> omega
theorem REN.K {s c n i : Nat} {su cu nu : Nat → Int32} (h : REN s c n su cu nu i) : ∃ K, K ≤ 16 ∧ s ≤ c * 2 ^ K ∧ ∀ j, j < K → c * 2 ^ j < s := ex_K (by have := h.2.2.2.2.2.2; omega)
theorem REN.K1 {s c n i : Nat} {su cu nu : Nat → Int32} (h : REN s c n su cu nu i) : ∃ K, K ≤ 16 ∧ s + c / 2 ≤ c * 2 ^ K ∧ ∀ j, j < K → c * 2 ^ j < s + c / 2 := ex_K (by have := h.2.2.2.2.2.2; omega)
/-- the bounds -/
def RCF (li sp q fs : Nat) : Prop := q ≤ 16 ∧ q + 18 ≤ li ∧ li ≤ 200 ∧ 2 ≤ sp ∧ sp ≤ 65536 ∧ fs = (if (sp + 32) / 64 < 2 then 2 else (sp + 32) / 64)
def RST (pl0 rw0 pl1 rw1 : Nat) (st lw : Nat → Int32) : Prop := pl0 < 32 ∧ rw0 ≤ 15 ∧ pl1 < 32 ∧ rw1 ≤ 15 ∧ st 0 = nI pl0 ∧ lw 0 = nI rw0 ∧ st 1 = nI pl1 ∧ lw 1 = nI rw1
theorem RST.wr {pl0 rw0 pl1 rw1 a b : Nat} {st lw : Nat → Int32} (h : RST pl0 rw0 pl1 rw1 st lw) (ha : a < 32) (hb : b ≤ 15) : RST a b pl1 rw1 (upd st 0 (nI a)) (upd lw 0 (nI b)) := by
  obtain ⟨h1, h2, h3, h4, h5, h6, h7, h8⟩ := h
  exact ⟨ha, hb, h3, h4, pk_us, pk_us, by rw [pk_un (by decide)]; exact h7, by rw [pk_un (by decide)]; exact h8⟩
theorem RST.rd {pl0 rw0 pl1 rw1 a b : Nat} {st lw : Nat → Int32} (h : RST pl0 rw0 pl1 rw1 st lw) (ha : a < 32) (hb : b ≤ 15) : RST pl0 rw0 a b (upd st 1 (nI a)) (upd lw 1 (nI b)) := by
  obtain ⟨h1, h2, h3, h4, h5, h6, h7, h8⟩ := h
  exact ⟨h1, h2, ha, hb, by rw [pk_un (by decide)]; exact h5, by rw [pk_un (by decide)]; exact h6, pk_us, pk_us⟩
theorem subsub (a b c : Int32) : a - (b - c) = a - b + c := by
  rw [Int32.sub_eq_add_neg, Int32.sub_eq_add_neg, Int32.sub_eq_add_neg, Int32.neg_add, Int32.sub_eq_add_neg, Int32.neg_neg, Int32.add_assoc]
theorem signI (v : Int32) : (∃ n : Nat, v = nI n ∧ (n : Int) = v.toInt ∧ 0 ≤ v.toInt ∧ n < 2 ^ 31) ∨ ∃ n : Nat, v = -nI n ∧ -(n : Int) = v.toInt ∧ 0 < n := by
  have hlo := Int32.le_toInt v
  have hhi := Int32.toInt_lt v
  by_cases h : 0 ≤ v.toInt
  · refine Or.inl ⟨v.toInt.toNat, ?_, by omega, h, by omega⟩
    rw [eqT, nI_toInt (by omega)]; omega
  · refine Or.inr ⟨(-v.toInt).toNat, ?_, by omega, by omega⟩
    by_cases hm : v.toInt = -2 ^ 31
    · have : v = Int32.minValue := by
        rw [eqT, hm]; rfl
      subst this; rfl
    · rw [eqT, ngT (by omega)]; omega
theorem nonneg {v : Int32} (h : ¬ v < 0) : ∃ n : Nat, v = nI n ∧ (n : Int) = v.toInt ∧ n < 2 ^ 31 := by
  rcases signI v with ⟨n, h1, h2, h3, h4⟩ | ⟨n, h1, h2, h3⟩
  · exact ⟨n, h1, h2, h4⟩
  · exact absurd (ltT.mpr (by rw [zT]; omega)) h
theorem leN {v : Int32} {n b : Nat} (hn : (n : Int) = v.toInt) (hb : b < 2 ^ 31) (h : ¬ nI b < v) : n ≤ b := by
  have : ¬ (nI b).toInt < v.toInt := fun z => h (ltT.mpr z)
  rw [nI_toInt hb] at this; omega
