/-! what a throw asks beside the good words -/
def XA_IAE : List Cond := vx_atS "LineGolomb" 72 "java/lang/IllegalArgumentException" ["java/lang/RuntimeException", "java/lang/Exception"]
def XA_UOE : List Cond := vx_atS "LineGolomb" 91 "java/lang/UnsupportedOperationException" ["java/lang/RuntimeException", "java/lang/Exception"]
def XA_IOE : List Cond := vx_atS "LineGolomb" 126 "java/lang/IndexOutOfBoundsException" ["java/lang/RuntimeException", "java/lang/Exception"]
def XAL : List Cond := XA_IAE ++ (XA_UOE ++ XA_IOE)
theorem XAL_ok : ∀ w ∈ XAL, (w.onTables && (goodWord w || w.keepsCast)) = true := by decide +kernel
theorem XAL_tbl : ∀ w ∈ XAL, w ∈ lw_tbl := by decide +kernel
theorem XG_IAE : ∀ w ∈ Cond.classLink "LineGolomb" 68 "java/lang/IllegalArgumentException" :: Cond.initialized "java/lang/IllegalArgumentException" :: vx_atS "LineGolomb" 72 "java/lang/IllegalArgumentException" ["java/lang/RuntimeException", "java/lang/Exception"], vx_ot w = true := by decide +kernel
theorem XG_UOE : ∀ w ∈ Cond.classLink "LineGolomb" 87 "java/lang/UnsupportedOperationException" :: Cond.initialized "java/lang/UnsupportedOperationException" :: vx_atS "LineGolomb" 91 "java/lang/UnsupportedOperationException" ["java/lang/RuntimeException", "java/lang/Exception"], vx_ot w = true := by decide +kernel
theorem XG_IOE : ∀ w ∈ Cond.classLink "LineGolomb" 122 "java/lang/IndexOutOfBoundsException" :: Cond.initialized "java/lang/IndexOutOfBoundsException" :: vx_atS "LineGolomb" 126 "java/lang/IndexOutOfBoundsException" ["java/lang/RuntimeException", "java/lang/Exception"], vx_ot w = true := by decide +kernel
def STL : List (Nat × String) := [(70, "k is not 0 .. Q"), (75, "the number is not 0 .. 2^Q"), (89, "too many bits"), (97, "samples are not 0 .. 65535"), (124, "no such kind"), (131, "no such error"), (156, "no such bit"), (161, "not a bit"), (166, "fewer bits than none"), (174, "left is not 1 .. 65535"), (202, "the error is too far from 0"), (204, "no error has this number"), (219, "no such part of the state")]
def EXt (U : State) : Prop := ∀ w ∈ XAL, va_Nw w U
theorem EXt.warm {s U : State} (hW : s.WarmedH U.vm) (h : EXt s) : EXt U := by
  intro w hw
  have h1 := h w hw
  have h2 := XAL_ok w hw
  simp only [Bool.and_eq_true, Bool.or_eq_true] at h2
  rcases h2.2 with g | g
  · exact word_at hW (good_of_word g) h1
  · exact va_tabs h2.1 (rfl : (s.setVm U.vm).vm = U.vm) (Cond.before_shiftedCast (State.Shifted.of_warmed hW) w g h1)
theorem EXt.use {U : State} (h : EXt U) {A : Array Value} {w : Cond} (hw : w ∈ XAL) : w.before A U = true := by
  have h2 := XAL_ok w hw
  simp only [Bool.and_eq_true] at h2
  exact va_Nw.use h2.1 (h w hw)
/-- the words of throws, the texts, the two statics of Throwable -/
def EX (A : Nat → Prop) (sa : Nat → Nat) (U : State) : Prop := EXt U ∧ (∀ e ∈ STL, vk_R "LineGolomb" e.1 e.2 (sa e.1) U) ∧ vx_Zq Bundle.tN "UNASSIGNED_STACK" Bundle.steD A U U.heap ∧ vx_Zq Bundle.tN "SUPPRESSED_SENTINEL" Bundle.listD A U U.heap
theorem EX.call {A B : Nat → Prop} {sa : Nat → Nat} {s U : State} {H : Heap} {locs : List Loc} (h : EX A sa s) (hS : va_S A s.heap H locs) (hB : ∀ q, B q → A q) (hU : U.heap = H) (hW : s.WarmedH U.vm) : EX B sa U := by
  refine ⟨h.1.warm hW, fun e he => vk_R.warm hW (h.2.1 e he), ?_, ?_⟩
  · rw [hU]; exact ((h.2.2.1.kept hS.2.1).narrow hB).moved hW.alike
  · rw [hU]; exact ((h.2.2.2.kept hS.2.1).narrow hB).moved hW.alike
theorem EX.blind {A : Nat → Prop} {sa : Nat → Nat} {U : State} {g : JFrame} {mk : MethodId} {a : Array Value} (h : EX A sa U) : EX A sa (U.calling g mk a) :=
  ⟨h.1.warm (U := U.calling g mk a) (State.WarmedH.refl U), fun e he => vk_R.warm (U := U.calling g mk a) (State.WarmedH.refl U) (h.2.1 e he), h.2.2.1.moved (u := U) (U := U.calling g mk a) (Vm.Alike.refl U.vm), h.2.2.2.moved (u := U) (U := U.calling g mk a) (Vm.Alike.refl U.vm)⟩
theorem EX.at_IAE {A : Nat → Prop} {sa : Nat → Nat} {U : State} (h : EX A sa U) {a : Array Value} : ∀ w ∈ vx_atS "LineGolomb" 72 "java/lang/IllegalArgumentException" ["java/lang/RuntimeException", "java/lang/Exception"], w.before a U = true := fun w hw => h.1.use (List.mem_append_left _ hw)
theorem EX.at_UOE {A : Nat → Prop} {sa : Nat → Nat} {U : State} (h : EX A sa U) {a : Array Value} : ∀ w ∈ vx_atS "LineGolomb" 91 "java/lang/UnsupportedOperationException" ["java/lang/RuntimeException", "java/lang/Exception"], w.before a U = true := fun w hw => h.1.use (List.mem_append_right _ (List.mem_append_left _ hw))
theorem EX.at_IOE {A : Nat → Prop} {sa : Nat → Nat} {U : State} (h : EX A sa U) {a : Array Value} : ∀ w ∈ vx_atS "LineGolomb" 126 "java/lang/IndexOutOfBoundsException" ["java/lang/RuntimeException", "java/lang/Exception"], w.before a U = true := fun w hw => h.1.use (List.mem_append_right _ (List.mem_append_right _ hw))
theorem EX.st_70 {A : Nat → Prop} {sa : Nat → Nat} {U : State} (h : EX A sa U) : vk_R "LineGolomb" 70 "k is not 0 .. Q" (sa 70) U := h.2.1 (70, "k is not 0 .. Q") (by simp [STL])
theorem EX.st_75 {A : Nat → Prop} {sa : Nat → Nat} {U : State} (h : EX A sa U) : vk_R "LineGolomb" 75 "the number is not 0 .. 2^Q" (sa 75) U := h.2.1 (75, "the number is not 0 .. 2^Q") (by simp [STL])
theorem EX.st_89 {A : Nat → Prop} {sa : Nat → Nat} {U : State} (h : EX A sa U) : vk_R "LineGolomb" 89 "too many bits" (sa 89) U := h.2.1 (89, "too many bits") (by simp [STL])
theorem EX.st_97 {A : Nat → Prop} {sa : Nat → Nat} {U : State} (h : EX A sa U) : vk_R "LineGolomb" 97 "samples are not 0 .. 65535" (sa 97) U := h.2.1 (97, "samples are not 0 .. 65535") (by simp [STL])
theorem EX.st_124 {A : Nat → Prop} {sa : Nat → Nat} {U : State} (h : EX A sa U) : vk_R "LineGolomb" 124 "no such kind" (sa 124) U := h.2.1 (124, "no such kind") (by simp [STL])
theorem EX.st_131 {A : Nat → Prop} {sa : Nat → Nat} {U : State} (h : EX A sa U) : vk_R "LineGolomb" 131 "no such error" (sa 131) U := h.2.1 (131, "no such error") (by simp [STL])
theorem EX.st_156 {A : Nat → Prop} {sa : Nat → Nat} {U : State} (h : EX A sa U) : vk_R "LineGolomb" 156 "no such bit" (sa 156) U := h.2.1 (156, "no such bit") (by simp [STL])
theorem EX.st_161 {A : Nat → Prop} {sa : Nat → Nat} {U : State} (h : EX A sa U) : vk_R "LineGolomb" 161 "not a bit" (sa 161) U := h.2.1 (161, "not a bit") (by simp [STL])
theorem EX.st_166 {A : Nat → Prop} {sa : Nat → Nat} {U : State} (h : EX A sa U) : vk_R "LineGolomb" 166 "fewer bits than none" (sa 166) U := h.2.1 (166, "fewer bits than none") (by simp [STL])
theorem EX.st_174 {A : Nat → Prop} {sa : Nat → Nat} {U : State} (h : EX A sa U) : vk_R "LineGolomb" 174 "left is not 1 .. 65535" (sa 174) U := h.2.1 (174, "left is not 1 .. 65535") (by simp [STL])
theorem EX.st_202 {A : Nat → Prop} {sa : Nat → Nat} {U : State} (h : EX A sa U) : vk_R "LineGolomb" 202 "the error is too far from 0" (sa 202) U := h.2.1 (202, "the error is too far from 0") (by simp [STL])
theorem EX.st_204 {A : Nat → Prop} {sa : Nat → Nat} {U : State} (h : EX A sa U) : vk_R "LineGolomb" 204 "no error has this number" (sa 204) U := h.2.1 (204, "no error has this number") (by simp [STL])
theorem EX.st_219 {A : Nat → Prop} {sa : Nat → Nat} {U : State} (h : EX A sa U) : vk_R "LineGolomb" 219 "no such part of the state" (sa 219) U := h.2.1 (219, "no such part of the state") (by simp [STL])
/-- a method that throws E, the heap's old cells as they were -/
abbrev QT : Array Value → State → Outcome → State → Prop := va_Qi (S := Unit) (fun _ _ => False) (fun _ _ => True) (fun _ => False)
abbrev XT (E0 : String) : String → State → State → Prop := vx_X (S := Unit) (fun _ => True) (fun E _ _ => E = E0) (fun _ => False)
