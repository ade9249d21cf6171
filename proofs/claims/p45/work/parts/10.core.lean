/-! THE CORE. A known heap is a partial map from addresses to cells (q_H), all of them ours (from the first address of ours on);
rows of the kit over it; contracts q_P / q_Qi .. speak of it and of the heap's size. -/
abbrev q_H : Type := Nat → Option va_E
/-- class numbers; array classes; the first address of ours; the constants' addresses -/
abbrev q_E : Type := va_G × (Nat → ClassId) × Nat × (Nat → Nat)
def q_fn : List (String × Nat × String × String × String × String) := [("HighRecipes", 49, "HighRecipes$Tape", "length", "I", "HighRecipes"), ("HighRecipes$Tokens", 38, "HighRecipes$Tape", "length", "I", "HighRecipes"), ("HighRecipes$Parser", 68, "HighRecipes$Tokens", "here", "I", "HighRecipes"), ("HighRecipes$Parser", 31, "HighRecipes$Tokens", "kind", "LHighRecipes$Kind;", "HighRecipes"), ("HighRecipes$Parser", 109, "HighRecipes$Book", "panNames", "[J", "HighRecipes"), ("HighRecipes$Parser", 117, "HighRecipes$Book", "recipeNames", "[J", "HighRecipes"), ("HighRecipes$Kitchen", 55, "HighRecipes$Book", "panCount", "I", "HighRecipes"), ("HighRecipes$Parser", 78, "HighRecipes$Book", "panCount", "I", "HighRecipes"), ("HighRecipes", 83, "HighRecipes$Book", "panCount", "I", "HighRecipes"), ("HighRecipes$Parser", 50, "HighRecipes$Book", "recipeCount", "I", "HighRecipes"), ("HighRecipes", 88, "HighRecipes$Book", "recipeCount", "I", "HighRecipes"), ("HighRecipes", 91, "HighRecipes$Book", "actCount", "I", "HighRecipes"), ("HighRecipes$Parser", 143, "HighRecipes$Book", "actCount", "I", "HighRecipes"), ("HighRecipes", 74, "HighRecipes$Parser", "book", "LHighRecipes$Book;", "HighRecipes"), ("HighRecipes", 148, "HighRecipes$History", "total", "I", "HighRecipes"), ("HighRecipes$Kitchen", 69, "HighRecipes$Pan", "holds", "I", "HighRecipes"), ("HighRecipes", 113, "HighRecipes$Pan", "holds", "I", "HighRecipes"), ("HighRecipes$Kitchen", 80, "HighRecipes$Pan", "water", "I", "HighRecipes"), ("HighRecipes$Cooking", 163, "HighRecipes$Pan", "water", "I", "HighRecipes"), ("HighRecipes", 118, "HighRecipes$Pan", "water", "I", "HighRecipes"), ("HighRecipes$Cooking", 172, "HighRecipes$Pan", "meal", "I", "HighRecipes"), ("HighRecipes", 121, "HighRecipes$Pan", "meal", "I", "HighRecipes"), ("HighRecipes$Kitchen", 77, "HighRecipes$Pan", "heat", "I", "HighRecipes"), ("HighRecipes$Cooking", 160, "HighRecipes$Pan", "heat", "I", "HighRecipes"), ("HighRecipes", 124, "HighRecipes$Pan", "heat", "I", "HighRecipes"), ("HighRecipes$Cooking", 181, "HighRecipes$Pan", "done", "I", "HighRecipes"), ("HighRecipes", 127, "HighRecipes$Pan", "done", "I", "HighRecipes"), ("HighRecipes", 144, "HighRecipes$Kitchen", "warnings", "LHighRecipes$History;", "HighRecipes"), ("HighRecipes$Cooking", 114, "HighRecipes$Kitchen", "notes", "LHighRecipes$History;", "HighRecipes"), ("HighRecipes", 166, "HighRecipes$Kitchen", "notes", "LHighRecipes$History;", "HighRecipes"), ("HighRecipes$Cooking", 27, "HighRecipes$Kitchen", "book", "LHighRecipes$Book;", "HighRecipes"), ("HighRecipes", 82, "HighRecipes$Kitchen", "book", "LHighRecipes$Book;", "HighRecipes"), ("HighRecipes$Cooking", 166, "HighRecipes$Kitchen", "altitude", "I", "HighRecipes"), ("HighRecipes", 94, "HighRecipes$Kitchen", "altitude", "I", "HighRecipes"), ("HighRecipes", 100, "HighRecipes$Kitchen", "servings", "I", "HighRecipes"), ("HighRecipes$Cooking", 212, "HighRecipes$Kitchen", "servings", "I", "HighRecipes"), ("HighRecipes", 103, "HighRecipes$Kitchen", "spoon", "I", "HighRecipes"), ("HighRecipes$Cooking", 215, "HighRecipes$Kitchen", "spoon", "I", "HighRecipes"), ("HighRecipes$Cooking", 22, "HighRecipes$Kitchen", "minute", "I", "HighRecipes"), ("HighRecipes", 106, "HighRecipes$Kitchen", "minute", "I", "HighRecipes"), ("HighRecipes", 198, "HighRecipes$Cooking", "firstWarningAct", "I", "HighRecipes"), ("HighRecipes$Cooking", 56, "HighRecipes$Act", "kind", "LHighRecipes$Kind;", "HighRecipes"), ("HighRecipes$Parser", 157, "HighRecipes$Act", "kind", "LHighRecipes$Kind;", "HighRecipes"), ("HighRecipes$Cooking", 130, "HighRecipes$Act", "pan", "I", "HighRecipes"), ("HighRecipes$Parser", 203, "HighRecipes$Act", "pan", "I", "HighRecipes"), ("HighRecipes$Cooking", 66, "HighRecipes$Act", "recipe", "I", "HighRecipes"), ("HighRecipes$Parser", 215, "HighRecipes$Act", "recipe", "I", "HighRecipes"), ("HighRecipes$Cooking", 141, "HighRecipes$Act", "poursMeal", "Z", "HighRecipes"), ("HighRecipes$Parser", 189, "HighRecipes$Act", "poursMeal", "Z", "HighRecipes"), ("HighRecipes$Cooking", 99, "HighRecipes$Act", "value", "LHighRecipes$Value;", "HighRecipes"), ("HighRecipes$Parser", 166, "HighRecipes$Act", "value", "LHighRecipes$Value;", "HighRecipes"), ("HighRecipes$Cooking", 72, "HighRecipes$Act", "lastCompare", "LHighRecipes$Value;", "HighRecipes"), ("HighRecipes$Parser", 177, "HighRecipes$Act", "lastCompare", "LHighRecipes$Value;", "HighRecipes"), ("HighRecipes$Cooking", 80, "HighRecipes$Act", "block", "LHighRecipes$Act;", "HighRecipes"), ("HighRecipes$Parser", 170, "HighRecipes$Act", "block", "LHighRecipes$Act;", "HighRecipes"), ("HighRecipes$Cooking", 83, "HighRecipes$Act", "otherwise", "LHighRecipes$Act;", "HighRecipes"), ("HighRecipes$Parser", 183, "HighRecipes$Act", "otherwise", "LHighRecipes$Act;", "HighRecipes"), ("HighRecipes$Cooking", 44, "HighRecipes$Act", "next", "LHighRecipes$Act;", "HighRecipes"), ("HighRecipes$Parser", 134, "HighRecipes$Act", "next", "LHighRecipes$Act;", "HighRecipes"), ("HighRecipes$Cooking", 196, "HighRecipes$Value", "kind", "LHighRecipes$Kind;", "HighRecipes"), ("HighRecipes$Parser", 236, "HighRecipes$Value", "kind", "LHighRecipes$Kind;", "HighRecipes"), ("HighRecipes$Cooking", 209, "HighRecipes$Value", "number", "I", "HighRecipes"), ("HighRecipes$Parser", 237, "HighRecipes$Value", "number", "I", "HighRecipes"), ("HighRecipes$Cooking", 188, "HighRecipes$Value", "left", "LHighRecipes$Value;", "HighRecipes"), ("HighRecipes$Parser", 224, "HighRecipes$Value", "left", "LHighRecipes$Value;", "HighRecipes"), ("HighRecipes$Cooking", 193, "HighRecipes$Value", "right", "LHighRecipes$Value;", "HighRecipes"), ("HighRecipes$Parser", 227, "HighRecipes$Value", "right", "LHighRecipes$Value;", "HighRecipes"), ("HighRecipes$Cooking", 206, "HighRecipes$Value", "ahead", "LHighRecipes$Value;", "HighRecipes"), ("HighRecipes$Parser", 230, "HighRecipes$Value", "ahead", "LHighRecipes$Value;", "HighRecipes"), ("HighRecipesLaw$Node", 52, "HighRecipesLaw", "MEASURES", "[Ljava/lang/String;", "HighRecipesLaw"), ("HighRecipesLaw$Node", 58, "HighRecipesLaw", "CONTENTS", "[Ljava/lang/String;", "HighRecipesLaw"), ("HighRecipesLaw$Node", 72, "HighRecipesLaw", "SIGNS", "[Ljava/lang/String;", "HighRecipesLaw")]
def q_mn : List (String × Nat × MethodName × String) := [("HighRecipes", 9, ⟨"HighRecipes$Tape", "<init>", "()V"⟩, "HighRecipes"), ("HighRecipes", 18, ⟨"HighRecipes$Parser", "<init>", "()V"⟩, "HighRecipes"), ("HighRecipes$Parser", 9, ⟨"HighRecipes$Tokens", "<init>", "()V"⟩, "HighRecipes"), ("HighRecipes$Parser", 18, ⟨"HighRecipes$Book", "<init>", "()V"⟩, "HighRecipes"), ("HighRecipes$Kitchen", 21, ⟨"HighRecipes$History", "<init>", "()V"⟩, "HighRecipes"), ("HighRecipes$Kitchen", 33, ⟨"HighRecipes$Book", "<init>", "()V"⟩, "HighRecipes"), ("HighRecipes$Kitchen", 45, ⟨"HighRecipes$Pan", "<init>", "()V"⟩, "HighRecipes"), ("HighRecipes$Kitchen", 106, ⟨"HighRecipes", "clamped", "(III)I"⟩, "HighRecipes"), ("HighRecipes$Kitchen", 110, ⟨"HighRecipes", "quotient", "(II)I"⟩, "HighRecipes"), ("HighRecipes$Pan", 40, ⟨"HighRecipes", "quotient", "(II)I"⟩, "HighRecipes"), ("HighRecipes$Cooking", 178, ⟨"HighRecipes", "quotient", "(II)I"⟩, "HighRecipes"), ("HighRecipes$Cooking", 106, ⟨"HighRecipes", "clamped", "(III)I"⟩, "HighRecipes"), ("HighRecipesLaw$Dice", 14, ⟨"HighRecipesLaw", "below", "(II)I"⟩, "HighRecipesLaw"), ("HighRecipesLaw", 50, ⟨"HighRecipesLaw$Kitchen", "<init>", "()V"⟩, "HighRecipesLaw"), ("HighRecipesLaw$Node", 63, ⟨"HighRecipesLaw", "pan", "(I)Ljava/lang/String;"⟩, "HighRecipesLaw"), ("HighRecipesLaw$Act", 87, ⟨"HighRecipesLaw", "pan", "(I)Ljava/lang/String;"⟩, "HighRecipesLaw")]
def q_dc : List MethodName := [⟨"java/lang/RuntimeException", "<init>", "()V"⟩, ⟨"java/lang/RuntimeException", "<init>", "(Ljava/lang/String;)V"⟩, ⟨"java/lang/Exception", "<init>", "()V"⟩, ⟨"java/lang/Exception", "<init>", "(Ljava/lang/String;)V"⟩, ⟨"java/lang/Throwable", "<init>", "()V"⟩, ⟨"java/lang/Throwable", "<init>", "(Ljava/lang/String;)V"⟩, ⟨"java/lang/Enum", "ordinal", "()I"⟩]
def q_ca : List (String × String) := [("java/lang/IndexOutOfBoundsException", "java/lang/IndexOutOfBoundsException"), ("java/lang/IllegalArgumentException", "java/lang/IllegalArgumentException"), ("java/lang/IllegalStateException", "java/lang/IllegalStateException"), ("[B", "java/lang/Cloneable")]
def q_ao : List String := ["HighRecipes$Kind", "HighRecipes$Act", "HighRecipes$Pan", "HighRecipesLaw$Act", "HighRecipesLaw$Node", "java/lang/String"]
def q_nm : List String := ["PAN", "HOLDS", "RECIPE", "POUR", "WATER", "MEAL", "INTO", "HEAT", "TO", "BOIL", "FOR", "EMPTY", "REST", "NOTE", "COOK", "AGAIN", "IF", "AND", "ELSE", "ALTITUDE", "BOILING", "MINUTE", "SERVINGS", "SPOON", "OF", "DONE", "ROOM", "OPEN", "CLOSE", "SEMICOLON", "LESS", "GREATER", "EQUAL", "PLUS", "MINUS", "TIMES", "OVER", "NAME", "NUMBER", "END", "BAD"]
def q_ord : List Int32 := [0, 1, 2, 3, 4, 5, 6, 7, 8, 9, 10, 11, 12, 13, 14, 15, 16, 17, 18, 19, 20, 21, 22, 23, 24, 25, 26, 27, 28, 29, 30, 31, 32, 33, 34, 35, 36, 37, 38, 39, 40]
def q_sig : List Int32 := [(-1), (-1), (-1), (-1), (-1), (-1), (-1), (-1), (-1), (-1), (-1), (-1), (-1), (-1), (-1), (-1), (-1), (-1), (-1), (-1), (-1), (-1), (-1), (-1), (-1), (-1), (-1), 40, 41, 59, 60, 62, 61, 43, 45, 42, 47, (-1), (-1), (-1), (-1)]
def q_wrd : List Int64 := [16430, 8892563, 609330693, 540338, 24170674, 431148, 309903, 267316, 655, 81196, 6642, 5685913, 595572, 474757, 114155, 1279278, 294, 1476, 176741, 47925843077, 2660640199, 446125701, 658831096051, 20463086, 486, 146885, 605677, (-1), (-1), (-1), (-1), (-1), (-1), (-1), (-1), (-1), (-1), (-1), (-1), (-1), (-1)]
def q_sw : List Int32 := [0, 0, 0, 3, 19, 20, 0, 4, 0, 5, 0, 6, 8, 0, 7, 1, 2, 0, 0, 14, 15, 16, 17, 18, 0, 21, 0, 0, 0, 0, 0, 0, 0, 10, 11, 12, 13, 0, 9, 0, 0]
def q_own : List (String × Nat × String) := [("HighRecipesLaw", 62, "pan "), ("HighRecipesLaw", 35, "p"), ("HighRecipesLaw", 70, " holds "), ("HighRecipesLaw", 75, ";"), ("HighRecipesLaw", 89, "recipe r"), ("HighRecipesLaw$Act", 63, "("), ("HighRecipesLaw$Act", 82, "pour "), ("HighRecipesLaw$Node", 39, ""), ("HighRecipesLaw$Node", 61, " of "), ("HighRecipesLaw$Node", 67, "("), ("HighRecipesLaw$Node", 75, ")"), ("HighRecipesLaw$Act", 85, " water into "), ("HighRecipesLaw$Act", 93, ";"), ("HighRecipesLaw$Act", 95, " meal into "), ("HighRecipesLaw$Act", 97, "; "), ("HighRecipesLaw$Act", 99, "heat "), ("HighRecipesLaw$Act", 101, " to "), ("HighRecipesLaw$Act", 103, "boil "), ("HighRecipesLaw$Act", 105, " for "), ("HighRecipesLaw$Act", 107, ";\n"), ("HighRecipesLaw$Act", 109, "empty "), ("HighRecipesLaw$Act", 111, "rest "), ("HighRecipesLaw$Act", 113, " ;"), ("HighRecipesLaw$Act", 115, "note "), ("HighRecipesLaw$Act", 117, "cook r"), ("HighRecipesLaw$Act", 122, "again "), ("HighRecipesLaw$Act", 128, "if "), ("HighRecipesLaw$Act", 130, " and "), ("HighRecipesLaw$Act", 136, "else"), ("HighRecipesLaw$Act", 76, ")"), ("HighRecipesLaw", 95, "\n"), ("HighRecipesLaw", 251, "pan a holds 30;recipe r (heat a to "), ("HighRecipesLaw", 253, ";boil a for 1;)"), ("HighRecipesLaw", 255, "altitude"), ("HighRecipesLaw", 256, "boiling"), ("HighRecipesLaw", 258, "minute"), ("HighRecipesLaw", 259, "servings"), ("HighRecipesLaw", 260, "spoon"), ("HighRecipesLaw", 265, "water"), ("HighRecipesLaw", 267, "meal"), ("HighRecipesLaw", 269, "heat"), ("HighRecipesLaw", 271, "done"), ("HighRecipesLaw", 273, "room"), ("HighRecipesLaw", 278, "+"), ("HighRecipesLaw", 280, "-"), ("HighRecipesLaw", 282, "*"), ("HighRecipesLaw", 284, "/"), ("HighRecipesLaw$Act", 147, "<"), ("HighRecipesLaw$Act", 149, ">"), ("HighRecipesLaw$Act", 151, "=")]
def q_len : List Nat := [4, 1, 7, 1, 8, 1, 5, 0, 4, 1, 1, 12, 1, 11, 2, 5, 4, 5, 5, 2, 6, 5, 2, 5, 6, 6, 3, 5, 4, 1, 1, 35, 15, 8, 7, 6, 8, 5, 5, 4, 4, 4, 4, 1, 1, 1, 1, 1, 1, 1]
def q_byt : List (List Int32) := [[112, 97, 110, 32], [112], [32, 104, 111, 108, 100, 115, 32], [59], [114, 101, 99, 105, 112, 101, 32, 114], [40], [112, 111, 117, 114, 32], [], [32, 111, 102, 32], [40], [41], [32, 119, 97, 116, 101, 114, 32, 105, 110, 116, 111, 32], [59], [32, 109, 101, 97, 108, 32, 105, 110, 116, 111, 32], [59, 32], [104, 101, 97, 116, 32], [32, 116, 111, 32], [98, 111, 105, 108, 32], [32, 102, 111, 114, 32], [59, 10], [101, 109, 112, 116, 121, 32], [114, 101, 115, 116, 32], [32, 59], [110, 111, 116, 101, 32], [99, 111, 111, 107, 32, 114], [97, 103, 97, 105, 110, 32], [105, 102, 32], [32, 97, 110, 100, 32], [101, 108, 115, 101], [41], [10], [112, 97, 110, 32, 97, 32, 104, 111, 108, 100, 115, 32, 51, 48, 59, 114, 101, 99, 105, 112, 101, 32, 114, 32, 40, 104, 101, 97, 116, 32, 97, 32, 116, 111, 32], [59, 98, 111, 105, 108, 32, 97, 32, 102, 111, 114, 32, 49, 59, 41], [97, 108, 116, 105, 116, 117, 100, 101], [98, 111, 105, 108, 105, 110, 103], [109, 105, 110, 117, 116, 101], [115, 101, 114, 118, 105, 110, 103, 115], [115, 112, 111, 111, 110], [119, 97, 116, 101, 114], [109, 101, 97, 108], [104, 101, 97, 116], [100, 111, 110, 101], [114, 111, 111, 109], [43], [45], [42], [47], [60], [62], [61]]
abbrev q_tys (E : q_E) : List (ClassId × FieldType) := [(E.2.1 0, .int), (E.2.1 1, .long), (E.2.1 2, .byte), (E.2.1 3, .object "HighRecipes$Act"), (E.2.1 4, .object "HighRecipes$Pan"), (E.2.1 5, .object "HighRecipes$Kind"), (E.2.1 6, .object "HighRecipesLaw$Act"), (E.2.1 7, .object "HighRecipesLaw$Node"), (E.2.1 8, .array .int), (E.2.1 9, .array (.object "HighRecipesLaw$Act"))]
abbrev q_ge (E : q_E) : Nat → Prop := fun q => E.2.2.1 ≤ q
def q_W (E : q_E) (f : q_H) (n : Nat) (H : Heap) : Prop := H.size = n ∧ E.2.2.1 ≤ n ∧ ∀ (a : Nat) (e : va_E), f a = some e → E.2.2.1 ≤ a ∧ va_at E.1 vwCl (a, e) H
theorem q_W.one {E : q_E} {f : q_H} {n : Nat} {H : Heap} {a : Nat} {e : va_E} (h : q_W E f n H) (he : f a = some e) : va_P E.1 vwCl [(a, e)] H := by
  intro k q hk
  match k, hk with
  | 0, hk => cases hk; exact (h.2.2 a e he).2
  | k + 1, hk => simp at hk
theorem q_W.ge {E : q_E} {f : q_H} {n : Nat} {H : Heap} {a : Nat} {e : va_E} (h : q_W E f n H) (he : f a = some e) : q_ge E a := (h.2.2 a e he).1
theorem q_W.lt {E : q_E} {f : q_H} {n : Nat} {H : Heap} {a : Nat} {e : va_E} (h : q_W E f n H) (he : f a = some e) : a < n := by
  have h1 : a < H.size := (h.2.2 a e he).2.lt
  rw [h.1] at h1
  exact h1
theorem q_W.set {E : q_E} {f : q_H} {n : Nat} {H H1 : Heap} {a : Nat} {e0 e : va_E} (h : q_W E f n H) (he : f a = some e0) (hat : va_at E.1 vwCl (a, e) H1) (hz : H1.size = H.size) (oq : ∀ q : Nat, q ≠ a → H1[q]? = H[q]?) : q_W E (va_up f a (some e)) n H1 := by
  refine ⟨hz.trans h.1, h.2.1, fun b e' hb => ?_⟩
  by_cases hba : b = a
  · subst hba
    rw [va_up_self] at hb
    cases hb
    exact ⟨(h.2.2 b e0 he).1, hat⟩
  · rw [va_up_ne _ _ hba] at hb
    exact ⟨(h.2.2 b e' hb).1, (h.2.2 b e' hb).2.kept (oq b hba)⟩
theorem q_W.push {E : q_E} {f : q_H} {n : Nat} {H H1 : Heap} {e : va_E} (h : q_W E f n H) (hat : va_at E.1 vwCl (n, e) H1) (hz : H1.size = n + 1) (oq : ∀ q : Nat, q < n → H1[q]? = H[q]?) : q_W E (va_up f n (some e)) (n + 1) H1 := by
  refine ⟨hz, Nat.le_succ_of_le h.2.1, fun b e' hb => ?_⟩
  by_cases hba : b = n
  · subst hba
    rw [va_up_self] at hb
    cases hb
    exact ⟨h.2.1, hat⟩
  · rw [va_up_ne _ _ hba] at hb
    exact ⟨(h.2.2 b e' hb).1, (h.2.2 b e' hb).2.kept (oq b (h.lt hb))⟩
/-- looking a cell up behind an update -/
theorem q_ne {f : q_H} {k j : Nat} {v x : Option va_E} (h : j ≠ k) (h2 : f j = x) : va_up f k v j = x := (va_up_ne f v h).trans h2
theorem q_eq {f : q_H} {k : Nat} {v : Option va_E} : va_up f k v k = v := va_up_self f k v
theorem q_upup {f : q_H} {k : Nat} {v w : Option va_E} : va_up (va_up f k v) k w = va_up f k w := bx_uu f k v w
/-- a row of texts of the law; it holds the texts from k on -/
def q_Tx (c n : String) (a N k : Nat) (E : q_E) (U : State) (H : Heap) : Prop := va_Z c n "[Ljava/lang/String;" (.ref a) (q_ge E) U H ∧ va_T (.object "java/lang/String") a N (fun j => .ref (E.2.2.2 (200 + (k + j)))) (q_ge E) U H
theorem q_Tx.moved {c n : String} {a N k : Nat} {E : q_E} {u U : State} {H : Heap} (hvm : u.vm.Alike U.vm) (h : q_Tx c n a N k E u H) : q_Tx c n a N k E U H := ⟨va_Z.moved hvm h.1, va_T.moved hvm h.2⟩
theorem q_Tx.kept {c n : String} {a N k : Nat} {E : q_E} {U : State} {H H1 : Heap} (h : q_Tx c n a N k E U H) (hq : ∀ a : Nat, a < H.size → ¬ q_ge E a → H1[a]? = H[a]?) : q_Tx c n a N k E U H1 := ⟨h.1.kept hq, h.2.kept hq⟩
/-- Integer's rows of digits -/
def q_d1 (j : Nat) : Int32 := nI (48 + j % 10)
def q_d10 (j : Nat) : Int32 := nI (48 + j / 10)
def q_Dg (n : String) (a : Nat) (g : Nat → Int32) (E : q_E) (U : State) (H : Heap) : Prop := va_Z "java/lang/Integer" n "[B" (.ref a) (q_ge E) U H ∧ va_T .byte a 100 (fun j => .int (g j)) (q_ge E) U H
theorem q_Dg.moved {n : String} {a : Nat} {g : Nat → Int32} {E : q_E} {u U : State} {H : Heap} (hvm : u.vm.Alike U.vm) (h : q_Dg n a g E u H) : q_Dg n a g E U H := ⟨va_Z.moved hvm h.1, va_T.moved hvm h.2⟩
theorem q_Dg.kept {n : String} {a : Nat} {g : Nat → Int32} {E : q_E} {U : State} {H H1 : Heap} (h : q_Dg n a g E U H) (hq : ∀ a : Nat, a < H.size → ¬ q_ge E a → H1[a]? = H[a]?) : q_Dg n a g E U H1 := ⟨h.1.kept hq, h.2.kept hq⟩
/-- the law's own texts; two of them may be one -/
def q_Sx (E : q_E) (U : State) (H : Heap) : Prop := (∀ i : Nat, i < 50 → va_O "java/lang/String" (E.2.2.2 (200 + i)) (q_ge E) U H ∧ va_OF "java/lang/String" "coder" "B" (.int 0) (E.2.2.2 (200 + i)) (q_ge E) U H ∧ va_OF "java/lang/String" "value" "[B" (.ref (E.2.2.2 (300 + i))) (E.2.2.2 (200 + i)) (q_ge E) U H ∧ va_T .byte (E.2.2.2 (300 + i)) (q_len.getD i 0) (fun j => .int ((q_byt.getD i []).getD j 0)) (q_ge E) U H) ∧ True
theorem q_Sx.moved {E : q_E} {u U : State} {H : Heap} (hvm : u.vm.Alike U.vm) (h : q_Sx E u H) : q_Sx E U H := ⟨fun i hi => ⟨va_O.moved hvm (h.1 i hi).1, va_OF.moved hvm (h.1 i hi).2.1, va_OF.moved hvm (h.1 i hi).2.2.1, va_T.moved hvm (h.1 i hi).2.2.2⟩, trivial⟩
theorem q_Sx.kept {E : q_E} {U : State} {H H1 : Heap} (h : q_Sx E U H) (hq : ∀ a : Nat, a < H.size → ¬ q_ge E a → H1[a]? = H[a]?) : q_Sx E U H1 := ⟨fun i hi => ⟨(h.1 i hi).1.kept hq, (h.1 i hi).2.1.kept hq, (h.1 i hi).2.2.1.kept hq, (h.1 i hi).2.2.2.kept hq⟩, trivial⟩
theorem q_Sx.one {E : q_E} {U : State} {H : Heap} {i : Nat} (h : q_Sx E U H) (hi : i < 50) : vk_S 1 [q_len.getD i 0] [q_byt.getD i []] (fun _ => E.2.2.2 (200 + i)) (fun _ => E.2.2.2 (300 + i)) (q_ge E) U H := by
  refine ⟨fun j hj => ?_, fun j k hj hk _ => by omega⟩
  obtain rfl : j = 0 := by omega
  exact h.1 i hi
def va_AA (t : FieldType) (U : State) : Prop := (Cond.arrayOver (.array t)).before #[] U = true
theorem va_AA.of {t : FieldType} {A : Array Value} {U : State} (h : (Cond.arrayOver (.array t)).before A U = true) : va_AA t U := h
theorem va_AA.use {t : FieldType} {A : Array Value} {U : State} (h : va_AA t U) : (Cond.arrayOver (.array t)).before A U = true := h
theorem va_AA.moved {t : FieldType} {u U : State} (hvm : u.vm.Alike U.vm) (h : va_AA t u) : va_AA t U := by
  obtain ⟨comp, c, k, h1, h2, h3, h4, h5⟩ := arrayOverA_spec h
  obtain ⟨k', hk', he⟩ := hvm.2.2 _ _ h3
  have hi : (U.vm.classes.findIdx? fun (x : Class) => match x.kind with | .array component _ => component == comp | _ => false) = some c := by
    have e1 := va_idx_bare U.vm comp
    have e2 := va_idx_bare u.vm comp
    have e3 : U.vm.bare = u.vm.bare := by first | exact hvm.bare_eq | exact hvm.bare_eq.symm
    rw [e3] at e1
    exact e1.symm.trans (e2.trans h2)
  have hkind : k'.kind = .array comp (.array t) := by rw [he]; exact h4
  have f1 : U.vm.findClass (FieldType.array t).toString = some comp := by rw [hvm.findClass]; exact h1
  have f2 : U.vm.findClass ("[" ++ (FieldType.array t).toString) = some c := by rw [hvm.findClass]; exact h5
  unfold va_AA Cond.before Cond.holds
  simp only [Cond.value]
  rw [f1, Option.bind_some]
  refine (congrArg (fun o : Option Nat => (o.bind (fun c => (U.vm.classes[c]?).map fun (k : Class) => match k.kind with | .array _ ty => decide (ty = FieldType.array t) && decide (U.vm.findClass ("[" ++ (FieldType.array t).toString) = some c) | _ => false) == some true)) hi).trans ?_
  simp [hk', hkind, f2]
/-! what lies outside, and never changes -/
def q_St (E : q_E) (U : State) (H : Heap) : Prop :=
  va_En "HighRecipes$Kind" "LHighRecipes$Kind;" q_nm [("java/lang/Enum", "ordinal", "I", q_ord), ("HighRecipes$Kind", "sign", "I", q_sig)] E.2.2.2 (q_ge E) U H ∧
  va_Ef 41 "HighRecipes$Kind" "word" "J" (fun i => .long (q_wrd.getD i 0)) E.2.2.2 (q_ge E) U H ∧
  (va_Z "HighRecipes$Kind" "ALL" "[LHighRecipes$Kind;" (.ref (E.2.2.2 100)) (q_ge E) U H ∧ va_T (.object "HighRecipes$Kind") (E.2.2.2 100) 41 (fun j => .ref (E.2.2.2 j)) (q_ge E) U H) ∧
  (va_Z "HighRecipes$1" "$SwitchMap$HighRecipes$Kind" "[I" (.ref (E.2.2.2 101)) (q_ge E) U H ∧ va_T .int (E.2.2.2 101) 41 (fun j => .int (q_sw.getD j 0)) (q_ge E) U H) ∧
  (q_Tx "HighRecipesLaw" "MEASURES" (E.2.2.2 102) 5 33 E U H ∧ q_Tx "HighRecipesLaw" "CONTENTS" (E.2.2.2 103) 5 38 E U H ∧ q_Tx "HighRecipesLaw" "SIGNS" (E.2.2.2 104) 4 43 E U H ∧ q_Tx "HighRecipesLaw$Act" "COMPARES" (E.2.2.2 105) 3 47 E U H) ∧
  q_Sx E U H ∧
  (vx_Zq Bundle.tN "UNASSIGNED_STACK" Bundle.steD (q_ge E) U H ∧ vx_Zq Bundle.tN "SUPPRESSED_SENTINEL" Bundle.listD (q_ge E) U H) ∧
  va_Z "java/lang/String" "COMPACT_STRINGS" "Z" (.int 1) (q_ge E) U H ∧ va_Zq "jdk/internal/util/Preconditions" "SIOOBE_FORMATTER" "Ljava/util/function/BiFunction;" (q_ge E) U H ∧
  q_Dg "DigitOnes" (E.2.2.2 106) q_d1 E U H ∧ q_Dg "DigitTens" (E.2.2.2 107) q_d10 E U H ∧ (E.2.2.2 109 ≤ 260 ∧ ∃ g : Nat → Int32, va_T .int (E.2.2.2 108) (E.2.2.2 109) (fun j => .int (g j)) (q_ge E) U H)
theorem q_St.moved {E : q_E} {u U : State} {H : Heap} (hvm : u.vm.Alike U.vm) (h : q_St E u H) : q_St E U H := by
  obtain ⟨h1, h2, ⟨h3, h4⟩, ⟨h5, h6⟩, ⟨h7, h8, h9, h10⟩, h11, ⟨h12, h13⟩, h14, h15, h16, h17, h19, g, h18⟩ := h
  exact ⟨va_En.moved hvm h1, va_Ef.moved hvm h2, ⟨va_Z.moved hvm h3, va_T.moved hvm h4⟩, ⟨va_Z.moved hvm h5, va_T.moved hvm h6⟩, ⟨q_Tx.moved hvm h7, q_Tx.moved hvm h8, q_Tx.moved hvm h9, q_Tx.moved hvm h10⟩, q_Sx.moved hvm h11, ⟨vx_Zq.moved hvm h12, vx_Zq.moved hvm h13⟩, va_Z.moved hvm h14, va_Zq.moved hvm h15, q_Dg.moved hvm h16, q_Dg.moved hvm h17, h19, g, va_T.moved hvm h18⟩
theorem q_St.kept {E : q_E} {U : State} {H H1 : Heap} (h : q_St E U H) (hq : ∀ a : Nat, a < H.size → ¬ q_ge E a → H1[a]? = H[a]?) : q_St E U H1 := by
  obtain ⟨h1, h2, ⟨h3, h4⟩, ⟨h5, h6⟩, ⟨h7, h8, h9, h10⟩, h11, ⟨h12, h13⟩, h14, h15, h16, h17, h19, g, h18⟩ := h
  exact ⟨h1.kept hq, h2.kept hq, ⟨h3.kept hq, h4.kept hq⟩, ⟨h5.kept hq, h6.kept hq⟩, ⟨h7.kept hq, h8.kept hq, h9.kept hq, h10.kept hq⟩, h11.kept hq, ⟨h12.kept hq, h13.kept hq⟩, h14.kept hq, h15.kept hq, h16.kept hq, h17.kept hq, h19, g, h18.kept hq⟩
/-- words that the tables alone decide -/
def q_xw (E : q_E) (U : State) : Prop :=
  (∀ q ∈ q_fn, va_Nw (.fieldLinkNest q.1 q.2.1 q.2.2.1 q.2.2.2.1 q.2.2.2.2.1 q.2.2.2.2.2) U) ∧ (∀ q ∈ q_mn, va_Nw (.methodLinkNest q.1 q.2.1 q.2.2.1 q.2.2.2) U) ∧ (∀ q ∈ q_dc, va_Nw (.declares q) U) ∧ (∀ q ∈ q_ca, va_Nw (.castable q.1 q.2) U) ∧ (∀ q ∈ q_ao, va_AO q U) ∧
  vk_R "HighRecipes" 54 "the tape would be too long" (E.2.2.2 400) U ∧ vk_R "HighRecipes" 222 "a number is too small or too great" (E.2.2.2 401) U ∧ vk_R "HighRecipes" 230 "there is no such pan" (E.2.2.2 402) U ∧ vk_R "HighRecipes" 227 "there is nothing of this number" (E.2.2.2 403) U ∧
  (∀ i, i < 50 → vk_R (q_own.getD i ("", 0, "")).1 (q_own.getD i ("", 0, "")).2.1 (q_own.getD i ("", 0, "")).2.2 (E.2.2.2 (200 + i)) U) ∧ va_AA .int U ∧ va_AA (.object "HighRecipesLaw$Act") U
theorem q_xw.warm {E : q_E} {s U : State} (hW : s.WarmedH U.vm) (h : q_xw E s) : q_xw E U := by
  obtain ⟨h1, h2, h3, h4, h5, h6, h7, h8, h9, h10, h11, h12⟩ := h
  exact ⟨fun q hq => va_Nw.warmF hW (h1 q hq), fun q hq => va_Nw.warmM hW (h2 q hq), fun q hq => va_Nw.warmD hW (h3 q hq), fun q hq => va_Nw.warmC hW (h4 q hq), fun q hq => va_AO.moved hW.alike (h5 q hq), vk_R.warm hW h6, vk_R.warm hW h7, vk_R.warm hW h8, vk_R.warm hW h9, fun i hi => vk_R.warm hW (h10 i hi), va_AA.moved hW.alike h11, va_AA.moved hW.alike h12⟩
def q_A (E : q_E) (U : State) : Prop := va_K E.1 vwCl (q_tys E) U ∧ E.2.2.1 ≤ U.heap.size ∧ q_St E U U.heap ∧ q_xw E U
theorem q_A.go {E : q_E} {s U : State} {H : Heap} {locs : List Loc} (h : q_A E s) (hS : va_S (q_ge E) s.heap H locs) (hU : U.heap = H) (hW : s.WarmedH U.vm) : q_A E U := by
  refine ⟨va_K.moved hW.alike h.1, ?_, ?_, h.2.2.2.warm hW⟩
  · rw [hU]; exact Nat.le_trans h.2.1 hS.1
  · rw [hU]; exact q_St.moved hW.alike (h.2.2.1.kept hS.2.1)
def q_P (E : q_E) (av : List Value) (f : q_H) (n : Nat) : Array Value → State → Prop := va_Pc av (fun U => q_A E U ∧ q_W E f n U.heap)
theorem q_P.blind {E : q_E} {av : List Value} {f : q_H} {n : Nat} : FrameBlind (q_P E av f n) := fun a U g mk q => ⟨q.1, q_A.go (s := U) (U := U.calling g mk a) q.2.1 va_S.rf rfl (State.WarmedH.refl U), q.2.2⟩
abbrev q_Qi (E : q_E) (post : Int32 → q_H → Nat → Prop) : Array Value → State → Outcome → State → Prop := va_Qi (S := q_H × Nat) (fun r u => post r u.1 u.2) (fun u t => q_W E u.1 u.2 t.heap) (q_ge E)
abbrev q_Ql (E : q_E) (post : Int64 → q_H → Nat → Prop) : Array Value → State → Outcome → State → Prop := va_Ql (S := q_H × Nat) (fun r u => post r u.1 u.2) (fun u t => q_W E u.1 u.2 t.heap) (q_ge E)
abbrev q_Qd (E : q_E) (post : UInt64 → q_H → Nat → Prop) : Array Value → State → Outcome → State → Prop := va_Qd (S := q_H × Nat) (fun r u => post r u.1 u.2) (fun u t => q_W E u.1 u.2 t.heap) (q_ge E)
abbrev q_Qv (E : q_E) (post : q_H → Nat → Prop) : Array Value → State → Outcome → State → Prop := va_Qv (S := q_H × Nat) (fun u => post u.1 u.2) (fun u t => q_W E u.1 u.2 t.heap) (q_ge E)
abbrev q_Qq (E : q_E) (post : Option Nat → q_H → Nat → Prop) : Array Value → State → Outcome → State → Prop := va_Qq (S := q_H × Nat) (fun r u => post r u.1 u.2) (fun u t => q_W E u.1 u.2 t.heap) (q_ge E)
section QR
variable {p : Program} {l : Launch} {e : Env} {R : Room} {s : State} {m : MethodId} {args : Array Value} {below : List Frame} {meth : Method} {c : Code} {H : Heap} {locs : List Loc} {cells slots : Nat} {Q : State → Prop}
variable {own : String} {cc : ByteArray} {pc : Nat} {ls : Array Slot} {rest : List Value} {E : q_E} {f : q_H} {n a : Nat} {Ts : List Cond}
theorem q_get (hx : p.tables.exec = Jvm.exec) (hb : c.code = cc) (hts : ∀ w ∈ Ts, w.before args s = true) (hown : s.vm.findClass own = some m.cls) (hA : q_A E s) (hW : q_W E f n H) {ref C : String} {T : u_T} {N ci index : Nat} (hin : ∀ w ∈ u_ws C T N, w ∈ Ts) {fs : List Value} (he : f a = some (.inr (ci, fs))) (hc : vwCl[ci]? = some (C, T, N)) (k : Nat) (hk : k < N) (hlink : (Cond.fieldLink own index ref (T k).2.1 (T k).2.2.1).before args s = true) (hsame : ∀ x, s.fieldFound? (T k).1 (T k).2.1 (T k).2.2.1 = some x → s.fieldFound? ref (T k).2.1 (T k).2.2.1 = some x) {v : Value} (hv : fs[k]? = some v) (hdg : decode cc pc = .ok (.getfield index, 3))
    (kk : W p l e R s m args below meth c H locs cells slots Q (F0 m (pc + 3) ls (v :: rest))) : W p l e R s m args below meth c H locs cells slots Q (F0 m pc ls (.ref a :: rest)) :=
  va_get hx hb hts hin hown hA.1 (hW.one he) 0 rfl hc k hk hlink hsame hv hdg kk
theorem q_getN (hx : p.tables.exec = Jvm.exec) (hb : c.code = cc) (hts : ∀ w ∈ Ts, w.before args s = true) (hown : s.vm.findClass own = some m.cls) (hA : q_A E s) (hW : q_W E f n H) {ref C host : String} {T : u_T} {N ci index : Nat} (hin : ∀ w ∈ u_ws C T N, w ∈ Ts) {fs : List Value} (he : f a = some (.inr (ci, fs))) (hc : vwCl[ci]? = some (C, T, N)) (k : Nat) (hk : k < N) (hlink : (Cond.fieldLinkNest own index ref (T k).2.1 (T k).2.2.1 host).before args s = true) (hsame : ∀ x, s.fieldFound? (T k).1 (T k).2.1 (T k).2.2.1 = some x → s.fieldFound? ref (T k).2.1 (T k).2.2.1 = some x) {v : Value} (hv : fs[k]? = some v) (hdg : decode cc pc = .ok (.getfield index, 3))
    (kk : W p l e R s m args below meth c H locs cells slots Q (F0 m (pc + 3) ls (v :: rest))) : W p l e R s m args below meth c H locs cells slots Q (F0 m pc ls (.ref a :: rest)) :=
  va_getN hx hb hts hin hown hA.1 (hW.one he) 0 rfl hc k hk hlink hsame hv hdg kk
theorem q_put (hx : p.tables.exec = Jvm.exec) (hb : c.code = cc) (hts : ∀ w ∈ Ts, w.before args s = true) (hown : s.vm.findClass own = some m.cls) (hA : q_A E s) (hW : q_W E f n H) (hS : va_S (q_ge E) s.heap H locs) {ref C : String} {T : u_T} {N ci index : Nat} (hin : ∀ w ∈ u_ws C T N, w ∈ Ts) (ty0 : Nat → FieldType) (hty : ∀ k, k < N → parseFieldDescriptor (T k).2.2.1 = some (ty0 k)) (hnm : ∀ a, a < N → ∀ b, b < N → a ≠ b → (T a).2.1 ≠ (T b).2.1) {fs : List Value} (he : f a = some (.inr (ci, fs))) (hc : vwCl[ci]? = some (C, T, N)) (k : Nat) (hk : k < N) (hlink : (Cond.fieldLink own index ref (T k).2.1 (T k).2.2.1).before args s = true) (hsame : ∀ x, s.fieldFound? (T k).1 (T k).2.1 (T k).2.2.1 = some x → s.fieldFound? ref (T k).2.1 (T k).2.2.1 = some x) (hfin : (T k).2.2.2 = false) {v : Value} (hn : narrow (ty0 k) v = v) (hfit : fits (ty0 k) v = true) (hl : k < fs.length)
    (hdg : decode cc pc = .ok (.putfield index, 3)) (kk : ∀ (H1 : Heap) (locs1 : List Loc), q_W E (va_up f a (some (.inr (ci, fs.set k v)))) n H1 → va_S (q_ge E) s.heap H1 locs1 → W p l e R s m args below meth c H1 locs1 cells slots Q (F0 m (pc + 3) ls rest)) : W p l e R s m args below meth c H locs cells slots Q (F0 m pc ls (v :: .ref a :: rest)) := by
  have hap := va_apart (own := own) hts hin ty0 hty hnm hA.1 hc
  obtain ⟨r, h1, cell, q1, q2, q3, q4⟩ := (hW.2.2 a _ he).2
  have hr : r = (C, T, N) := Option.some.inj (h1.symm.trans hc)
  subst hr
  obtain ⟨hS1, hfc, kC, hkC, hkind⟩ := hA.1.1 ci _ hc
  obtain ⟨cf, kf, fi, f0, hi, hsl⟩ := hS1 k hk
  have hlay := hts _ (hin _ (u_in_lay hk))
  unfold u_lay at hlay
  rw [if_neg (by rw [hfin]; decide)] at hlay
  have hst := (u_facts hfc hkC (u_lays hts hin hk) hi).1
  have h6 := u_store hfc hkC hkind hlay hi (hty k hk) hn hfit
  refine W.putK hx hb (f := f0) ⟨hown, hlink, ⟨_, _, _, hsame _ hi⟩, hst⟩ (by rw [q2]; exact h6) q1 q3 (by rw [hsl]; exact k2_hasslot (q4 k hk)) rfl rfl hdg fun H' e1 e2 e3 => ?_
  rw [hsl] at e1 ⊢
  exact kk H' _ (hW.set he ⟨_, hc, t_OB.to (V := updV (vp_V fs) k v) ⟨_, e1, q2, q3, t_set q4 hap hk v⟩ (fun j _ => vp_updV_set hl v j)⟩ e2 e3) (hS.put e2 e3 (hW.ge he))
theorem q_putN (hx : p.tables.exec = Jvm.exec) (hb : c.code = cc) (hts : ∀ w ∈ Ts, w.before args s = true) (hown : s.vm.findClass own = some m.cls) (hA : q_A E s) (hW : q_W E f n H) (hS : va_S (q_ge E) s.heap H locs) {ref C host : String} {T : u_T} {N ci index : Nat} (hin : ∀ w ∈ u_ws C T N, w ∈ Ts) (ty0 : Nat → FieldType) (hty : ∀ k, k < N → parseFieldDescriptor (T k).2.2.1 = some (ty0 k)) (hnm : ∀ a, a < N → ∀ b, b < N → a ≠ b → (T a).2.1 ≠ (T b).2.1) {fs : List Value} (he : f a = some (.inr (ci, fs))) (hc : vwCl[ci]? = some (C, T, N)) (k : Nat) (hk : k < N) (hlink : (Cond.fieldLinkNest own index ref (T k).2.1 (T k).2.2.1 host).before args s = true) (hsame : ∀ x, s.fieldFound? (T k).1 (T k).2.1 (T k).2.2.1 = some x → s.fieldFound? ref (T k).2.1 (T k).2.2.1 = some x) (hfin : (T k).2.2.2 = false) {v : Value} (hn : narrow (ty0 k) v = v) (hfit : fits (ty0 k) v = true) (hl : k < fs.length)
    (hdg : decode cc pc = .ok (.putfield index, 3)) (kk : ∀ (H1 : Heap) (locs1 : List Loc), q_W E (va_up f a (some (.inr (ci, fs.set k v)))) n H1 → va_S (q_ge E) s.heap H1 locs1 → W p l e R s m args below meth c H1 locs1 cells slots Q (F0 m (pc + 3) ls rest)) : W p l e R s m args below meth c H locs cells slots Q (F0 m pc ls (v :: .ref a :: rest)) := by
  have hap := va_apart (own := own) hts hin ty0 hty hnm hA.1 hc
  obtain ⟨r, h1, cell, q1, q2, q3, q4⟩ := (hW.2.2 a _ he).2
  have hr : r = (C, T, N) := Option.some.inj (h1.symm.trans hc)
  subst hr
  obtain ⟨hS1, hfc, kC, hkC, hkind⟩ := hA.1.1 ci _ hc
  obtain ⟨cf, kf, fi, f0, hi, hsl⟩ := hS1 k hk
  have hlay := hts _ (hin _ (u_in_lay hk))
  unfold u_lay at hlay
  rw [if_neg (by rw [hfin]; decide)] at hlay
  have hst := (u_facts hfc hkC (u_lays hts hin hk) hi).1
  have h6 := u_store hfc hkC hkind hlay hi (hty k hk) hn hfit
  refine va_WputK hx hb (f := f0) hown hlink (hsame _ hi) hst (by rw [q2]; exact h6) q1 q3 (by rw [hsl]; exact k2_hasslot (q4 k hk)) rfl rfl hdg fun H' e1 e2 e3 => ?_
  rw [hsl] at e1 ⊢
  exact kk H' _ (hW.set he ⟨_, hc, t_OB.to (V := updV (vp_V fs) k v) ⟨_, e1, q2, q3, t_set q4 hap hk v⟩ (fun j _ => vp_updV_set hl v j)⟩ e2 e3) (hS.put e2 e3 (hW.ge he))
theorem q_putF (hx : p.tables.exec = Jvm.exec) (hb : c.code = cc) (hts : ∀ w ∈ Ts, w.before args s = true) (hown : s.vm.findClass own = some m.cls) (hA : q_A E s) (hW : q_W E f n H) (hS : va_S (q_ge E) s.heap H locs) {ref C : String} {T : u_T} {N ci index : Nat} (hin : ∀ w ∈ u_ws C T N, w ∈ Ts) (ty0 : Nat → FieldType) (hty : ∀ k, k < N → parseFieldDescriptor (T k).2.2.1 = some (ty0 k)) (hnm : ∀ a, a < N → ∀ b, b < N → a ≠ b → (T a).2.1 ≠ (T b).2.1) {fs : List Value} (he : f a = some (.inr (ci, fs))) (hc : vwCl[ci]? = some (C, T, N)) (k : Nat) (hk : k < N) (hlink : (Cond.fieldLink own index ref (T k).2.1 (T k).2.2.1).before args s = true) (hsame : ∀ x, s.fieldFound? (T k).1 (T k).2.1 (T k).2.2.1 = some x → s.fieldFound? ref (T k).2.1 (T k).2.2.1 = some x) (hfin : (T k).2.2.2 = true) (hin2 : meth.name = "<init>") (hdecl : (T k).1 = own) {v : Value} (hn : narrow (ty0 k) v = v) (hfit : fits (ty0 k) v = true) (hl : k < fs.length)
    (hdg : decode cc pc = .ok (.putfield index, 3)) (kk : ∀ (H1 : Heap) (locs1 : List Loc), q_W E (va_up f a (some (.inr (ci, fs.set k v)))) n H1 → va_S (q_ge E) s.heap H1 locs1 → W p l e R s m args below meth c H1 locs1 cells slots Q (F0 m (pc + 3) ls rest)) : W p l e R s m args below meth c H locs cells slots Q (F0 m pc ls (v :: .ref a :: rest)) := by
  have hap := va_apart (own := own) hts hin ty0 hty hnm hA.1 hc
  obtain ⟨r, h1, cell, q1, q2, q3, q4⟩ := (hW.2.2 a _ he).2
  have hr : r = (C, T, N) := Option.some.inj (h1.symm.trans hc)
  subst hr
  obtain ⟨hS1, hfc, kC, hkC, hkind⟩ := hA.1.1 ci _ hc
  obtain ⟨cf, kf, fi, f0, hi, hsl⟩ := hS1 k hk
  have hlay := hts _ (hin _ (u_in_lay hk))
  unfold u_lay at hlay
  rw [if_pos hfin] at hlay
  have hst := (u_facts hfc hkC (u_lays hts hin hk) hi).1
  have hcf : m.cls = cf := by
    obtain ⟨_, _, c', _, _, _, -, -, hf', -, -, -, hown2, -⟩ := Cond.laysFinal_spec hlay
    have e1 : c' = cf := by have := hi.symm.trans hf'; simp at this; exact this.1.symm
    rw [hdecl] at hown2
    rw [← e1]; exact Option.some.inj (hown.symm.trans hown2)
  have h6 := u_fits hfc hkC hkind (Or.inr hlay) hi (hty k hk) hn hfit
  refine W.putFinK hx hb hown hlink (hsame _ hi) hst hcf hin2 (by rw [q2]; exact h6) q1 q3 (by rw [hsl]; exact k2_hasslot (q4 k hk)) rfl rfl hdg fun H' e1 e2 e3 => ?_
  rw [hsl] at e1 ⊢
  exact kk H' _ (hW.set he ⟨_, hc, t_OB.to (V := updV (vp_V fs) k v) ⟨_, e1, q2, q3, t_set q4 hap hk v⟩ (fun j _ => vp_updV_set hl v j)⟩ e2 e3) (hS.put e2 e3 (hW.ge he))
theorem q_new (hx : p.tables.exec = Jvm.exec) (hb : c.code = cc) (hts : ∀ w ∈ Ts, w.before args s = true) (hown : s.vm.findClass own = some m.cls) (hA : q_A E s) (hW : q_W E f n H) (hS : va_S (q_ge E) s.heap H locs) {C : String} {T : u_T} {N ci index : Nat} (hin : ∀ w ∈ u_ws C T N, w ∈ Ts) (ty : Nat → FieldType) (hty : ∀ k, k < N → parseFieldDescriptor (T k).2.2.1 = some (ty k)) (hcl : (Cond.classLink own index C).before args s = true) (hinst : (Cond.instantiable C N).before args s = true) (hini : (Cond.initialized C).before args s = true) (hc : vwCl[ci]? = some (C, T, N)) {fs : List Value} (hfs : ∀ j, j < N → defaultValue (ty j) = vp_V fs j) (hcells : cells + 1 ≤ R.cells) (hslots : slots + N ≤ R.slots) (hdg : decode cc pc = .ok (.new index, 3))
    (kk : ∀ (H1 : Heap), q_W E (va_up f n (some (.inr (ci, fs)))) (n + 1) H1 → va_S (q_ge E) s.heap H1 locs → W p l e R s m args below meth c H1 locs (cells + 1) (slots + N) Q (F0 m (pc + 3) ls (.ref n :: rest))) : W p l e R s m args below meth c H locs cells slots Q (F0 m pc ls rest) := by
  have hKn := hA.1.1 ci _ hc
  refine W.newcK hx hb hown hcl hinst hini rfl hdg hcells hslots hKn.2.1 rfl fun H1 kC hkC e1 z1 o1 => ?_
  rw [hW.1] at e1 z1 o1 ⊢
  refine kk H1 (hW.push ⟨_, hc, (u_born ty hts hin hKn hkC e1 hty).to hfs⟩ z1 o1) ⟨?_, fun x h1 h2 => (o1 x ?_).trans (hS.2.1 x h1 h2), hS.2.2⟩
  · have := hS.1; have := hW.1; omega
  · have := hS.1; have := hW.1; omega
theorem q_newa (hx : p.tables.exec = Jvm.exec) (hb : c.code = cc) (hA : q_A E s) (hW : q_W E f n H) (hS : va_S (q_ge E) s.heap H locs) {atype : ArrayType} (harr : (Cond.arrayClass (newarray.typeOf atype)).before args s = true) {ty : FieldType} (hty : newarray.typeOf atype = ty) (t0 : Nat) {cA : ClassId} (ht : (q_tys E)[t0]? = some (cA, ty)) (hprim : ∀ C, ty ≠ .object C)
    {k : Int32} {N' : Nat} {a0 : vp_A} (ha : ∀ cA : ClassId, vp_cell cA a0 = arrV cA N' (fun _ => defaultValue ty)) (hn : ¬ k < 0) (hN : k.toNatClampNeg = N') (hbytes : N' * componentBytes ty ≤ 536870912) (hcells : cells + 1 ≤ R.cells) (hslots : slots + N' ≤ R.slots) (hdg : decode cc pc = .ok (.newarray atype, 2))
    (kk : ∀ (H1 : Heap), q_W E (va_up f n (some (.inl (cA, a0)))) (n + 1) H1 → va_S (q_ge E) s.heap H1 locs → W p l e R s m args below meth c H1 locs (cells + 1) (slots + N') Q (F0 m (pc + 2) ls (.ref n :: rest))) : W p l e R s m args below meth c H locs cells slots Q (F0 m pc ls (.int k :: rest)) := by
  subst hty
  refine va_newaK hx hb harr rfl hdg rfl hn hN hbytes hcells hslots hW.1 fun H1 cA' e1 z1 o1 hAr hNm => ?_
  have hcA : cA' = cA := by
    have h2 := (hA.1.2 t0 _ ht).2
    have h3 : s.vm.findClass ("[" ++ (newarray.typeOf atype).toString) = some cA := by
      cases atype <;> exact h2
    exact Option.some.inj (hNm.symm.trans h3)
  subst hcA
  refine kk H1 (hW.push ?_ z1 o1) ⟨?_, fun x h1 h2 => (o1 x ?_).trans (hS.2.1 x h1 h2), hS.2.2⟩
  · show H1[n]? = some (vp_cell _ _)
    rw [ha]
    exact e1
  · have := hS.1; have := hW.1; omega
  · have := hS.1; have := hW.1; omega
theorem q_newq (hx : p.tables.exec = Jvm.exec) (hb : c.code = cc) (hown : s.vm.findClass own = some m.cls) (hA : q_A E s) (hW : q_W E f n H) (hS : va_S (q_ge E) s.heap H locs) {C : String} {index : Nat} (hclink : (Cond.classLink own index C).before args s = true) (hover : va_AO C s) (t0 : Nat) {cA : ClassId} (ht : (q_tys E)[t0]? = some (cA, .object C))
    {k : Int32} {N' : Nat} (hn : ¬ k < 0) (hN : k.toNatClampNeg = N') (hbytes : N' * 4 ≤ 536870912) (hcells : cells + 1 ≤ R.cells) (hslots : slots + N' ≤ R.slots) (hdg : decode cc pc = .ok (.anewarray index, 3))
    (kk : ∀ (H1 : Heap), q_W E (va_up f n (some (.inl (cA, N', .inr (.inr (.inr (.inr (fun _ => none)))))))) (n + 1) H1 → va_S (q_ge E) s.heap H1 locs → W p l e R s m args below meth c H1 locs (cells + 1) (slots + N') Q (F0 m (pc + 3) ls (.ref n :: rest))) : W p l e R s m args below meth c H locs cells slots Q (F0 m pc ls (.int k :: rest)) := by
  subst hN
  refine W.anew hx hb hown hclink (va_AO.use hover) rfl hdg rfl hn hbytes hcells hslots fun cA' kA comp f1 f2 f3 f4 => ?_
  have hcA : cA' = cA := by
    obtain ⟨_, _, _, _, _, h3⟩ := (hA.1.2 t0 _ ht).2
    first
      | exact Option.some.inj (f1.symm.trans h3)
      | exact Option.some.inj (f3.symm.trans h3)
      | exact Option.some.inj (f4.symm.trans h3)
  subst hcA
  have hn0 := hW.1
  generalize hH1 : H.push ({ cls := cA', slots := Array.replicate k.toNatClampNeg .null, vm := .none } : Cell) = H1
  have z1 : H1.size = n + 1 := by rw [← hH1, Array.size_push, hn0]
  have e1 : H1[n]? = some (arrV cA' k.toNatClampNeg (fun _ => .null)) := by rw [← hH1, ← hn0, Array.getElem?_push_size, ← arrV_new]
  have o1 : ∀ q : Nat, q < n → H1[q]? = H[q]? := fun q hq => by rw [← hH1, Array.getElem?_push, if_neg (by omega)]
  rw [hn0]
  refine kk H1 (hW.push ?_ z1 o1) ⟨?_, fun x h1 h2 => (o1 x ?_).trans (hS.2.1 x h1 h2), hS.2.2⟩
  · show H1[n]? = some (vp_cell _ _)
    rw [vp_cell_q]
    exact e1
  · have := hS.1; omega
  · have := hS.1; omega
theorem q_iald (hx : p.tables.exec = Jvm.exec) (hb : c.code = cc) (hA : q_A E s) (hW : q_W E f n H) {N : Nat} {g : Nat → Int32} (he : f a = some (.inl (E.2.1 0, N, .inl g))) {i : Int32} (hin : vp_in i N) (hdg : decode cc pc = .ok (.iaload, 1))
    (kk : W p l e R s m args below meth c H locs cells slots Q (F0 m (pc + 1) ls (.int (g i.toNatClampNeg) :: rest))) : W p l e R s m args below meth c H locs cells slots Q (F0 m pc ls (.int i :: .ref a :: rest)) :=
  va_iald hx hb hA.1 (hW.one he) 0 0 rfl rfl hin hdg kk
theorem q_bald (hx : p.tables.exec = Jvm.exec) (hb : c.code = cc) (hA : q_A E s) (hW : q_W E f n H) {N : Nat} {g : Nat → Int32} (he : f a = some (.inl (E.2.1 2, N, .inl g))) {i : Int32} (hin : vp_in i N) (hdg : decode cc pc = .ok (.baload, 1))
    (kk : W p l e R s m args below meth c H locs cells slots Q (F0 m (pc + 1) ls (.int (g i.toNatClampNeg) :: rest))) : W p l e R s m args below meth c H locs cells slots Q (F0 m pc ls (.int i :: .ref a :: rest)) :=
  va_bald hx hb hA.1 (hW.one he) 0 2 rfl rfl hin hdg kk
theorem q_lald (hx : p.tables.exec = Jvm.exec) (hb : c.code = cc) (hA : q_A E s) (hW : q_W E f n H) {N : Nat} {g : Nat → Int64} (he : f a = some (.inl (E.2.1 1, N, .inr (.inl g)))) {i : Int32} (hin : vp_in i N) (hdg : decode cc pc = .ok (.laload, 1))
    (kk : W p l e R s m args below meth c H locs cells slots Q (F0 m (pc + 1) ls (.long (g i.toNatClampNeg) :: rest))) : W p l e R s m args below meth c H locs cells slots Q (F0 m pc ls (.int i :: .ref a :: rest)) :=
  va_lald hx hb hA.1 (hW.one he) 0 1 rfl rfl hin hdg kk
theorem q_aald (hx : p.tables.exec = Jvm.exec) (hb : c.code = cc) (hA : q_A E s) (hW : q_W E f n H) (t0 : Nat) {cA : ClassId} {C : String} (ht : (q_tys E)[t0]? = some (cA, .object C)) {N : Nat} {g : Nat → Option Nat} (he : f a = some (.inl (cA, N, .inr (.inr (.inr (.inr g)))))) {i : Int32} (hin : vp_in i N) (hdg : decode cc pc = .ok (.aaload, 1))
    (kk : W p l e R s m args below meth c H locs cells slots Q (F0 m (pc + 1) ls (va_rf (g i.toNatClampNeg) :: rest))) : W p l e R s m args below meth c H locs cells slots Q (F0 m pc ls (.int i :: .ref a :: rest)) :=
  va_aldq hx hb hA.1 (hW.one he) 0 t0 rfl ht hin hdg kk
theorem q_alen (hx : p.tables.exec = Jvm.exec) (hb : c.code = cc) (hA : q_A E s) (hW : q_W E f n H) (t0 : Nat) {cA : ClassId} {ty : FieldType} (ht : (q_tys E)[t0]? = some (cA, ty)) {x : vp_A} (he : f a = some (.inl (cA, x))) {v : Int32} (hv : Int32.ofNat x.1 = v) (hdg : decode cc pc = .ok (.arraylength, 1))
    (kk : W p l e R s m args below meth c H locs cells slots Q (F0 m (pc + 1) ls (.int v :: rest))) : W p l e R s m args below meth c H locs cells slots Q (F0 m pc ls (.ref a :: rest)) :=
  va_alen hx hb hA.1 (hW.one he) 0 t0 rfl ht hv hdg kk
theorem q_iast (hx : p.tables.exec = Jvm.exec) (hb : c.code = cc) (hA : q_A E s) (hW : q_W E f n H) (hS : va_S (q_ge E) s.heap H locs) {N : Nat} {g : Nat → Int32} (he : f a = some (.inl (E.2.1 0, N, .inl g))) {i x : Int32} (hin : vp_in i N) (hdg : decode cc pc = .ok (.iastore, 1))
    (kk : ∀ (H1 : Heap) (locs1 : List Loc), q_W E (va_up f a (some (.inl (E.2.1 0, N, .inl (upd g i.toNatClampNeg x))))) n H1 → va_S (q_ge E) s.heap H1 locs1 → W p l e R s m args below meth c H1 locs1 cells slots Q (F0 m (pc + 1) ls rest)) : W p l e R s m args below meth c H locs cells slots Q (F0 m pc ls (.int x :: .int i :: .ref a :: rest)) := by
  refine W.iast hx hb (hW.2.2 a _ he).2 ((hA.1.2 0 _ rfl).1 N (fun j => .int (g j))) (fun q => by cases q) (by show ¬ (i < 0 ∨ (arrV _ _ _).slots.size ≤ _); rw [arrV_size]; exact hin) rfl rfl hdg fun H1 e z oq => ?_
  refine kk H1 _ (hW.set he ?_ z oq) (hS.put z oq (hW.ge he))
  show H1[a]? = some (vp_cell _ _)
  rw [e]
  rw [vp_cell_i, vp_cell_i, arrV_store]
  congr 2
  funext q
  by_cases hq : q = i.toNatClampNeg
  · subst hq
    simp [updV, upd]
  · simp [updV, upd, hq]
theorem q_bast (hx : p.tables.exec = Jvm.exec) (hb : c.code = cc) (hA : q_A E s) (hW : q_W E f n H) (hS : va_S (q_ge E) s.heap H locs) {N : Nat} {g : Nat → Int32} (he : f a = some (.inl (E.2.1 2, N, .inl g))) {i x : Int32} (hin : vp_in i N) (hdg : decode cc pc = .ok (.bastore, 1))
    (kk : ∀ (H1 : Heap) (locs1 : List Loc), q_W E (va_up f a (some (.inl (E.2.1 2, N, .inl (upd g i.toNatClampNeg x.toInt8.toInt32))))) n H1 → va_S (q_ge E) s.heap H1 locs1 → W p l e R s m args below meth c H1 locs1 cells slots Q (F0 m (pc + 1) ls rest)) : W p l e R s m args below meth c H locs cells slots Q (F0 m pc ls (.int x :: .int i :: .ref a :: rest)) := by
  refine W.bast hx hb (hW.2.2 a _ he).2 ((hA.1.2 2 _ rfl).1 N (fun j => .int (g j))) (fun q => by cases q) (by show ¬ (i < 0 ∨ (arrV _ _ _).slots.size ≤ _); rw [arrV_size]; exact hin) rfl rfl hdg fun H1 e z oq => ?_
  refine kk H1 _ (hW.set he ?_ z oq) (hS.put z oq (hW.ge he))
  show H1[a]? = some (vp_cell _ _)
  rw [e]
  rw [vp_cell_i, vp_cell_i, arrV_store]
  congr 2
  funext q
  by_cases hq : q = i.toNatClampNeg
  · subst hq
    simp [updV, upd]
    try rfl
  · simp [updV, upd, hq]
theorem q_last (hx : p.tables.exec = Jvm.exec) (hb : c.code = cc) (hA : q_A E s) (hW : q_W E f n H) (hS : va_S (q_ge E) s.heap H locs) {N : Nat} {g : Nat → Int64} (he : f a = some (.inl (E.2.1 1, N, .inr (.inl g)))) {i : Int32} {x : Int64} (hin : vp_in i N) (hdg : decode cc pc = .ok (.lastore, 1))
    (kk : ∀ (H1 : Heap) (locs1 : List Loc), q_W E (va_up f a (some (.inl (E.2.1 1, N, .inr (.inl (vp_updL g i.toNatClampNeg x)))))) n H1 → va_S (q_ge E) s.heap H1 locs1 → W p l e R s m args below meth c H1 locs1 cells slots Q (F0 m (pc + 1) ls rest)) : W p l e R s m args below meth c H locs cells slots Q (F0 m pc ls (.long x :: .int i :: .ref a :: rest)) := by
  refine W.last hx hb (hW.2.2 a _ he).2 ((hA.1.2 1 _ rfl).1 N (fun j => .long (g j))) (fun q => by cases q) (by show ¬ (i < 0 ∨ (arrV _ _ _).slots.size ≤ _); rw [arrV_size]; exact hin) rfl rfl hdg fun H1 e z oq => ?_
  refine kk H1 _ (hW.set he ?_ z oq) (hS.put z oq (hW.ge he))
  show H1[a]? = some (vp_cell _ _)
  rw [e]
  rw [vp_cell_l, vp_cell_l, arrV_store]
  congr 2
  funext q
  by_cases hq : q = i.toNatClampNeg
  · subst hq
    simp [updV, vp_updL]
  · simp [updV, vp_updL, hq]
theorem q_aast (hx : p.tables.exec = Jvm.exec) (hb : c.code = cc) (hA : q_A E s) (hW : q_W E f n H) (hS : va_S (q_ge E) s.heap H locs) (t0 : Nat) {ci v : Nat} {cA : ClassId} {r : vw_C} {vs : List Value} (ht : (q_tys E)[t0]? = some (cA, .object r.1)) {N : Nat} {g : Nat → Option Nat} (he : f a = some (.inl (cA, N, .inr (.inr (.inr (.inr g)))))) (hv : f v = some (.inr (ci, vs))) (hc : vwCl[ci]? = some r) {i : Int32} (hin : vp_in i N) (hdg : decode cc pc = .ok (.aastore, 1))
    (kk : ∀ (H1 : Heap) (locs1 : List Loc), q_W E (va_up f a (some (.inl (cA, N, .inr (.inr (.inr (.inr (va_up g i.toNatClampNeg (some v))))))))) n H1 → va_S (q_ge E) s.heap H1 locs1 → W p l e R s m args below meth c H1 locs1 cells slots Q (F0 m (pc + 1) ls rest)) : W p l e R s m args below meth c H locs cells slots Q (F0 m pc ls (.ref v :: .int i :: .ref a :: rest)) := by
  have hlt : i.toNatClampNeg < N := Nat.not_le.mp fun q => hin (Or.inr q)
  have h0 : ¬ i < 0 := fun q => hin (Or.inl q)
  obtain ⟨r', hr', cellV, g1, g2, g3, -⟩ := (hW.2.2 v _ hv).2
  have hcls := (hA.1.1 ci r hc).2
  obtain ⟨kA, comp, k1, k2, k3, -⟩ := (hA.1.2 t0 _ ht).2
  have hcomp : comp = E.1.1 ci := Option.some.inj (k3.symm.trans hcls.1)
  subst hcomp
  obtain ⟨kC, hkC, -⟩ := hcls.2
  refine W.aast hx hb (hW.2.2 a _ he).2 (fun q h => by cases h) (fun h => by cases h) k1 k2 rfl hkC ⟨h0, by show _ < (arrV _ _ _).slots.size; rw [arrV_size]; exact hlt⟩ g1 (fun q h => by rw [g3] at h; cases h) (by rw [g2]; exact hkC) (by rw [g2]; exact va_assign hcls) rfl rfl hdg fun H1 e z oq => ?_
  refine kk H1 _ (hW.set he ?_ z oq) (hS.put z oq (hW.ge he))
  show H1[a]? = some (vp_cell _ _)
  rw [e]
  rw [vp_cell_q, vp_cell_q, arrV_store]
  congr 2
  funext q
  by_cases hq : q = i.toNatClampNeg
  · subst hq
    simp [updV, va_up, va_rf]
  · simp [updV, va_up, hq]
theorem q_aastN (hx : p.tables.exec = Jvm.exec) (hb : c.code = cc) (hA : q_A E s) (hW : q_W E f n H) (hS : va_S (q_ge E) s.heap H locs) (t0 : Nat) {cA : ClassId} {C : String} (ht : (q_tys E)[t0]? = some (cA, .object C)) {N : Nat} {g : Nat → Option Nat} (he : f a = some (.inl (cA, N, .inr (.inr (.inr (.inr g)))))) {i : Int32} (hin : vp_in i N) (hdg : decode cc pc = .ok (.aastore, 1))
    (kk : ∀ (H1 : Heap) (locs1 : List Loc), q_W E (va_up f a (some (.inl (cA, N, .inr (.inr (.inr (.inr (va_up g i.toNatClampNeg none)))))))) n H1 → va_S (q_ge E) s.heap H1 locs1 → W p l e R s m args below meth c H1 locs1 cells slots Q (F0 m (pc + 1) ls rest)) : W p l e R s m args below meth c H locs cells slots Q (F0 m pc ls (.null :: .int i :: .ref a :: rest)) := by
  refine va_WaastN (C := C) hx hb (hW.2.2 a _ he).2 ((hA.1.2 t0 _ ht).1 N (fun j => va_rf (g j))) (fun h => by cases h) (by show ¬ (i < 0 ∨ (arrV _ _ _).slots.size ≤ _); rw [arrV_size]; exact hin) rfl rfl hdg fun H1 e z oq => ?_
  refine kk H1 _ (hW.set he ?_ z oq) (hS.put z oq (hW.ge he))
  show H1[a]? = some (vp_cell _ _)
  rw [e]
  rw [vp_cell_q, vp_cell_q, arrV_store]
  congr 2
  funext q
  by_cases hq : q = i.toNatClampNeg
  · subst hq
    simp [updV, va_up, va_rf]
  · simp [updV, va_up, hq]
/-! arrays of arrays -/
theorem q_aaldA (hx : p.tables.exec = Jvm.exec) (hb : c.code = cc) (hA : q_A E s) (hW : q_W E f n H) (t0 : Nat) {cA : ClassId} {t : FieldType} (ht : (q_tys E)[t0]? = some (cA, .array t)) {N : Nat} {g : Nat → Option Nat} (he : f a = some (.inl (cA, N, .inr (.inr (.inr (.inr g)))))) {i : Int32} (hin : vp_in i N) (hdg : decode cc pc = .ok (.aaload, 1))
    (kk : W p l e R s m args below meth c H locs cells slots Q (F0 m (pc + 1) ls (va_rf (g i.toNatClampNeg) :: rest))) : W p l e R s m args below meth c H locs cells slots Q (F0 m pc ls (.int i :: .ref a :: rest)) := by
  have hlt : i.toNatClampNeg < N := Nat.not_le.mp fun q => hin (Or.inr q)
  exact W.aald (v := va_rf (g i.toNatClampNeg)) (ty := .array t) hx hb (hW.2.2 a _ he).2 ((hA.1.2 t0 _ ht).1 N (fun j => va_rf (g j))) rfl (fun q => by cases q) (by show ¬ (i < 0 ∨ (arrV _ _ _).slots.size ≤ _); rw [arrV_size]; exact hin) (by show (arrV _ _ _).slots[_]? = _; rw [arrV_read _ _ hlt]) rfl rfl hdg kk
theorem q_newqA (hx : p.tables.exec = Jvm.exec) (hb : c.code = cc) (hown : s.vm.findClass own = some m.cls) (hA : q_A E s) (hW : q_W E f n H) (hS : va_S (q_ge E) s.heap H locs) {t : FieldType} {index : Nat} (hclink : (Cond.classLink own index (FieldType.array t).toString).before args s = true) (hover : va_AA t s) (t0 : Nat) {cA : ClassId} (ht : (q_tys E)[t0]? = some (cA, .array t))
    {k : Int32} {N' : Nat} (hn : ¬ k < 0) (hN : k.toNatClampNeg = N') (hbytes : N' * 4 ≤ 536870912) (hcells : cells + 1 ≤ R.cells) (hslots : slots + N' ≤ R.slots) (hdg : decode cc pc = .ok (.anewarray index, 3))
    (kk : ∀ (H1 : Heap), q_W E (va_up f n (some (.inl (cA, N', .inr (.inr (.inr (.inr (fun _ => none)))))))) (n + 1) H1 → va_S (q_ge E) s.heap H1 locs → W p l e R s m args below meth c H1 locs (cells + 1) (slots + N') Q (F0 m (pc + 3) ls (.ref n :: rest))) : W p l e R s m args below meth c H locs cells slots Q (F0 m pc ls (.int k :: rest)) := by
  subst hN
  refine W.anewA hx hb hown hclink (va_AA.use hover) rfl hdg rfl hn hbytes hcells hslots fun cA' kA comp f1 f2 f3 f4 => ?_
  have hcA : cA' = cA := by
    have h3 : s.vm.findClass ("[" ++ (FieldType.array t).toString) = some cA := (hA.1.2 t0 _ ht).2
    exact Option.some.inj (f1.symm.trans h3)
  subst hcA
  have hn0 := hW.1
  generalize hH1 : H.push ({ cls := cA', slots := Array.replicate k.toNatClampNeg .null, vm := .none } : Cell) = H1
  have z1 : H1.size = n + 1 := by rw [← hH1, Array.size_push, hn0]
  have e1 : H1[n]? = some (arrV cA' k.toNatClampNeg (fun _ => .null)) := by rw [← hH1, ← hn0, Array.getElem?_push_size, ← arrV_new]
  have o1 : ∀ q : Nat, q < n → H1[q]? = H[q]? := fun q hq => by rw [← hH1, Array.getElem?_push, if_neg (by omega)]
  rw [hn0]
  refine kk H1 (hW.push ?_ z1 o1) ⟨?_, fun x h1 h2 => (o1 x ?_).trans (hS.2.1 x h1 h2), hS.2.2⟩
  · show H1[n]? = some (vp_cell _ _)
    rw [vp_cell_q]
    exact e1
  · have := hS.1; omega
  · have := hS.1; omega
theorem q_aastA (hx : p.tables.exec = Jvm.exec) (hb : c.code = cc) (hA : q_A E s) (hW : q_W E f n H) (hS : va_S (q_ge E) s.heap H locs) (t0 t1 : Nat) {t : FieldType} {cA cB : ClassId} {v : Nat} {x : vp_A} (hAA : va_AA t s) (ht : (q_tys E)[t0]? = some (cA, .array t)) (ht1 : (q_tys E)[t1]? = some (cB, t)) (hfc : s.vm.findClass ("[" ++ t.toString) = some cB) {N : Nat} {g : Nat → Option Nat} (he : f a = some (.inl (cA, N, .inr (.inr (.inr (.inr g)))))) (hv : f v = some (.inl (cB, x))) {i : Int32} (hin : vp_in i N) (hdg : decode cc pc = .ok (.aastore, 1))
    (kk : ∀ (H1 : Heap) (locs1 : List Loc), q_W E (va_up f a (some (.inl (cA, N, .inr (.inr (.inr (.inr (va_up g i.toNatClampNeg (some v))))))))) n H1 → va_S (q_ge E) s.heap H1 locs1 → W p l e R s m args below meth c H1 locs1 cells slots Q (F0 m (pc + 1) ls rest)) : W p l e R s m args below meth c H locs cells slots Q (F0 m pc ls (.ref v :: .int i :: .ref a :: rest)) := by
  have hlt : i.toNatClampNeg < N := Nat.not_le.mp fun q => hin (Or.inr q)
  have h0 : ¬ i < 0 := fun q => hin (Or.inl q)
  have g1 : H[v]? = some (vp_cell cB x) := (hW.2.2 v _ hv).2
  obtain ⟨comp, cA', kA, k0, -, k1, k2, k3⟩ := arrayOverA_spec (va_AA.use (A := #[]) hAA)
  have hcA : cA' = cA := Option.some.inj (k3.symm.trans (show s.vm.findClass ("[" ++ (FieldType.array t).toString) = some cA from (hA.1.2 t0 _ ht).2))
  subst hcA
  have hcomp : comp = cB := Option.some.inj (k0.symm.trans hfc)
  subst hcomp
  have hcls : (vp_cell comp x).cls = comp := by
    obtain ⟨M, y⟩ := x
    rcases y with y | y | y | y | y <;> rfl
  have hvm : (vp_cell comp x).vm = .none := by
    obtain ⟨M, y⟩ := x
    rcases y with y | y | y | y | y <;> rfl
  obtain ⟨kC, hkC, -⟩ := Vm.findClass_spec hfc
  refine W.aast hx hb (hW.2.2 a _ he).2 (fun q h => by cases h) (fun h => by cases h) k1 k2 rfl hkC ⟨h0, by show _ < (arrV _ _ _).slots.size; rw [arrV_size]; exact hlt⟩ g1 (fun q h => by rw [hvm] at h; cases h) (by rw [hcls]; exact hkC) (by rw [hcls]; exact va_asg _ _) rfl rfl hdg fun H1 e z oq => ?_
  refine kk H1 _ (hW.set he ?_ z oq) (hS.put z oq (hW.ge he))
  show H1[a]? = some (vp_cell _ _)
  rw [e]
  rw [vp_cell_q, vp_cell_q, arrV_store]
  congr 2
  funext q
  by_cases hq : q = i.toNatClampNeg
  · subst hq
    simp [updV, va_up, va_rf]
  · simp [updV, va_up, hq]
theorem q_fc8 (hA : q_A E s) : s.vm.findClass ("[" ++ FieldType.int.toString) = some (E.2.1 0) := (hA.1.2 0 _ rfl).2
theorem q_fc9 (hA : q_A E s) : s.vm.findClass ("[" ++ (FieldType.object "HighRecipesLaw$Act").toString) = some (E.2.1 6) := by
  obtain ⟨kA, comp, -, -, -, h⟩ := (hA.1.2 6 _ rfl).2
  exact h
/-! calls -/
theorem q_recv (hA : q_A E s) (hW : q_W E f n H) {ci : Nat} {q : vw_C} {fs : List Value} (hc : vwCl[ci]? = some q) (he : f a = some (.inr (ci, fs))) : ∃ cell : Cell, H[a]? = some cell ∧ cell.vm.isStatics = false ∧ s.vm.findClass q.1 = some cell.cls := va_recv hA.1 (hW.one he) hc (q0 := 0) rfl
theorem q_pV (hA : q_A E s) (hW : q_W E f n H) (hS : va_S (q_ge E) s.heap H locs) {As : List Value} {ci : Nat} {q : vw_C} {fs : List Value} (hc : vwCl[ci]? = some q) (he : f a = some (.inr (ci, fs))) : PreV s H q.1 a (q_P E (.ref a :: As) f n) As := ⟨q_P.blind, q_recv hA hW hc he, fun U hU hWm => ⟨rfl, hA.go hS hU hWm, by rw [hU]; exact hW⟩⟩
theorem q_pS (hA : q_A E s) (hW : q_W E f n H) (hS : va_S (q_ge E) s.heap H locs) {As : List Value} : PreS s H (q_P E As f n) As := ⟨q_P.blind, fun U hU hWm => ⟨rfl, hA.go hS hU hWm, by rw [hU]; exact hW⟩⟩
variable {st0 : List Value} {ar : Array Value} {mc ms : Nat}
theorem q_ci {post : Int32 → q_H → Nat → Prop} (hr : va_Run p l e R s m args below meth c H locs cells slots mc ms (F0 m pc ls st0) rest (q_Qi E post ar) (q_ge E)) (hS : va_S (q_ge E) s.heap H locs)
    (kk : ∀ (r : Int32) (f1 : q_H) (n1 : Nat) (H1 : Heap) (locs1 : List Loc), post r f1 n1 → q_W E f1 n1 H1 → va_S (q_ge E) s.heap H1 locs1 → W p l e R s m args below meth c H1 locs1 (cells + mc) (slots + ms) Q (F0 m (pc + 3) ls (.int r :: rest))) : W p l e R s m args below meth c H locs cells slots Q (F0 m pc ls st0) :=
  va_calli hr hS (fun _ _ h => h) (fun _ h => h) (fun r u t H1 locs1 ht _ hp hB _ _ hS1 => kk r u.1 u.2 H1 locs1 hp (by rw [← ht]; exact hB) hS1)
theorem q_cl {post : Int64 → q_H → Nat → Prop} (hr : va_Run p l e R s m args below meth c H locs cells slots mc ms (F0 m pc ls st0) rest (q_Ql E post ar) (q_ge E)) (hS : va_S (q_ge E) s.heap H locs)
    (kk : ∀ (r : Int64) (f1 : q_H) (n1 : Nat) (H1 : Heap) (locs1 : List Loc), post r f1 n1 → q_W E f1 n1 H1 → va_S (q_ge E) s.heap H1 locs1 → W p l e R s m args below meth c H1 locs1 (cells + mc) (slots + ms) Q (F0 m (pc + 3) ls (.long r :: rest))) : W p l e R s m args below meth c H locs cells slots Q (F0 m pc ls st0) :=
  va_calll hr hS (fun _ _ h => h) (fun _ h => h) (fun r u t H1 locs1 ht _ hp hB _ _ hS1 => kk r u.1 u.2 H1 locs1 hp (by rw [← ht]; exact hB) hS1)
theorem q_cd {post : UInt64 → q_H → Nat → Prop} (hr : va_Run p l e R s m args below meth c H locs cells slots mc ms (F0 m pc ls st0) rest (q_Qd E post ar) (q_ge E)) (hS : va_S (q_ge E) s.heap H locs)
    (kk : ∀ (r : UInt64) (f1 : q_H) (n1 : Nat) (H1 : Heap) (locs1 : List Loc), post r f1 n1 → q_W E f1 n1 H1 → va_S (q_ge E) s.heap H1 locs1 → W p l e R s m args below meth c H1 locs1 (cells + mc) (slots + ms) Q (F0 m (pc + 3) ls (.double r :: rest))) : W p l e R s m args below meth c H locs cells slots Q (F0 m pc ls st0) :=
  va_calld hr hS (fun _ _ h => h) (fun _ h => h) (fun r u t H1 locs1 ht _ hp hB _ _ hS1 => kk r u.1 u.2 H1 locs1 hp (by rw [← ht]; exact hB) hS1)
theorem q_cv {post : q_H → Nat → Prop} (hr : va_Run p l e R s m args below meth c H locs cells slots mc ms (F0 m pc ls st0) rest (q_Qv E post ar) (q_ge E)) (hS : va_S (q_ge E) s.heap H locs)
    (kk : ∀ (f1 : q_H) (n1 : Nat) (H1 : Heap) (locs1 : List Loc), post f1 n1 → q_W E f1 n1 H1 → va_S (q_ge E) s.heap H1 locs1 → W p l e R s m args below meth c H1 locs1 (cells + mc) (slots + ms) Q (F0 m (pc + 3) ls rest)) : W p l e R s m args below meth c H locs cells slots Q (F0 m pc ls st0) :=
  va_callv hr hS (fun _ _ h => h) (fun _ h => h) (fun u t H1 locs1 ht _ hp hB _ _ hS1 => kk u.1 u.2 H1 locs1 hp (by rw [← ht]; exact hB) hS1)
theorem q_cq {post : Option Nat → q_H → Nat → Prop} (hr : va_Run p l e R s m args below meth c H locs cells slots mc ms (F0 m pc ls st0) rest (q_Qq E post ar) (q_ge E)) (hS : va_S (q_ge E) s.heap H locs)
    (kk : ∀ (r : Option Nat) (f1 : q_H) (n1 : Nat) (H1 : Heap) (locs1 : List Loc), post r f1 n1 → q_W E f1 n1 H1 → va_S (q_ge E) s.heap H1 locs1 → W p l e R s m args below meth c H1 locs1 (cells + mc) (slots + ms) Q (F0 m (pc + 3) ls (va_rf r :: rest))) : W p l e R s m args below meth c H locs cells slots Q (F0 m pc ls st0) :=
  va_callq hr hS (fun _ _ h => h) (fun _ h => h) (fun r u t H1 locs1 ht _ hp hB _ _ hS1 => kk r u.1 u.2 H1 locs1 hp (by rw [← ht]; exact hB) hS1)
/-! returns -/
theorem q_iret {post : Int32 → q_H → Nat → Prop} (hx : p.tables.exec = Jvm.exec) (hb : c.code = cc) (hr : meth.sig.returnType = some .int) (hlocks : meth.locks = false) (hW : q_W E f n H) (hS : va_S (q_ge E) s.heap H locs) {v : Int32} (hp : post v f n) (h1 : cells ≤ mc) (h2 : slots ≤ ms) (hdg : decode cc pc = .ok (.ireturn, 1)) : W p l e R s m args below meth c H locs cells slots (MQ below (q_Qi E post) args s mc ms (q_ge E)) (F0 m pc ls [.int v]) :=
  W.widen h1 h2 (W.iret hx hb hr (fun t ht _ => ⟨⟨v, (f, n), rfl, hp, by show q_W E f n t.heap; rw [ht]; exact hW⟩, hS.F ht⟩) hS.2.2 hdg hlocks)
theorem q_zret {post : Int32 → q_H → Nat → Prop} {ty : FieldType} (hx : p.tables.exec = Jvm.exec) (hb : c.code = cc) (hr : meth.sig.returnType = some ty) (hlocks : meth.locks = false) (hW : q_W E f n H) (hS : va_S (q_ge E) s.heap H locs) {v : Int32} (hn : narrow ty (.int v) = .int v) (hp : post v f n) (h1 : cells ≤ mc) (h2 : slots ≤ ms) (hdg : decode cc pc = .ok (.ireturn, 1)) : W p l e R s m args below meth c H locs cells slots (MQ below (q_Qi E post) args s mc ms (q_ge E)) (F0 m pc ls [.int v]) :=
  W.widen h1 h2 (W.zret hx hb hr hn (fun t ht _ => ⟨⟨v, (f, n), rfl, hp, by show q_W E f n t.heap; rw [ht]; exact hW⟩, hS.F ht⟩) hS.2.2 hdg hlocks)
theorem q_lret {post : Int64 → q_H → Nat → Prop} (hx : p.tables.exec = Jvm.exec) (hb : c.code = cc) (hr : meth.sig.returnType = some .long) (hlocks : meth.locks = false) (hW : q_W E f n H) (hS : va_S (q_ge E) s.heap H locs) {v : Int64} (hp : post v f n) (h1 : cells ≤ mc) (h2 : slots ≤ ms) (hdg : decode cc pc = .ok (.lreturn, 1)) : W p l e R s m args below meth c H locs cells slots (MQ below (q_Ql E post) args s mc ms (q_ge E)) (F0 m pc ls [.long v]) :=
  W.widen h1 h2 (W.lret hx hb hr (fun t ht _ => ⟨⟨v, (f, n), rfl, hp, by show q_W E f n t.heap; rw [ht]; exact hW⟩, hS.F ht⟩) hS.2.2 hdg hlocks)
theorem q_vret {post : q_H → Nat → Prop} (hx : p.tables.exec = Jvm.exec) (hb : c.code = cc) (hr : meth.sig.returnType = none) (hlocks : meth.locks = false) (hW : q_W E f n H) (hS : va_S (q_ge E) s.heap H locs) (hp : post f n) (h1 : cells ≤ mc) (h2 : slots ≤ ms) (hdg : decode cc pc = .ok (.return_, 1)) : W p l e R s m args below meth c H locs cells slots (MQ below (q_Qv E post) args s mc ms (q_ge E)) (F0 m pc ls []) :=
  W.widen h1 h2 (W.vret hx hb hr (fun t ht _ => ⟨⟨(f, n), rfl, hp, by show q_W E f n t.heap; rw [ht]; exact hW⟩, hS.F ht⟩) hS.2.2 hdg hlocks)
theorem q_aret {post : Option Nat → q_H → Nat → Prop} {rt : FieldType} (hx : p.tables.exec = Jvm.exec) (hb : c.code = cc) (hr : meth.sig.returnType = some rt) (hrt : (∃ n, rt = .object n) ∨ ∃ t, rt = .array t) (hlocks : meth.locks = false) (hW : q_W E f n H) (hS : va_S (q_ge E) s.heap H locs) {v : Option Nat} (hp : post v f n) (h1 : cells ≤ mc) (h2 : slots ≤ ms) (hdg : decode cc pc = .ok (.areturn, 1)) : W p l e R s m args below meth c H locs cells slots (MQ below (q_Qq E post) args s mc ms (q_ge E)) (F0 m pc ls [va_rf v]) :=
  W.widen h1 h2 (W.aret hx hb hr hrt (va_rf_or v) (fun t ht _ => ⟨⟨v, (f, n), rfl, hp, by show q_W E f n t.heap; rw [ht]; exact hW⟩, hS.F ht⟩) hS.2.2 hdg hlocks)
end QR
