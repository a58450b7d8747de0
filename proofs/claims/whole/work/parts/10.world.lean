abbrev wt_P : Type := (Nat → Int32) × (Nat → Int32) × Int32
abbrev wt_S : Type := (Nat → Int32) × (Nat → Int32) × (Nat → Int32) × Int32 × Int32 × Int32 × Int32
abbrev wt_F : Type := (Nat → Int64) × (Nat → Int64) × Int64 × Int64 × Int32 × Int32 × Int32 × Int32 × Int32
abbrev wt_H : Type := (Nat → Int64) × (Nat → Int64) × Int32
def wd (P0 P1 P2 P3 P4 : wt_P) (pl dr ki ow : Nat → Int32) (S T : wt_S) (F : wt_F) (H : wt_H) (tt : Int32) : xm_O := [
  .inr (6, [.ref 1, .ref 21, .ref 25, .ref 29, .ref 33, .int tt]),
  .inr (1, [.ref 2, .ref 5, .ref 8, .ref 11, .ref 14, .ref 17, .ref 18, .ref 19, .ref 20]),
  .inr (0, [.ref 3, .ref 4, .int P0.2.2]),
  .inl (0, 16, .inl P0.1),
  .inl (0, 16, .inl P0.2.1),
  .inr (0, [.ref 6, .ref 7, .int P1.2.2]),
  .inl (0, 64, .inl P1.1),
  .inl (0, 64, .inl P1.2.1),
  .inr (0, [.ref 9, .ref 10, .int P2.2.2]),
  .inl (0, 12, .inl P2.1),
  .inl (0, 12, .inl P2.2.1),
  .inr (0, [.ref 12, .ref 13, .int P3.2.2]),
  .inl (0, 24, .inl P3.1),
  .inl (0, 24, .inl P3.2.1),
  .inr (0, [.ref 15, .ref 16, .int P4.2.2]),
  .inl (0, 12, .inl P4.1),
  .inl (0, 12, .inl P4.2.1),
  .inl (0, 16, .inl pl),
  .inl (0, 16, .inl dr),
  .inl (0, 64, .inl ki),
  .inl (0, 64, .inl ow),
  .inr (2, [.ref 22, .ref 23, .ref 24, .int S.2.2.2.1, .int S.2.2.2.2.1, .int S.2.2.2.2.2.1, .int S.2.2.2.2.2.2]),
  .inl (0, 16, .inl S.1),
  .inl (0, 16, .inl S.2.1),
  .inl (0, 16, .inl S.2.2.1),
  .inr (2, [.ref 26, .ref 27, .ref 28, .int T.2.2.2.1, .int T.2.2.2.2.1, .int T.2.2.2.2.2.1, .int T.2.2.2.2.2.2]),
  .inl (0, 16, .inl T.1),
  .inl (0, 16, .inl T.2.1),
  .inl (0, 16, .inl T.2.2.1),
  .inr (4, [.ref 1, .ref 30]),
  .inr (3, [.ref 1, .ref 31, .ref 32, .long F.2.2.1, .long F.2.2.2.1, .int F.2.2.2.2.1, .int F.2.2.2.2.2.1, .int F.2.2.2.2.2.2.1, .int F.2.2.2.2.2.2.2.1, .int F.2.2.2.2.2.2.2.2]),
  .inl (1, 48, .inr (.inl F.1)),
  .inl (1, 48, .inr (.inl F.2.1)),
  .inr (5, [.ref 34, .ref 35, .int H.2.2]),
  .inl (1, 501, .inr (.inl H.1)),
  .inl (1, 501, .inr (.inl H.2.1))]
abbrev xm_up : List String := ["java/lang/RuntimeException", "java/lang/Exception"]
set_option maxRecDepth 100000 in
theorem ta_IAE : ∀ a ∈ Bundle.ownAtoms R_Rb 166 "java/lang/IllegalArgumentException" xm_up, a ∈ lw_g ∨ xm_zw a := by decide +kernel
set_option maxRecDepth 100000 in
theorem ta_ISE : ∀ a ∈ Bundle.ownAtoms R_Rb 212 "java/lang/IllegalStateException" xm_up, a ∈ lw_g ∨ xm_zw a := by decide +kernel
set_option maxRecDepth 100000 in
theorem ta_UOE : ∀ a ∈ Bundle.ownAtoms R_Rb 126 "java/lang/UnsupportedOperationException" xm_up, a ∈ lw_g ∨ xm_zw a := by decide +kernel
