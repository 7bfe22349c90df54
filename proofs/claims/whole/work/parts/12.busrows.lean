/-! The bus: its block has 182 cells. -/
def SB : List Cee := [
  .inl (0, [.inl 1, .inl 2, .inl 3, .inl 4, .inl 5, .inl 9, .inr (0, 1, 0, 0), .inr (0, 2, 0, 0), .inr (0, 3, 0, 0), .inr (0, 4, 0, 0), .inr (0, 5, 0, 0), .inr (0, 6, 0, 0), .inr (1, 7, 0, 0)]),
  .inr (.inr (1, 6, [10, 32, 54, 76, 98, 120])),
  .inr (.inr (2, 6, [142, 143, 144, 145, 146, 147])),
  .inr (.inr (3, 4, [148, 149, 150, 151])),
  .inr (.inr (4, 6, [152, 157, 162, 167, 172, 177])),
  .inl (7, [.inl 6, .inl 7, .inl 8, .inr (0, 10, 0, 0), .inr (0, 11, 0, 0), .inr (0, 12, 0, 0), .inr (0, 13, 0, 0), .inr (0, 14, 0, 0)]),
  .inr (.inl (0, 30, 0, 15, 0, 0)),
  .inr (.inl (0, 30, 0, 16, 0, 0)),
  .inr (.inl (0, 30, 0, 17, 0, 0)),
  .inl (8, [.inr (0, 20, 0, 0), .inr (0, 21, 0, 0)]),
  .inl (1, [.inl 11, .inl 12, .inl 13, .inr (0, 30, 0, 0), .inr (0, 31, 0, 0)]),
  .inr (.inl (0, 4, 0, 32, 0, 0)),
  .inr (.inr (5, 6, [14, 17, 20, 23, 26, 29])),
  .inr (.inr (6, 6, [16, 19, 22, 25, 28, 31])),
  .inl (2, [.inl 15, .inr (0, 33, 0, 0), .inr (0, 34, 0, 0)]),
  .inr (.inl (0, 12, 0, 35, 0, 0)),
  .inl (3, [.inr (0, 36, 0, 0), .inr (0, 37, 0, 0), .inr (0, 38, 0, 0)]),
  .inl (2, [.inl 18, .inr (0, 33, 0, 1), .inr (0, 34, 0, 1)]),
  .inr (.inl (0, 12, 0, 35, 0, 1)),
  .inl (3, [.inr (0, 36, 0, 1), .inr (0, 37, 0, 1), .inr (0, 38, 0, 1)]),
  .inl (2, [.inl 21, .inr (0, 33, 0, 2), .inr (0, 34, 0, 2)]),
  .inr (.inl (0, 12, 0, 35, 0, 2)),
  .inl (3, [.inr (0, 36, 0, 2), .inr (0, 37, 0, 2), .inr (0, 38, 0, 2)]),
  .inl (2, [.inl 24, .inr (0, 33, 0, 3), .inr (0, 34, 0, 3)]),
  .inr (.inl (0, 12, 0, 35, 0, 3)),
  .inl (3, [.inr (0, 36, 0, 3), .inr (0, 37, 0, 3), .inr (0, 38, 0, 3)]),
  .inl (2, [.inl 27, .inr (0, 33, 0, 4), .inr (0, 34, 0, 4)]),
  .inr (.inl (0, 12, 0, 35, 0, 4)),
  .inl (3, [.inr (0, 36, 0, 4), .inr (0, 37, 0, 4), .inr (0, 38, 0, 4)]),
  .inl (2, [.inl 30, .inr (0, 33, 0, 5), .inr (0, 34, 0, 5)]),
  .inr (.inl (0, 12, 0, 35, 0, 5)),
  .inl (3, [.inr (0, 36, 0, 5), .inr (0, 37, 0, 5), .inr (0, 38, 0, 5)]),
  .inl (1, [.inl 33, .inl 34, .inl 35, .inr (0, 30, 1, 0), .inr (0, 31, 1, 0)]),
  .inr (.inl (0, 4, 0, 32, 1, 0)),
  .inr (.inr (5, 6, [36, 39, 42, 45, 48, 51])),
  .inr (.inr (6, 6, [38, 41, 44, 47, 50, 53])),
  .inl (2, [.inl 37, .inr (0, 33, 1, 0), .inr (0, 34, 1, 0)]),
  .inr (.inl (0, 12, 0, 35, 1, 0)),
  .inl (3, [.inr (0, 36, 1, 0), .inr (0, 37, 1, 0), .inr (0, 38, 1, 0)]),
  .inl (2, [.inl 40, .inr (0, 33, 1, 1), .inr (0, 34, 1, 1)]),
  .inr (.inl (0, 12, 0, 35, 1, 1)),
  .inl (3, [.inr (0, 36, 1, 1), .inr (0, 37, 1, 1), .inr (0, 38, 1, 1)]),
  .inl (2, [.inl 43, .inr (0, 33, 1, 2), .inr (0, 34, 1, 2)]),
  .inr (.inl (0, 12, 0, 35, 1, 2)),
  .inl (3, [.inr (0, 36, 1, 2), .inr (0, 37, 1, 2), .inr (0, 38, 1, 2)]),
  .inl (2, [.inl 46, .inr (0, 33, 1, 3), .inr (0, 34, 1, 3)]),
  .inr (.inl (0, 12, 0, 35, 1, 3)),
  .inl (3, [.inr (0, 36, 1, 3), .inr (0, 37, 1, 3), .inr (0, 38, 1, 3)]),
  .inl (2, [.inl 49, .inr (0, 33, 1, 4), .inr (0, 34, 1, 4)]),
  .inr (.inl (0, 12, 0, 35, 1, 4)),
  .inl (3, [.inr (0, 36, 1, 4), .inr (0, 37, 1, 4), .inr (0, 38, 1, 4)]),
  .inl (2, [.inl 52, .inr (0, 33, 1, 5), .inr (0, 34, 1, 5)]),
  .inr (.inl (0, 12, 0, 35, 1, 5)),
  .inl (3, [.inr (0, 36, 1, 5), .inr (0, 37, 1, 5), .inr (0, 38, 1, 5)]),
  .inl (1, [.inl 55, .inl 56, .inl 57, .inr (0, 30, 2, 0), .inr (0, 31, 2, 0)]),
  .inr (.inl (0, 4, 0, 32, 2, 0)),
  .inr (.inr (5, 6, [58, 61, 64, 67, 70, 73])),
  .inr (.inr (6, 6, [60, 63, 66, 69, 72, 75])),
  .inl (2, [.inl 59, .inr (0, 33, 2, 0), .inr (0, 34, 2, 0)]),
  .inr (.inl (0, 12, 0, 35, 2, 0)),
  .inl (3, [.inr (0, 36, 2, 0), .inr (0, 37, 2, 0), .inr (0, 38, 2, 0)]),
  .inl (2, [.inl 62, .inr (0, 33, 2, 1), .inr (0, 34, 2, 1)]),
  .inr (.inl (0, 12, 0, 35, 2, 1)),
  .inl (3, [.inr (0, 36, 2, 1), .inr (0, 37, 2, 1), .inr (0, 38, 2, 1)]),
  .inl (2, [.inl 65, .inr (0, 33, 2, 2), .inr (0, 34, 2, 2)]),
  .inr (.inl (0, 12, 0, 35, 2, 2)),
  .inl (3, [.inr (0, 36, 2, 2), .inr (0, 37, 2, 2), .inr (0, 38, 2, 2)]),
  .inl (2, [.inl 68, .inr (0, 33, 2, 3), .inr (0, 34, 2, 3)]),
  .inr (.inl (0, 12, 0, 35, 2, 3)),
  .inl (3, [.inr (0, 36, 2, 3), .inr (0, 37, 2, 3), .inr (0, 38, 2, 3)]),
  .inl (2, [.inl 71, .inr (0, 33, 2, 4), .inr (0, 34, 2, 4)]),
  .inr (.inl (0, 12, 0, 35, 2, 4)),
  .inl (3, [.inr (0, 36, 2, 4), .inr (0, 37, 2, 4), .inr (0, 38, 2, 4)]),
  .inl (2, [.inl 74, .inr (0, 33, 2, 5), .inr (0, 34, 2, 5)]),
  .inr (.inl (0, 12, 0, 35, 2, 5)),
  .inl (3, [.inr (0, 36, 2, 5), .inr (0, 37, 2, 5), .inr (0, 38, 2, 5)]),
  .inl (1, [.inl 77, .inl 78, .inl 79, .inr (0, 30, 3, 0), .inr (0, 31, 3, 0)]),
  .inr (.inl (0, 4, 0, 32, 3, 0)),
  .inr (.inr (5, 6, [80, 83, 86, 89, 92, 95])),
  .inr (.inr (6, 6, [82, 85, 88, 91, 94, 97])),
  .inl (2, [.inl 81, .inr (0, 33, 3, 0), .inr (0, 34, 3, 0)]),
  .inr (.inl (0, 12, 0, 35, 3, 0)),
  .inl (3, [.inr (0, 36, 3, 0), .inr (0, 37, 3, 0), .inr (0, 38, 3, 0)]),
  .inl (2, [.inl 84, .inr (0, 33, 3, 1), .inr (0, 34, 3, 1)]),
  .inr (.inl (0, 12, 0, 35, 3, 1)),
  .inl (3, [.inr (0, 36, 3, 1), .inr (0, 37, 3, 1), .inr (0, 38, 3, 1)]),
  .inl (2, [.inl 87, .inr (0, 33, 3, 2), .inr (0, 34, 3, 2)]),
  .inr (.inl (0, 12, 0, 35, 3, 2)),
  .inl (3, [.inr (0, 36, 3, 2), .inr (0, 37, 3, 2), .inr (0, 38, 3, 2)]),
  .inl (2, [.inl 90, .inr (0, 33, 3, 3), .inr (0, 34, 3, 3)]),
  .inr (.inl (0, 12, 0, 35, 3, 3)),
  .inl (3, [.inr (0, 36, 3, 3), .inr (0, 37, 3, 3), .inr (0, 38, 3, 3)]),
  .inl (2, [.inl 93, .inr (0, 33, 3, 4), .inr (0, 34, 3, 4)]),
  .inr (.inl (0, 12, 0, 35, 3, 4)),
  .inl (3, [.inr (0, 36, 3, 4), .inr (0, 37, 3, 4), .inr (0, 38, 3, 4)]),
  .inl (2, [.inl 96, .inr (0, 33, 3, 5), .inr (0, 34, 3, 5)]),
  .inr (.inl (0, 12, 0, 35, 3, 5)),
  .inl (3, [.inr (0, 36, 3, 5), .inr (0, 37, 3, 5), .inr (0, 38, 3, 5)]),
  .inl (1, [.inl 99, .inl 100, .inl 101, .inr (0, 30, 4, 0), .inr (0, 31, 4, 0)]),
  .inr (.inl (0, 4, 0, 32, 4, 0)),
  .inr (.inr (5, 6, [102, 105, 108, 111, 114, 117])),
  .inr (.inr (6, 6, [104, 107, 110, 113, 116, 119])),
  .inl (2, [.inl 103, .inr (0, 33, 4, 0), .inr (0, 34, 4, 0)]),
  .inr (.inl (0, 12, 0, 35, 4, 0)),
  .inl (3, [.inr (0, 36, 4, 0), .inr (0, 37, 4, 0), .inr (0, 38, 4, 0)]),
  .inl (2, [.inl 106, .inr (0, 33, 4, 1), .inr (0, 34, 4, 1)]),
  .inr (.inl (0, 12, 0, 35, 4, 1)),
  .inl (3, [.inr (0, 36, 4, 1), .inr (0, 37, 4, 1), .inr (0, 38, 4, 1)]),
  .inl (2, [.inl 109, .inr (0, 33, 4, 2), .inr (0, 34, 4, 2)]),
  .inr (.inl (0, 12, 0, 35, 4, 2)),
  .inl (3, [.inr (0, 36, 4, 2), .inr (0, 37, 4, 2), .inr (0, 38, 4, 2)]),
  .inl (2, [.inl 112, .inr (0, 33, 4, 3), .inr (0, 34, 4, 3)]),
  .inr (.inl (0, 12, 0, 35, 4, 3)),
  .inl (3, [.inr (0, 36, 4, 3), .inr (0, 37, 4, 3), .inr (0, 38, 4, 3)]),
  .inl (2, [.inl 115, .inr (0, 33, 4, 4), .inr (0, 34, 4, 4)]),
  .inr (.inl (0, 12, 0, 35, 4, 4)),
  .inl (3, [.inr (0, 36, 4, 4), .inr (0, 37, 4, 4), .inr (0, 38, 4, 4)]),
  .inl (2, [.inl 118, .inr (0, 33, 4, 5), .inr (0, 34, 4, 5)]),
  .inr (.inl (0, 12, 0, 35, 4, 5)),
  .inl (3, [.inr (0, 36, 4, 5), .inr (0, 37, 4, 5), .inr (0, 38, 4, 5)]),
  .inl (1, [.inl 121, .inl 122, .inl 123, .inr (0, 30, 5, 0), .inr (0, 31, 5, 0)]),
  .inr (.inl (0, 4, 0, 32, 5, 0)),
  .inr (.inr (5, 6, [124, 127, 130, 133, 136, 139])),
  .inr (.inr (6, 6, [126, 129, 132, 135, 138, 141])),
  .inl (2, [.inl 125, .inr (0, 33, 5, 0), .inr (0, 34, 5, 0)]),
  .inr (.inl (0, 12, 0, 35, 5, 0)),
  .inl (3, [.inr (0, 36, 5, 0), .inr (0, 37, 5, 0), .inr (0, 38, 5, 0)]),
  .inl (2, [.inl 128, .inr (0, 33, 5, 1), .inr (0, 34, 5, 1)]),
  .inr (.inl (0, 12, 0, 35, 5, 1)),
  .inl (3, [.inr (0, 36, 5, 1), .inr (0, 37, 5, 1), .inr (0, 38, 5, 1)]),
  .inl (2, [.inl 131, .inr (0, 33, 5, 2), .inr (0, 34, 5, 2)]),
  .inr (.inl (0, 12, 0, 35, 5, 2)),
  .inl (3, [.inr (0, 36, 5, 2), .inr (0, 37, 5, 2), .inr (0, 38, 5, 2)]),
  .inl (2, [.inl 134, .inr (0, 33, 5, 3), .inr (0, 34, 5, 3)]),
  .inr (.inl (0, 12, 0, 35, 5, 3)),
  .inl (3, [.inr (0, 36, 5, 3), .inr (0, 37, 5, 3), .inr (0, 38, 5, 3)]),
  .inl (2, [.inl 137, .inr (0, 33, 5, 4), .inr (0, 34, 5, 4)]),
  .inr (.inl (0, 12, 0, 35, 5, 4)),
  .inl (3, [.inr (0, 36, 5, 4), .inr (0, 37, 5, 4), .inr (0, 38, 5, 4)]),
  .inl (2, [.inl 140, .inr (0, 33, 5, 5), .inr (0, 34, 5, 5)]),
  .inr (.inl (0, 12, 0, 35, 5, 5)),
  .inl (3, [.inr (0, 36, 5, 5), .inr (0, 37, 5, 5), .inr (0, 38, 5, 5)]),
  .inl (4, [.inr (0, 40, 0, 0), .inr (0, 41, 0, 0), .inr (0, 42, 0, 0), .inr (0, 43, 0, 0), .inr (0, 44, 0, 0), .inr (0, 45, 0, 0)]),
  .inl (4, [.inr (0, 40, 1, 0), .inr (0, 41, 1, 0), .inr (0, 42, 1, 0), .inr (0, 43, 1, 0), .inr (0, 44, 1, 0), .inr (0, 45, 1, 0)]),
  .inl (4, [.inr (0, 40, 2, 0), .inr (0, 41, 2, 0), .inr (0, 42, 2, 0), .inr (0, 43, 2, 0), .inr (0, 44, 2, 0), .inr (0, 45, 2, 0)]),
  .inl (4, [.inr (0, 40, 3, 0), .inr (0, 41, 3, 0), .inr (0, 42, 3, 0), .inr (0, 43, 3, 0), .inr (0, 44, 3, 0), .inr (0, 45, 3, 0)]),
  .inl (4, [.inr (0, 40, 4, 0), .inr (0, 41, 4, 0), .inr (0, 42, 4, 0), .inr (0, 43, 4, 0), .inr (0, 44, 4, 0), .inr (0, 45, 4, 0)]),
  .inl (4, [.inr (0, 40, 5, 0), .inr (0, 41, 5, 0), .inr (0, 42, 5, 0), .inr (0, 43, 5, 0), .inr (0, 44, 5, 0), .inr (0, 45, 5, 0)]),
  .inl (5, [.inr (0, 50, 0, 0), .inr (0, 51, 0, 0), .inr (0, 52, 0, 0), .inr (0, 53, 0, 0)]),
  .inl (5, [.inr (0, 50, 1, 0), .inr (0, 51, 1, 0), .inr (0, 52, 1, 0), .inr (0, 53, 1, 0)]),
  .inl (5, [.inr (0, 50, 2, 0), .inr (0, 51, 2, 0), .inr (0, 52, 2, 0), .inr (0, 53, 2, 0)]),
  .inl (5, [.inr (0, 50, 3, 0), .inr (0, 51, 3, 0), .inr (0, 52, 3, 0), .inr (0, 53, 3, 0)]),
  .inl (6, [.inl 153, .inl 154, .inl 155, .inl 156, .inr (0, 60, 0, 0), .inr (0, 61, 0, 0)]),
  .inr (.inl (0, 4, 0, 62, 0, 0)),
  .inr (.inl (0, 4, 0, 63, 0, 0)),
  .inr (.inl (0, 4, 0, 64, 0, 0)),
  .inr (.inl (0, 4, 0, 65, 0, 0)),
  .inl (6, [.inl 158, .inl 159, .inl 160, .inl 161, .inr (0, 60, 1, 0), .inr (0, 61, 1, 0)]),
  .inr (.inl (0, 4, 0, 62, 1, 0)),
  .inr (.inl (0, 4, 0, 63, 1, 0)),
  .inr (.inl (0, 4, 0, 64, 1, 0)),
  .inr (.inl (0, 4, 0, 65, 1, 0)),
  .inl (6, [.inl 163, .inl 164, .inl 165, .inl 166, .inr (0, 60, 2, 0), .inr (0, 61, 2, 0)]),
  .inr (.inl (0, 4, 0, 62, 2, 0)),
  .inr (.inl (0, 4, 0, 63, 2, 0)),
  .inr (.inl (0, 4, 0, 64, 2, 0)),
  .inr (.inl (0, 4, 0, 65, 2, 0)),
  .inl (6, [.inl 168, .inl 169, .inl 170, .inl 171, .inr (0, 60, 3, 0), .inr (0, 61, 3, 0)]),
  .inr (.inl (0, 4, 0, 62, 3, 0)),
  .inr (.inl (0, 4, 0, 63, 3, 0)),
  .inr (.inl (0, 4, 0, 64, 3, 0)),
  .inr (.inl (0, 4, 0, 65, 3, 0)),
  .inl (6, [.inl 173, .inl 174, .inl 175, .inl 176, .inr (0, 60, 4, 0), .inr (0, 61, 4, 0)]),
  .inr (.inl (0, 4, 0, 62, 4, 0)),
  .inr (.inl (0, 4, 0, 63, 4, 0)),
  .inr (.inl (0, 4, 0, 64, 4, 0)),
  .inr (.inl (0, 4, 0, 65, 4, 0)),
  .inl (6, [.inl 178, .inl 179, .inl 180, .inl 181, .inr (0, 60, 5, 0), .inr (0, 61, 5, 0)]),
  .inr (.inl (0, 4, 0, 62, 5, 0)),
  .inr (.inl (0, 4, 0, 63, 5, 0)),
  .inr (.inl (0, 4, 0, 64, 5, 0)),
  .inr (.inl (0, 4, 0, 65, 5, 0))
]
theorem SB_U : chkU SB = true := by decide +kernel
section BUSROWS
variable {l : Launch} {D : va_G} {ca : Nat → ClassId} {b : Nat} {R : Room} {nL : Nat} {X : Zx} {σ : Sg} {pc : Nat} {L : List (Nat × Value)} {st : List Value} {cc : ByteArray} {own : String} {cx : Cond}
theorem sB_Bus  : ∃ c, SB[0]? = some c ∧ (∀ (b : Nat) (ca : Nat → ClassId) (σ : Sg), rz b ca σ c = .inr (0, [.ref (b + 1), .ref (b + 2), .ref (b + 3), .ref (b + 4), .ref (b + 5), .ref (b + 9), .int (σ.1 1 0 0 0), .int (σ.1 2 0 0 0), .int (σ.1 3 0 0 0), .int (σ.1 4 0 0 0), .int (σ.1 5 0 0 0), .int (σ.1 6 0 0 0), .double (σ.2.1 7 0 0 0)])) ∧ ment (1, 0, 0) c = true ∧ ment (2, 0, 0) c = true ∧ ment (3, 0, 0) c = true ∧ ment (4, 0, 0) c = true ∧ ment (5, 0, 0) c = true ∧ ment (6, 0, 0) c = true ∧ ment (7, 0, 0) c = true := by
  exact ⟨_, rfl, fun _ _ _ => rfl, by decide, by decide, by decide, by decide, by decide, by decide, by decide⟩
theorem eB_Bus  : enc b ca SB σ 0 = .inr (0, [.ref (b + 1), .ref (b + 2), .ref (b + 3), .ref (b + 4), .ref (b + 5), .ref (b + 9), .int (σ.1 1 0 0 0), .int (σ.1 2 0 0 0), .int (σ.1 3 0 0 0), .int (σ.1 4 0 0 0), .int (σ.1 5 0 0 0), .int (σ.1 6 0 0 0), .double (σ.2.1 7 0 0 0)]) := by
  obtain ⟨c, h1, h2, -⟩ := sB_Bus 
  rw [enc_at h1, h2]
theorem gB_Bus_nodes (C : Cs D ca cc nL own cx X) {index : Nat} (hd : decode cc pc = .ok (.getfield index, 3)) (hw : Cond.fieldLink own index "RobotBus" "nodes" "[LRobotBus$Node;" ∈ gtb)  (kk : Zs l D ca SB b 182 R nL X σ (pc + 3) L (.ref (b + 1) :: st)) : Zs l D ca SB b 182 R nL X σ pc L (.ref (b + 0) :: st) :=
  z_get C hd (fun w h => List.mem_cons_of_mem _ (in_Bus w h)) (T := F_Bus) (N := 13) (ci := 0) rfl 0 (by decide) (List.mem_cons_of_mem _ hw) (by omega) rfl (eB_Bus ) rfl kk
theorem gB_Bus_topics (C : Cs D ca cc nL own cx X) {index : Nat} (hd : decode cc pc = .ok (.getfield index, 3)) (hw : Cond.fieldLink own index "RobotBus" "topics" "[LRobotBus$Topic;" ∈ gtb)  (kk : Zs l D ca SB b 182 R nL X σ (pc + 3) L (.ref (b + 2) :: st)) : Zs l D ca SB b 182 R nL X σ pc L (.ref (b + 0) :: st) :=
  z_get C hd (fun w h => List.mem_cons_of_mem _ (in_Bus w h)) (T := F_Bus) (N := 13) (ci := 0) rfl 1 (by decide) (List.mem_cons_of_mem _ hw) (by omega) rfl (eB_Bus ) rfl kk
theorem gB_Bus_services (C : Cs D ca cc nL own cx X) {index : Nat} (hd : decode cc pc = .ok (.getfield index, 3)) (hw : Cond.fieldLink own index "RobotBus" "services" "[LRobotBus$Service;" ∈ gtb)  (kk : Zs l D ca SB b 182 R nL X σ (pc + 3) L (.ref (b + 3) :: st)) : Zs l D ca SB b 182 R nL X σ pc L (.ref (b + 0) :: st) :=
  z_get C hd (fun w h => List.mem_cons_of_mem _ (in_Bus w h)) (T := F_Bus) (N := 13) (ci := 0) rfl 2 (by decide) (List.mem_cons_of_mem _ hw) (by omega) rfl (eB_Bus ) rfl kk
theorem gB_Bus_frames (C : Cs D ca cc nL own cx X) {index : Nat} (hd : decode cc pc = .ok (.getfield index, 3)) (hw : Cond.fieldLink own index "RobotBus" "frames" "[LRobotBus$Frame;" ∈ gtb)  (kk : Zs l D ca SB b 182 R nL X σ (pc + 3) L (.ref (b + 4) :: st)) : Zs l D ca SB b 182 R nL X σ pc L (.ref (b + 0) :: st) :=
  z_get C hd (fun w h => List.mem_cons_of_mem _ (in_Bus w h)) (T := F_Bus) (N := 13) (ci := 0) rfl 3 (by decide) (List.mem_cons_of_mem _ hw) (by omega) rfl (eB_Bus ) rfl kk
theorem gB_Bus_bag (C : Cs D ca cc nL own cx X) {index : Nat} (hd : decode cc pc = .ok (.getfield index, 3)) (hw : Cond.fieldLink own index "RobotBus" "bag" "LRobotBus$Bag;" ∈ gtb)  (kk : Zs l D ca SB b 182 R nL X σ (pc + 3) L (.ref (b + 5) :: st)) : Zs l D ca SB b 182 R nL X σ pc L (.ref (b + 0) :: st) :=
  z_get C hd (fun w h => List.mem_cons_of_mem _ (in_Bus w h)) (T := F_Bus) (N := 13) (ci := 0) rfl 4 (by decide) (List.mem_cons_of_mem _ hw) (by omega) rfl (eB_Bus ) rfl kk
theorem gB_Bus_point (C : Cs D ca cc nL own cx X) {index : Nat} (hd : decode cc pc = .ok (.getfield index, 3)) (hw : Cond.fieldLink own index "RobotBus" "point" "LRobotBus$Point;" ∈ gtb)  (kk : Zs l D ca SB b 182 R nL X σ (pc + 3) L (.ref (b + 9) :: st)) : Zs l D ca SB b 182 R nL X σ pc L (.ref (b + 0) :: st) :=
  z_get C hd (fun w h => List.mem_cons_of_mem _ (in_Bus w h)) (T := F_Bus) (N := 13) (ci := 0) rfl 5 (by decide) (List.mem_cons_of_mem _ hw) (by omega) rfl (eB_Bus ) rfl kk
theorem gB_Bus_clock (C : Cs D ca cc nL own cx X) {index : Nat} (hd : decode cc pc = .ok (.getfield index, 3)) (hw : Cond.fieldLink own index "RobotBus" "clock" "I" ∈ gtb)  (kk : Zs l D ca SB b 182 R nL X σ (pc + 3) L (.int (σ.1 1 0 0 0) :: st)) : Zs l D ca SB b 182 R nL X σ pc L (.ref (b + 0) :: st) :=
  z_get C hd (fun w h => List.mem_cons_of_mem _ (in_Bus w h)) (T := F_Bus) (N := 13) (ci := 0) rfl 6 (by decide) (List.mem_cons_of_mem _ hw) (by omega) rfl (eB_Bus ) rfl kk
theorem uB_Bus_clock  (x : Int32) : va_up (enc b ca SB σ) 0 (.inr (0, [.ref (b + 1), .ref (b + 2), .ref (b + 3), .ref (b + 4), .ref (b + 5), .ref (b + 9), .int x, .int (σ.1 2 0 0 0), .int (σ.1 3 0 0 0), .int (σ.1 4 0 0 0), .int (σ.1 5 0 0 0), .int (σ.1 6 0 0 0), .double (σ.2.1 7 0 0 0)])) = enc b ca SB (us σ 1 0 0 x) := by
  obtain ⟨c, h1, h2, m6, m7, m8, m9, m10, m11, m12⟩ := sB_Bus 
  refine enc_up SB_U h1 m6 offK_A ?_
  rw [h2]
  simp [us, upA, upE]
theorem pB_Bus_clock (C : Cs D ca cc nL own cx X) {index : Nat} {x : Int32} (hd : decode cc pc = .ok (.putfield index, 3)) (hw : Cond.fieldLink own index "RobotBus" "clock" "I" ∈ gtb)  (kk : Zs l D ca SB b 182 R nL X (us σ 1 0 0 x) (pc + 3) L st) : Zs l D ca SB b 182 R nL X σ pc L (.int x :: .ref (b + 0) :: st) :=
  z_put C hd (fun w h => List.mem_cons_of_mem _ (in_Bus w h)) (T := F_Bus) (N := 13) (ci := 0) (ty := .int) tk_Bus n_Bus rfl 6 (by decide) (List.mem_cons_of_mem _ hw) rfl (by decide +kernel) rfl rfl (by omega) rfl (eB_Bus ) (by simp) (z_map (uB_Bus_clock  x) kk)
theorem gB_Bus_messagesLost (C : Cs D ca cc nL own cx X) {index : Nat} (hd : decode cc pc = .ok (.getfield index, 3)) (hw : Cond.fieldLink own index "RobotBus" "messagesLost" "I" ∈ gtb)  (kk : Zs l D ca SB b 182 R nL X σ (pc + 3) L (.int (σ.1 2 0 0 0) :: st)) : Zs l D ca SB b 182 R nL X σ pc L (.ref (b + 0) :: st) :=
  z_get C hd (fun w h => List.mem_cons_of_mem _ (in_Bus w h)) (T := F_Bus) (N := 13) (ci := 0) rfl 7 (by decide) (List.mem_cons_of_mem _ hw) (by omega) rfl (eB_Bus ) rfl kk
theorem uB_Bus_messagesLost  (x : Int32) : va_up (enc b ca SB σ) 0 (.inr (0, [.ref (b + 1), .ref (b + 2), .ref (b + 3), .ref (b + 4), .ref (b + 5), .ref (b + 9), .int (σ.1 1 0 0 0), .int x, .int (σ.1 3 0 0 0), .int (σ.1 4 0 0 0), .int (σ.1 5 0 0 0), .int (σ.1 6 0 0 0), .double (σ.2.1 7 0 0 0)])) = enc b ca SB (us σ 2 0 0 x) := by
  obtain ⟨c, h1, h2, m6, m7, m8, m9, m10, m11, m12⟩ := sB_Bus 
  refine enc_up SB_U h1 m7 offK_A ?_
  rw [h2]
  simp [us, upA, upE]
theorem pB_Bus_messagesLost (C : Cs D ca cc nL own cx X) {index : Nat} {x : Int32} (hd : decode cc pc = .ok (.putfield index, 3)) (hw : Cond.fieldLink own index "RobotBus" "messagesLost" "I" ∈ gtb)  (kk : Zs l D ca SB b 182 R nL X (us σ 2 0 0 x) (pc + 3) L st) : Zs l D ca SB b 182 R nL X σ pc L (.int x :: .ref (b + 0) :: st) :=
  z_put C hd (fun w h => List.mem_cons_of_mem _ (in_Bus w h)) (T := F_Bus) (N := 13) (ci := 0) (ty := .int) tk_Bus n_Bus rfl 7 (by decide) (List.mem_cons_of_mem _ hw) rfl (by decide +kernel) rfl rfl (by omega) rfl (eB_Bus ) (by simp) (z_map (uB_Bus_messagesLost  x) kk)
theorem gB_Bus_messagesPublished (C : Cs D ca cc nL own cx X) {index : Nat} (hd : decode cc pc = .ok (.getfield index, 3)) (hw : Cond.fieldLink own index "RobotBus" "messagesPublished" "I" ∈ gtb)  (kk : Zs l D ca SB b 182 R nL X σ (pc + 3) L (.int (σ.1 3 0 0 0) :: st)) : Zs l D ca SB b 182 R nL X σ pc L (.ref (b + 0) :: st) :=
  z_get C hd (fun w h => List.mem_cons_of_mem _ (in_Bus w h)) (T := F_Bus) (N := 13) (ci := 0) rfl 8 (by decide) (List.mem_cons_of_mem _ hw) (by omega) rfl (eB_Bus ) rfl kk
theorem uB_Bus_messagesPublished  (x : Int32) : va_up (enc b ca SB σ) 0 (.inr (0, [.ref (b + 1), .ref (b + 2), .ref (b + 3), .ref (b + 4), .ref (b + 5), .ref (b + 9), .int (σ.1 1 0 0 0), .int (σ.1 2 0 0 0), .int x, .int (σ.1 4 0 0 0), .int (σ.1 5 0 0 0), .int (σ.1 6 0 0 0), .double (σ.2.1 7 0 0 0)])) = enc b ca SB (us σ 3 0 0 x) := by
  obtain ⟨c, h1, h2, m6, m7, m8, m9, m10, m11, m12⟩ := sB_Bus 
  refine enc_up SB_U h1 m8 offK_A ?_
  rw [h2]
  simp [us, upA, upE]
theorem pB_Bus_messagesPublished (C : Cs D ca cc nL own cx X) {index : Nat} {x : Int32} (hd : decode cc pc = .ok (.putfield index, 3)) (hw : Cond.fieldLink own index "RobotBus" "messagesPublished" "I" ∈ gtb)  (kk : Zs l D ca SB b 182 R nL X (us σ 3 0 0 x) (pc + 3) L st) : Zs l D ca SB b 182 R nL X σ pc L (.int x :: .ref (b + 0) :: st) :=
  z_put C hd (fun w h => List.mem_cons_of_mem _ (in_Bus w h)) (T := F_Bus) (N := 13) (ci := 0) (ty := .int) tk_Bus n_Bus rfl 8 (by decide) (List.mem_cons_of_mem _ hw) rfl (by decide +kernel) rfl rfl (by omega) rfl (eB_Bus ) (by simp) (z_map (uB_Bus_messagesPublished  x) kk)
theorem gB_Bus_actionsDone (C : Cs D ca cc nL own cx X) {index : Nat} (hd : decode cc pc = .ok (.getfield index, 3)) (hw : Cond.fieldLink own index "RobotBus" "actionsDone" "I" ∈ gtb)  (kk : Zs l D ca SB b 182 R nL X σ (pc + 3) L (.int (σ.1 4 0 0 0) :: st)) : Zs l D ca SB b 182 R nL X σ pc L (.ref (b + 0) :: st) :=
  z_get C hd (fun w h => List.mem_cons_of_mem _ (in_Bus w h)) (T := F_Bus) (N := 13) (ci := 0) rfl 9 (by decide) (List.mem_cons_of_mem _ hw) (by omega) rfl (eB_Bus ) rfl kk
theorem uB_Bus_actionsDone  (x : Int32) : va_up (enc b ca SB σ) 0 (.inr (0, [.ref (b + 1), .ref (b + 2), .ref (b + 3), .ref (b + 4), .ref (b + 5), .ref (b + 9), .int (σ.1 1 0 0 0), .int (σ.1 2 0 0 0), .int (σ.1 3 0 0 0), .int x, .int (σ.1 5 0 0 0), .int (σ.1 6 0 0 0), .double (σ.2.1 7 0 0 0)])) = enc b ca SB (us σ 4 0 0 x) := by
  obtain ⟨c, h1, h2, m6, m7, m8, m9, m10, m11, m12⟩ := sB_Bus 
  refine enc_up SB_U h1 m9 offK_A ?_
  rw [h2]
  simp [us, upA, upE]
theorem pB_Bus_actionsDone (C : Cs D ca cc nL own cx X) {index : Nat} {x : Int32} (hd : decode cc pc = .ok (.putfield index, 3)) (hw : Cond.fieldLink own index "RobotBus" "actionsDone" "I" ∈ gtb)  (kk : Zs l D ca SB b 182 R nL X (us σ 4 0 0 x) (pc + 3) L st) : Zs l D ca SB b 182 R nL X σ pc L (.int x :: .ref (b + 0) :: st) :=
  z_put C hd (fun w h => List.mem_cons_of_mem _ (in_Bus w h)) (T := F_Bus) (N := 13) (ci := 0) (ty := .int) tk_Bus n_Bus rfl 9 (by decide) (List.mem_cons_of_mem _ hw) rfl (by decide +kernel) rfl rfl (by omega) rfl (eB_Bus ) (by simp) (z_map (uB_Bus_actionsDone  x) kk)
theorem gB_Bus_asksFailed (C : Cs D ca cc nL own cx X) {index : Nat} (hd : decode cc pc = .ok (.getfield index, 3)) (hw : Cond.fieldLink own index "RobotBus" "asksFailed" "I" ∈ gtb)  (kk : Zs l D ca SB b 182 R nL X σ (pc + 3) L (.int (σ.1 5 0 0 0) :: st)) : Zs l D ca SB b 182 R nL X σ pc L (.ref (b + 0) :: st) :=
  z_get C hd (fun w h => List.mem_cons_of_mem _ (in_Bus w h)) (T := F_Bus) (N := 13) (ci := 0) rfl 10 (by decide) (List.mem_cons_of_mem _ hw) (by omega) rfl (eB_Bus ) rfl kk
theorem uB_Bus_asksFailed  (x : Int32) : va_up (enc b ca SB σ) 0 (.inr (0, [.ref (b + 1), .ref (b + 2), .ref (b + 3), .ref (b + 4), .ref (b + 5), .ref (b + 9), .int (σ.1 1 0 0 0), .int (σ.1 2 0 0 0), .int (σ.1 3 0 0 0), .int (σ.1 4 0 0 0), .int x, .int (σ.1 6 0 0 0), .double (σ.2.1 7 0 0 0)])) = enc b ca SB (us σ 5 0 0 x) := by
  obtain ⟨c, h1, h2, m6, m7, m8, m9, m10, m11, m12⟩ := sB_Bus 
  refine enc_up SB_U h1 m10 offK_A ?_
  rw [h2]
  simp [us, upA, upE]
theorem pB_Bus_asksFailed (C : Cs D ca cc nL own cx X) {index : Nat} {x : Int32} (hd : decode cc pc = .ok (.putfield index, 3)) (hw : Cond.fieldLink own index "RobotBus" "asksFailed" "I" ∈ gtb)  (kk : Zs l D ca SB b 182 R nL X (us σ 5 0 0 x) (pc + 3) L st) : Zs l D ca SB b 182 R nL X σ pc L (.int x :: .ref (b + 0) :: st) :=
  z_put C hd (fun w h => List.mem_cons_of_mem _ (in_Bus w h)) (T := F_Bus) (N := 13) (ci := 0) (ty := .int) tk_Bus n_Bus rfl 10 (by decide) (List.mem_cons_of_mem _ hw) rfl (by decide +kernel) rfl rfl (by omega) rfl (eB_Bus ) (by simp) (z_map (uB_Bus_asksFailed  x) kk)
theorem gB_Bus_answer (C : Cs D ca cc nL own cx X) {index : Nat} (hd : decode cc pc = .ok (.getfield index, 3)) (hw : Cond.fieldLink own index "RobotBus" "answer" "I" ∈ gtb)  (kk : Zs l D ca SB b 182 R nL X σ (pc + 3) L (.int (σ.1 6 0 0 0) :: st)) : Zs l D ca SB b 182 R nL X σ pc L (.ref (b + 0) :: st) :=
  z_get C hd (fun w h => List.mem_cons_of_mem _ (in_Bus w h)) (T := F_Bus) (N := 13) (ci := 0) rfl 11 (by decide) (List.mem_cons_of_mem _ hw) (by omega) rfl (eB_Bus ) rfl kk
theorem uB_Bus_answer  (x : Int32) : va_up (enc b ca SB σ) 0 (.inr (0, [.ref (b + 1), .ref (b + 2), .ref (b + 3), .ref (b + 4), .ref (b + 5), .ref (b + 9), .int (σ.1 1 0 0 0), .int (σ.1 2 0 0 0), .int (σ.1 3 0 0 0), .int (σ.1 4 0 0 0), .int (σ.1 5 0 0 0), .int x, .double (σ.2.1 7 0 0 0)])) = enc b ca SB (us σ 6 0 0 x) := by
  obtain ⟨c, h1, h2, m6, m7, m8, m9, m10, m11, m12⟩ := sB_Bus 
  refine enc_up SB_U h1 m11 offK_A ?_
  rw [h2]
  simp [us, upA, upE]
theorem pB_Bus_answer (C : Cs D ca cc nL own cx X) {index : Nat} {x : Int32} (hd : decode cc pc = .ok (.putfield index, 3)) (hw : Cond.fieldLink own index "RobotBus" "answer" "I" ∈ gtb)  (kk : Zs l D ca SB b 182 R nL X (us σ 6 0 0 x) (pc + 3) L st) : Zs l D ca SB b 182 R nL X σ pc L (.int x :: .ref (b + 0) :: st) :=
  z_put C hd (fun w h => List.mem_cons_of_mem _ (in_Bus w h)) (T := F_Bus) (N := 13) (ci := 0) (ty := .int) tk_Bus n_Bus rfl 11 (by decide) (List.mem_cons_of_mem _ hw) rfl (by decide +kernel) rfl rfl (by omega) rfl (eB_Bus ) (by simp) (z_map (uB_Bus_answer  x) kk)
theorem gB_Bus_keptY (C : Cs D ca cc nL own cx X) {index : Nat} (hd : decode cc pc = .ok (.getfield index, 3)) (hw : Cond.fieldLink own index "RobotBus" "keptY" "D" ∈ gtb)  (kk : Zs l D ca SB b 182 R nL X σ (pc + 3) L (.double (σ.2.1 7 0 0 0) :: st)) : Zs l D ca SB b 182 R nL X σ pc L (.ref (b + 0) :: st) :=
  z_get C hd (fun w h => List.mem_cons_of_mem _ (in_Bus w h)) (T := F_Bus) (N := 13) (ci := 0) rfl 12 (by decide) (List.mem_cons_of_mem _ hw) (by omega) rfl (eB_Bus ) rfl kk
theorem uB_Bus_keptY  (x : UInt64) : va_up (enc b ca SB σ) 0 (.inr (0, [.ref (b + 1), .ref (b + 2), .ref (b + 3), .ref (b + 4), .ref (b + 5), .ref (b + 9), .int (σ.1 1 0 0 0), .int (σ.1 2 0 0 0), .int (σ.1 3 0 0 0), .int (σ.1 4 0 0 0), .int (σ.1 5 0 0 0), .int (σ.1 6 0 0 0), .double x])) = enc b ca SB (upE σ (7, 0, 0) (fun _ => x)) := by
  obtain ⟨c, h1, h2, m6, m7, m8, m9, m10, m11, m12⟩ := sB_Bus 
  refine enc_up SB_U h1 m12 offK_E ?_
  rw [h2]
  simp [us, upA, upE]
theorem pB_Bus_keptY (C : Cs D ca cc nL own cx X) {index : Nat} {x : UInt64} (hd : decode cc pc = .ok (.putfield index, 3)) (hw : Cond.fieldLink own index "RobotBus" "keptY" "D" ∈ gtb)  (kk : Zs l D ca SB b 182 R nL X (upE σ (7, 0, 0) (fun _ => x)) (pc + 3) L st) : Zs l D ca SB b 182 R nL X σ pc L (.double x :: .ref (b + 0) :: st) :=
  z_put C hd (fun w h => List.mem_cons_of_mem _ (in_Bus w h)) (T := F_Bus) (N := 13) (ci := 0) (ty := .double) tk_Bus n_Bus rfl 12 (by decide) (List.mem_cons_of_mem _ hw) rfl (by decide +kernel) rfl rfl (by omega) rfl (eB_Bus ) (by simp) (z_map (uB_Bus_keptY  x) kk)
theorem sB_Bag  : ∃ c, SB[5]? = some c ∧ (∀ (b : Nat) (ca : Nat → ClassId) (σ : Sg), rz b ca σ c = .inr (7, [.ref (b + 6), .ref (b + 7), .ref (b + 8), .int (σ.1 10 0 0 0), .int (σ.1 11 0 0 0), .int (σ.1 12 0 0 0), .int (σ.1 13 0 0 0), .int (σ.1 14 0 0 0)])) ∧ ment (10, 0, 0) c = true ∧ ment (11, 0, 0) c = true ∧ ment (12, 0, 0) c = true ∧ ment (13, 0, 0) c = true ∧ ment (14, 0, 0) c = true := by
  exact ⟨_, rfl, fun _ _ _ => rfl, by decide, by decide, by decide, by decide, by decide⟩
theorem eB_Bag  : enc b ca SB σ 5 = .inr (7, [.ref (b + 6), .ref (b + 7), .ref (b + 8), .int (σ.1 10 0 0 0), .int (σ.1 11 0 0 0), .int (σ.1 12 0 0 0), .int (σ.1 13 0 0 0), .int (σ.1 14 0 0 0)]) := by
  obtain ⟨c, h1, h2, -⟩ := sB_Bag 
  rw [enc_at h1, h2]
theorem gB_Bag_times (C : Cs D ca cc nL own cx X) {index : Nat} (hd : decode cc pc = .ok (.getfield index, 3)) (hw : Cond.fieldLink own index "RobotBus$Bag" "times" "[I" ∈ gtb)  (kk : Zs l D ca SB b 182 R nL X σ (pc + 3) L (.ref (b + 6) :: st)) : Zs l D ca SB b 182 R nL X σ pc L (.ref (b + 5) :: st) :=
  z_get C hd (fun w h => List.mem_cons_of_mem _ (in_Bag w h)) (T := F_Bag) (N := 8) (ci := 7) rfl 0 (by decide) (List.mem_cons_of_mem _ hw) (by omega) rfl (eB_Bag ) rfl kk
theorem gB_Bag_topics (C : Cs D ca cc nL own cx X) {index : Nat} (hd : decode cc pc = .ok (.getfield index, 3)) (hw : Cond.fieldLink own index "RobotBus$Bag" "topics" "[I" ∈ gtb)  (kk : Zs l D ca SB b 182 R nL X σ (pc + 3) L (.ref (b + 7) :: st)) : Zs l D ca SB b 182 R nL X σ pc L (.ref (b + 5) :: st) :=
  z_get C hd (fun w h => List.mem_cons_of_mem _ (in_Bag w h)) (T := F_Bag) (N := 8) (ci := 7) rfl 1 (by decide) (List.mem_cons_of_mem _ hw) (by omega) rfl (eB_Bag ) rfl kk
theorem gB_Bag_values (C : Cs D ca cc nL own cx X) {index : Nat} (hd : decode cc pc = .ok (.getfield index, 3)) (hw : Cond.fieldLink own index "RobotBus$Bag" "values" "[I" ∈ gtb)  (kk : Zs l D ca SB b 182 R nL X σ (pc + 3) L (.ref (b + 8) :: st)) : Zs l D ca SB b 182 R nL X σ pc L (.ref (b + 5) :: st) :=
  z_get C hd (fun w h => List.mem_cons_of_mem _ (in_Bag w h)) (T := F_Bag) (N := 8) (ci := 7) rfl 2 (by decide) (List.mem_cons_of_mem _ hw) (by omega) rfl (eB_Bag ) rfl kk
theorem gB_Bag_size (C : Cs D ca cc nL own cx X) {index : Nat} (hd : decode cc pc = .ok (.getfield index, 3)) (hw : Cond.fieldLink own index "RobotBus$Bag" "size" "I" ∈ gtb)  (kk : Zs l D ca SB b 182 R nL X σ (pc + 3) L (.int (σ.1 10 0 0 0) :: st)) : Zs l D ca SB b 182 R nL X σ pc L (.ref (b + 5) :: st) :=
  z_get C hd (fun w h => List.mem_cons_of_mem _ (in_Bag w h)) (T := F_Bag) (N := 8) (ci := 7) rfl 3 (by decide) (List.mem_cons_of_mem _ hw) (by omega) rfl (eB_Bag ) rfl kk
theorem uB_Bag_size  (x : Int32) : va_up (enc b ca SB σ) 5 (.inr (7, [.ref (b + 6), .ref (b + 7), .ref (b + 8), .int x, .int (σ.1 11 0 0 0), .int (σ.1 12 0 0 0), .int (σ.1 13 0 0 0), .int (σ.1 14 0 0 0)])) = enc b ca SB (us σ 10 0 0 x) := by
  obtain ⟨c, h1, h2, m3, m4, m5, m6, m7⟩ := sB_Bag 
  refine enc_up SB_U h1 m3 offK_A ?_
  rw [h2]
  simp [us, upA, upE]
theorem pB_Bag_size (C : Cs D ca cc nL own cx X) {index : Nat} {x : Int32} (hd : decode cc pc = .ok (.putfield index, 3)) (hw : Cond.fieldLink own index "RobotBus$Bag" "size" "I" ∈ gtb)  (kk : Zs l D ca SB b 182 R nL X (us σ 10 0 0 x) (pc + 3) L st) : Zs l D ca SB b 182 R nL X σ pc L (.int x :: .ref (b + 5) :: st) :=
  z_put C hd (fun w h => List.mem_cons_of_mem _ (in_Bag w h)) (T := F_Bag) (N := 8) (ci := 7) (ty := .int) tk_Bag n_Bag rfl 3 (by decide) (List.mem_cons_of_mem _ hw) rfl (by decide +kernel) rfl rfl (by omega) rfl (eB_Bag ) (by simp) (z_map (uB_Bag_size  x) kk)
theorem gB_Bag_next (C : Cs D ca cc nL own cx X) {index : Nat} (hd : decode cc pc = .ok (.getfield index, 3)) (hw : Cond.fieldLink own index "RobotBus$Bag" "next" "I" ∈ gtb)  (kk : Zs l D ca SB b 182 R nL X σ (pc + 3) L (.int (σ.1 11 0 0 0) :: st)) : Zs l D ca SB b 182 R nL X σ pc L (.ref (b + 5) :: st) :=
  z_get C hd (fun w h => List.mem_cons_of_mem _ (in_Bag w h)) (T := F_Bag) (N := 8) (ci := 7) rfl 4 (by decide) (List.mem_cons_of_mem _ hw) (by omega) rfl (eB_Bag ) rfl kk
theorem uB_Bag_next  (x : Int32) : va_up (enc b ca SB σ) 5 (.inr (7, [.ref (b + 6), .ref (b + 7), .ref (b + 8), .int (σ.1 10 0 0 0), .int x, .int (σ.1 12 0 0 0), .int (σ.1 13 0 0 0), .int (σ.1 14 0 0 0)])) = enc b ca SB (us σ 11 0 0 x) := by
  obtain ⟨c, h1, h2, m3, m4, m5, m6, m7⟩ := sB_Bag 
  refine enc_up SB_U h1 m4 offK_A ?_
  rw [h2]
  simp [us, upA, upE]
theorem pB_Bag_next (C : Cs D ca cc nL own cx X) {index : Nat} {x : Int32} (hd : decode cc pc = .ok (.putfield index, 3)) (hw : Cond.fieldLink own index "RobotBus$Bag" "next" "I" ∈ gtb)  (kk : Zs l D ca SB b 182 R nL X (us σ 11 0 0 x) (pc + 3) L st) : Zs l D ca SB b 182 R nL X σ pc L (.int x :: .ref (b + 5) :: st) :=
  z_put C hd (fun w h => List.mem_cons_of_mem _ (in_Bag w h)) (T := F_Bag) (N := 8) (ci := 7) (ty := .int) tk_Bag n_Bag rfl 4 (by decide) (List.mem_cons_of_mem _ hw) rfl (by decide +kernel) rfl rfl (by omega) rfl (eB_Bag ) (by simp) (z_map (uB_Bag_next  x) kk)
theorem gB_Bag_end (C : Cs D ca cc nL own cx X) {index : Nat} (hd : decode cc pc = .ok (.getfield index, 3)) (hw : Cond.fieldLink own index "RobotBus$Bag" "end" "I" ∈ gtb)  (kk : Zs l D ca SB b 182 R nL X σ (pc + 3) L (.int (σ.1 12 0 0 0) :: st)) : Zs l D ca SB b 182 R nL X σ pc L (.ref (b + 5) :: st) :=
  z_get C hd (fun w h => List.mem_cons_of_mem _ (in_Bag w h)) (T := F_Bag) (N := 8) (ci := 7) rfl 5 (by decide) (List.mem_cons_of_mem _ hw) (by omega) rfl (eB_Bag ) rfl kk
theorem uB_Bag_end  (x : Int32) : va_up (enc b ca SB σ) 5 (.inr (7, [.ref (b + 6), .ref (b + 7), .ref (b + 8), .int (σ.1 10 0 0 0), .int (σ.1 11 0 0 0), .int x, .int (σ.1 13 0 0 0), .int (σ.1 14 0 0 0)])) = enc b ca SB (us σ 12 0 0 x) := by
  obtain ⟨c, h1, h2, m3, m4, m5, m6, m7⟩ := sB_Bag 
  refine enc_up SB_U h1 m5 offK_A ?_
  rw [h2]
  simp [us, upA, upE]
theorem pB_Bag_end (C : Cs D ca cc nL own cx X) {index : Nat} {x : Int32} (hd : decode cc pc = .ok (.putfield index, 3)) (hw : Cond.fieldLink own index "RobotBus$Bag" "end" "I" ∈ gtb)  (kk : Zs l D ca SB b 182 R nL X (us σ 12 0 0 x) (pc + 3) L st) : Zs l D ca SB b 182 R nL X σ pc L (.int x :: .ref (b + 5) :: st) :=
  z_put C hd (fun w h => List.mem_cons_of_mem _ (in_Bag w h)) (T := F_Bag) (N := 8) (ci := 7) (ty := .int) tk_Bag n_Bag rfl 5 (by decide) (List.mem_cons_of_mem _ hw) rfl (by decide +kernel) rfl rfl (by omega) rfl (eB_Bag ) (by simp) (z_map (uB_Bag_end  x) kk)
theorem gB_Bag_startClock (C : Cs D ca cc nL own cx X) {index : Nat} (hd : decode cc pc = .ok (.getfield index, 3)) (hw : Cond.fieldLink own index "RobotBus$Bag" "startClock" "I" ∈ gtb)  (kk : Zs l D ca SB b 182 R nL X σ (pc + 3) L (.int (σ.1 13 0 0 0) :: st)) : Zs l D ca SB b 182 R nL X σ pc L (.ref (b + 5) :: st) :=
  z_get C hd (fun w h => List.mem_cons_of_mem _ (in_Bag w h)) (T := F_Bag) (N := 8) (ci := 7) rfl 6 (by decide) (List.mem_cons_of_mem _ hw) (by omega) rfl (eB_Bag ) rfl kk
theorem uB_Bag_startClock  (x : Int32) : va_up (enc b ca SB σ) 5 (.inr (7, [.ref (b + 6), .ref (b + 7), .ref (b + 8), .int (σ.1 10 0 0 0), .int (σ.1 11 0 0 0), .int (σ.1 12 0 0 0), .int x, .int (σ.1 14 0 0 0)])) = enc b ca SB (us σ 13 0 0 x) := by
  obtain ⟨c, h1, h2, m3, m4, m5, m6, m7⟩ := sB_Bag 
  refine enc_up SB_U h1 m6 offK_A ?_
  rw [h2]
  simp [us, upA, upE]
theorem pB_Bag_startClock (C : Cs D ca cc nL own cx X) {index : Nat} {x : Int32} (hd : decode cc pc = .ok (.putfield index, 3)) (hw : Cond.fieldLink own index "RobotBus$Bag" "startClock" "I" ∈ gtb)  (kk : Zs l D ca SB b 182 R nL X (us σ 13 0 0 x) (pc + 3) L st) : Zs l D ca SB b 182 R nL X σ pc L (.int x :: .ref (b + 5) :: st) :=
  z_put C hd (fun w h => List.mem_cons_of_mem _ (in_Bag w h)) (T := F_Bag) (N := 8) (ci := 7) (ty := .int) tk_Bag n_Bag rfl 6 (by decide) (List.mem_cons_of_mem _ hw) rfl (by decide +kernel) rfl rfl (by omega) rfl (eB_Bag ) (by simp) (z_map (uB_Bag_startClock  x) kk)
theorem gB_Bag_pace (C : Cs D ca cc nL own cx X) {index : Nat} (hd : decode cc pc = .ok (.getfield index, 3)) (hw : Cond.fieldLink own index "RobotBus$Bag" "pace" "I" ∈ gtb)  (kk : Zs l D ca SB b 182 R nL X σ (pc + 3) L (.int (σ.1 14 0 0 0) :: st)) : Zs l D ca SB b 182 R nL X σ pc L (.ref (b + 5) :: st) :=
  z_get C hd (fun w h => List.mem_cons_of_mem _ (in_Bag w h)) (T := F_Bag) (N := 8) (ci := 7) rfl 7 (by decide) (List.mem_cons_of_mem _ hw) (by omega) rfl (eB_Bag ) rfl kk
theorem uB_Bag_pace  (x : Int32) : va_up (enc b ca SB σ) 5 (.inr (7, [.ref (b + 6), .ref (b + 7), .ref (b + 8), .int (σ.1 10 0 0 0), .int (σ.1 11 0 0 0), .int (σ.1 12 0 0 0), .int (σ.1 13 0 0 0), .int x])) = enc b ca SB (us σ 14 0 0 x) := by
  obtain ⟨c, h1, h2, m3, m4, m5, m6, m7⟩ := sB_Bag 
  refine enc_up SB_U h1 m7 offK_A ?_
  rw [h2]
  simp [us, upA, upE]
theorem pB_Bag_pace (C : Cs D ca cc nL own cx X) {index : Nat} {x : Int32} (hd : decode cc pc = .ok (.putfield index, 3)) (hw : Cond.fieldLink own index "RobotBus$Bag" "pace" "I" ∈ gtb)  (kk : Zs l D ca SB b 182 R nL X (us σ 14 0 0 x) (pc + 3) L st) : Zs l D ca SB b 182 R nL X σ pc L (.int x :: .ref (b + 5) :: st) :=
  z_put C hd (fun w h => List.mem_cons_of_mem _ (in_Bag w h)) (T := F_Bag) (N := 8) (ci := 7) (ty := .int) tk_Bag n_Bag rfl 7 (by decide) (List.mem_cons_of_mem _ hw) rfl (by decide +kernel) rfl rfl (by omega) rfl (eB_Bag ) (by simp) (z_map (uB_Bag_pace  x) kk)
theorem sB_Pnt  : ∃ c, SB[9]? = some c ∧ (∀ (b : Nat) (ca : Nat → ClassId) (σ : Sg), rz b ca σ c = .inr (8, [.int (σ.1 20 0 0 0), .int (σ.1 21 0 0 0)])) ∧ ment (20, 0, 0) c = true ∧ ment (21, 0, 0) c = true := by
  exact ⟨_, rfl, fun _ _ _ => rfl, by decide, by decide⟩
theorem eB_Pnt  : enc b ca SB σ 9 = .inr (8, [.int (σ.1 20 0 0 0), .int (σ.1 21 0 0 0)]) := by
  obtain ⟨c, h1, h2, -⟩ := sB_Pnt 
  rw [enc_at h1, h2]
theorem gB_Pnt_x (C : Cs D ca cc nL own cx X) {index : Nat} (hd : decode cc pc = .ok (.getfield index, 3)) (hw : Cond.fieldLink own index "RobotBus$Point" "x" "I" ∈ gtb)  (kk : Zs l D ca SB b 182 R nL X σ (pc + 3) L (.int (σ.1 20 0 0 0) :: st)) : Zs l D ca SB b 182 R nL X σ pc L (.ref (b + 9) :: st) :=
  z_get C hd (fun w h => List.mem_cons_of_mem _ (in_Pnt w h)) (T := F_Pnt) (N := 2) (ci := 8) rfl 0 (by decide) (List.mem_cons_of_mem _ hw) (by omega) rfl (eB_Pnt ) rfl kk
theorem uB_Pnt_x  (x : Int32) : va_up (enc b ca SB σ) 9 (.inr (8, [.int x, .int (σ.1 21 0 0 0)])) = enc b ca SB (us σ 20 0 0 x) := by
  obtain ⟨c, h1, h2, m0, m1⟩ := sB_Pnt 
  refine enc_up SB_U h1 m0 offK_A ?_
  rw [h2]
  simp [us, upA, upE]
theorem pB_Pnt_x (C : Cs D ca cc nL own cx X) {index : Nat} {x : Int32} (hd : decode cc pc = .ok (.putfield index, 3)) (hw : Cond.fieldLink own index "RobotBus$Point" "x" "I" ∈ gtb)  (kk : Zs l D ca SB b 182 R nL X (us σ 20 0 0 x) (pc + 3) L st) : Zs l D ca SB b 182 R nL X σ pc L (.int x :: .ref (b + 9) :: st) :=
  z_put C hd (fun w h => List.mem_cons_of_mem _ (in_Pnt w h)) (T := F_Pnt) (N := 2) (ci := 8) (ty := .int) tk_Pnt n_Pnt rfl 0 (by decide) (List.mem_cons_of_mem _ hw) rfl (by decide +kernel) rfl rfl (by omega) rfl (eB_Pnt ) (by simp) (z_map (uB_Pnt_x  x) kk)
theorem gB_Pnt_y (C : Cs D ca cc nL own cx X) {index : Nat} (hd : decode cc pc = .ok (.getfield index, 3)) (hw : Cond.fieldLink own index "RobotBus$Point" "y" "I" ∈ gtb)  (kk : Zs l D ca SB b 182 R nL X σ (pc + 3) L (.int (σ.1 21 0 0 0) :: st)) : Zs l D ca SB b 182 R nL X σ pc L (.ref (b + 9) :: st) :=
  z_get C hd (fun w h => List.mem_cons_of_mem _ (in_Pnt w h)) (T := F_Pnt) (N := 2) (ci := 8) rfl 1 (by decide) (List.mem_cons_of_mem _ hw) (by omega) rfl (eB_Pnt ) rfl kk
theorem uB_Pnt_y  (x : Int32) : va_up (enc b ca SB σ) 9 (.inr (8, [.int (σ.1 20 0 0 0), .int x])) = enc b ca SB (us σ 21 0 0 x) := by
  obtain ⟨c, h1, h2, m0, m1⟩ := sB_Pnt 
  refine enc_up SB_U h1 m1 offK_A ?_
  rw [h2]
  simp [us, upA, upE]
theorem pB_Pnt_y (C : Cs D ca cc nL own cx X) {index : Nat} {x : Int32} (hd : decode cc pc = .ok (.putfield index, 3)) (hw : Cond.fieldLink own index "RobotBus$Point" "y" "I" ∈ gtb)  (kk : Zs l D ca SB b 182 R nL X (us σ 21 0 0 x) (pc + 3) L st) : Zs l D ca SB b 182 R nL X σ pc L (.int x :: .ref (b + 9) :: st) :=
  z_put C hd (fun w h => List.mem_cons_of_mem _ (in_Pnt w h)) (T := F_Pnt) (N := 2) (ci := 8) (ty := .int) tk_Pnt n_Pnt rfl 1 (by decide) (List.mem_cons_of_mem _ hw) rfl (by decide +kernel) rfl rfl (by omega) rfl (eB_Pnt ) (by simp) (z_map (uB_Pnt_y  x) kk)
theorem sB_Nod {i : Nat} (hi : i < 6) : ∃ c, SB[(10 + 22 * i)]? = some c ∧ (∀ (b : Nat) (ca : Nat → ClassId) (σ : Sg), rz b ca σ c = .inr (1, [.ref (b + (11 + 22 * i)), .ref (b + (12 + 22 * i)), .ref (b + (13 + 22 * i)), .int (σ.1 30 i 0 0), .int (σ.1 31 i 0 0)])) ∧ ment (30, i, 0) c = true ∧ ment (31, i, 0) c = true := by
  have h9i : i = 0 ∨ i = 1 ∨ i = 2 ∨ i = 3 ∨ i = 4 ∨ i = 5 := by omega
  rcases h9i with rfl | rfl | rfl | rfl | rfl | rfl <;> exact ⟨_, rfl, fun _ _ _ => rfl, by decide, by decide⟩
theorem eB_Nod {i : Nat} (hi : i < 6) : enc b ca SB σ (10 + 22 * i) = .inr (1, [.ref (b + (11 + 22 * i)), .ref (b + (12 + 22 * i)), .ref (b + (13 + 22 * i)), .int (σ.1 30 i 0 0), .int (σ.1 31 i 0 0)]) := by
  obtain ⟨c, h1, h2, -⟩ := sB_Nod hi
  rw [enc_at h1, h2]
theorem gB_Nod_variables (C : Cs D ca cc nL own cx X) {index : Nat} (hd : decode cc pc = .ok (.getfield index, 3)) (hw : Cond.fieldLink own index "RobotBus$Node" "variables" "[I" ∈ gtb) {i : Nat} (hi : i < 6) (kk : Zs l D ca SB b 182 R nL X σ (pc + 3) L (.ref (b + (11 + 22 * i)) :: st)) : Zs l D ca SB b 182 R nL X σ pc L (.ref (b + (10 + 22 * i)) :: st) :=
  z_get C hd (fun w h => List.mem_cons_of_mem _ (in_Nod w h)) (T := F_Nod) (N := 5) (ci := 1) rfl 0 (by decide) (List.mem_cons_of_mem _ hw) (by omega) rfl (eB_Nod hi) rfl kk
theorem gB_Nod_queues (C : Cs D ca cc nL own cx X) {index : Nat} (hd : decode cc pc = .ok (.getfield index, 3)) (hw : Cond.fieldLink own index "RobotBus$Node" "queues" "[LRobotBus$Queue;" ∈ gtb) {i : Nat} (hi : i < 6) (kk : Zs l D ca SB b 182 R nL X σ (pc + 3) L (.ref (b + (12 + 22 * i)) :: st)) : Zs l D ca SB b 182 R nL X σ pc L (.ref (b + (10 + 22 * i)) :: st) :=
  z_get C hd (fun w h => List.mem_cons_of_mem _ (in_Nod w h)) (T := F_Nod) (N := 5) (ci := 1) rfl 1 (by decide) (List.mem_cons_of_mem _ hw) (by omega) rfl (eB_Nod hi) rfl kk
theorem gB_Nod_actions (C : Cs D ca cc nL own cx X) {index : Nat} (hd : decode cc pc = .ok (.getfield index, 3)) (hw : Cond.fieldLink own index "RobotBus$Node" "actions" "[LRobotBus$Action;" ∈ gtb) {i : Nat} (hi : i < 6) (kk : Zs l D ca SB b 182 R nL X σ (pc + 3) L (.ref (b + (13 + 22 * i)) :: st)) : Zs l D ca SB b 182 R nL X σ pc L (.ref (b + (10 + 22 * i)) :: st) :=
  z_get C hd (fun w h => List.mem_cons_of_mem _ (in_Nod w h)) (T := F_Nod) (N := 5) (ci := 1) rfl 2 (by decide) (List.mem_cons_of_mem _ hw) (by omega) rfl (eB_Nod hi) rfl kk
theorem gB_Nod_present (C : Cs D ca cc nL own cx X) {index : Nat} (hd : decode cc pc = .ok (.getfield index, 3)) (hw : Cond.fieldLink own index "RobotBus$Node" "present" "Z" ∈ gtb) {i : Nat} (hi : i < 6) (kk : Zs l D ca SB b 182 R nL X σ (pc + 3) L (.int (σ.1 30 i 0 0) :: st)) : Zs l D ca SB b 182 R nL X σ pc L (.ref (b + (10 + 22 * i)) :: st) :=
  z_get C hd (fun w h => List.mem_cons_of_mem _ (in_Nod w h)) (T := F_Nod) (N := 5) (ci := 1) rfl 3 (by decide) (List.mem_cons_of_mem _ hw) (by omega) rfl (eB_Nod hi) rfl kk
theorem uB_Nod_present {i : Nat} (hi : i < 6) (x : Int32) : va_up (enc b ca SB σ) (10 + 22 * i) (.inr (1, [.ref (b + (11 + 22 * i)), .ref (b + (12 + 22 * i)), .ref (b + (13 + 22 * i)), .int x, .int (σ.1 31 i 0 0)])) = enc b ca SB (us σ 30 i 0 x) := by
  obtain ⟨c, h1, h2, m3, m4⟩ := sB_Nod hi
  refine enc_up SB_U h1 m3 offK_A ?_
  rw [h2]
  simp [us, upA, upE]
theorem pB_Nod_present (C : Cs D ca cc nL own cx X) {index : Nat} {x : Int32} (hd : decode cc pc = .ok (.putfield index, 3)) (hw : Cond.fieldLink own index "RobotBus$Node" "present" "Z" ∈ gtb) {i : Nat} (hi : i < 6) (hx : x = 0 ∨ x = 1) (kk : Zs l D ca SB b 182 R nL X (us σ 30 i 0 x) (pc + 3) L st) : Zs l D ca SB b 182 R nL X σ pc L (.int x :: .ref (b + (10 + 22 * i)) :: st) :=
  z_put C hd (fun w h => List.mem_cons_of_mem _ (in_Nod w h)) (T := F_Nod) (N := 5) (ci := 1) (ty := .boolean) tk_Nod n_Nod rfl 3 (by decide) (List.mem_cons_of_mem _ hw) rfl (by decide +kernel) (by rcases hx with rfl | rfl <;> rfl) (by rcases hx with rfl | rfl <;> decide) (by omega) rfl (eB_Nod hi) (by simp) (z_map (uB_Nod_present hi x) kk)
theorem gB_Nod_firstLookedAt (C : Cs D ca cc nL own cx X) {index : Nat} (hd : decode cc pc = .ok (.getfield index, 3)) (hw : Cond.fieldLink own index "RobotBus$Node" "firstLookedAt" "I" ∈ gtb) {i : Nat} (hi : i < 6) (kk : Zs l D ca SB b 182 R nL X σ (pc + 3) L (.int (σ.1 31 i 0 0) :: st)) : Zs l D ca SB b 182 R nL X σ pc L (.ref (b + (10 + 22 * i)) :: st) :=
  z_get C hd (fun w h => List.mem_cons_of_mem _ (in_Nod w h)) (T := F_Nod) (N := 5) (ci := 1) rfl 4 (by decide) (List.mem_cons_of_mem _ hw) (by omega) rfl (eB_Nod hi) rfl kk
theorem uB_Nod_firstLookedAt {i : Nat} (hi : i < 6) (x : Int32) : va_up (enc b ca SB σ) (10 + 22 * i) (.inr (1, [.ref (b + (11 + 22 * i)), .ref (b + (12 + 22 * i)), .ref (b + (13 + 22 * i)), .int (σ.1 30 i 0 0), .int x])) = enc b ca SB (us σ 31 i 0 x) := by
  obtain ⟨c, h1, h2, m3, m4⟩ := sB_Nod hi
  refine enc_up SB_U h1 m4 offK_A ?_
  rw [h2]
  simp [us, upA, upE]
theorem pB_Nod_firstLookedAt (C : Cs D ca cc nL own cx X) {index : Nat} {x : Int32} (hd : decode cc pc = .ok (.putfield index, 3)) (hw : Cond.fieldLink own index "RobotBus$Node" "firstLookedAt" "I" ∈ gtb) {i : Nat} (hi : i < 6) (kk : Zs l D ca SB b 182 R nL X (us σ 31 i 0 x) (pc + 3) L st) : Zs l D ca SB b 182 R nL X σ pc L (.int x :: .ref (b + (10 + 22 * i)) :: st) :=
  z_put C hd (fun w h => List.mem_cons_of_mem _ (in_Nod w h)) (T := F_Nod) (N := 5) (ci := 1) (ty := .int) tk_Nod n_Nod rfl 4 (by decide) (List.mem_cons_of_mem _ hw) rfl (by decide +kernel) rfl rfl (by omega) rfl (eB_Nod hi) (by simp) (z_map (uB_Nod_firstLookedAt hi x) kk)
theorem sB_Que {i : Nat} (hi : i < 6) {t : Nat} (ht : t < 6) : ∃ c, SB[(14 + 22 * i + 3 * t)]? = some c ∧ (∀ (b : Nat) (ca : Nat → ClassId) (σ : Sg), rz b ca σ c = .inr (2, [.ref (b + (15 + 22 * i + 3 * t)), .int (σ.1 33 i t 0), .int (σ.1 34 i t 0)])) ∧ ment (33, i, t) c = true ∧ ment (34, i, t) c = true := by
  have h9i : i = 0 ∨ i = 1 ∨ i = 2 ∨ i = 3 ∨ i = 4 ∨ i = 5 := by omega
  have h9t : t = 0 ∨ t = 1 ∨ t = 2 ∨ t = 3 ∨ t = 4 ∨ t = 5 := by omega
  rcases h9i with rfl | rfl | rfl | rfl | rfl | rfl <;> rcases h9t with rfl | rfl | rfl | rfl | rfl | rfl <;> exact ⟨_, rfl, fun _ _ _ => rfl, by decide, by decide⟩
theorem eB_Que {i : Nat} (hi : i < 6) {t : Nat} (ht : t < 6) : enc b ca SB σ (14 + 22 * i + 3 * t) = .inr (2, [.ref (b + (15 + 22 * i + 3 * t)), .int (σ.1 33 i t 0), .int (σ.1 34 i t 0)]) := by
  obtain ⟨c, h1, h2, -⟩ := sB_Que hi ht
  rw [enc_at h1, h2]
theorem gB_Que_cells (C : Cs D ca cc nL own cx X) {index : Nat} (hd : decode cc pc = .ok (.getfield index, 3)) (hw : Cond.fieldLink own index "RobotBus$Queue" "cells" "[I" ∈ gtb) {i : Nat} (hi : i < 6) {t : Nat} (ht : t < 6) (kk : Zs l D ca SB b 182 R nL X σ (pc + 3) L (.ref (b + (15 + 22 * i + 3 * t)) :: st)) : Zs l D ca SB b 182 R nL X σ pc L (.ref (b + (14 + 22 * i + 3 * t)) :: st) :=
  z_get C hd (fun w h => List.mem_cons_of_mem _ (in_Que w h)) (T := F_Que) (N := 3) (ci := 2) rfl 0 (by decide) (List.mem_cons_of_mem _ hw) (by omega) rfl (eB_Que hi ht) rfl kk
theorem gB_Que_depth (C : Cs D ca cc nL own cx X) {index : Nat} (hd : decode cc pc = .ok (.getfield index, 3)) (hw : Cond.fieldLink own index "RobotBus$Queue" "depth" "I" ∈ gtb) {i : Nat} (hi : i < 6) {t : Nat} (ht : t < 6) (kk : Zs l D ca SB b 182 R nL X σ (pc + 3) L (.int (σ.1 33 i t 0) :: st)) : Zs l D ca SB b 182 R nL X σ pc L (.ref (b + (14 + 22 * i + 3 * t)) :: st) :=
  z_get C hd (fun w h => List.mem_cons_of_mem _ (in_Que w h)) (T := F_Que) (N := 3) (ci := 2) rfl 1 (by decide) (List.mem_cons_of_mem _ hw) (by omega) rfl (eB_Que hi ht) rfl kk
theorem uB_Que_depth {i : Nat} (hi : i < 6) {t : Nat} (ht : t < 6) (x : Int32) : va_up (enc b ca SB σ) (14 + 22 * i + 3 * t) (.inr (2, [.ref (b + (15 + 22 * i + 3 * t)), .int x, .int (σ.1 34 i t 0)])) = enc b ca SB (us σ 33 i t x) := by
  obtain ⟨c, h1, h2, m1, m2⟩ := sB_Que hi ht
  refine enc_up SB_U h1 m1 offK_A ?_
  rw [h2]
  simp [us, upA, upE]
theorem pB_Que_depth (C : Cs D ca cc nL own cx X) {index : Nat} {x : Int32} (hd : decode cc pc = .ok (.putfield index, 3)) (hw : Cond.fieldLink own index "RobotBus$Queue" "depth" "I" ∈ gtb) {i : Nat} (hi : i < 6) {t : Nat} (ht : t < 6) (kk : Zs l D ca SB b 182 R nL X (us σ 33 i t x) (pc + 3) L st) : Zs l D ca SB b 182 R nL X σ pc L (.int x :: .ref (b + (14 + 22 * i + 3 * t)) :: st) :=
  z_put C hd (fun w h => List.mem_cons_of_mem _ (in_Que w h)) (T := F_Que) (N := 3) (ci := 2) (ty := .int) tk_Que n_Que rfl 1 (by decide) (List.mem_cons_of_mem _ hw) rfl (by decide +kernel) rfl rfl (by omega) rfl (eB_Que hi ht) (by simp) (z_map (uB_Que_depth hi ht x) kk)
theorem gB_Que_size (C : Cs D ca cc nL own cx X) {index : Nat} (hd : decode cc pc = .ok (.getfield index, 3)) (hw : Cond.fieldLink own index "RobotBus$Queue" "size" "I" ∈ gtb) {i : Nat} (hi : i < 6) {t : Nat} (ht : t < 6) (kk : Zs l D ca SB b 182 R nL X σ (pc + 3) L (.int (σ.1 34 i t 0) :: st)) : Zs l D ca SB b 182 R nL X σ pc L (.ref (b + (14 + 22 * i + 3 * t)) :: st) :=
  z_get C hd (fun w h => List.mem_cons_of_mem _ (in_Que w h)) (T := F_Que) (N := 3) (ci := 2) rfl 2 (by decide) (List.mem_cons_of_mem _ hw) (by omega) rfl (eB_Que hi ht) rfl kk
theorem uB_Que_size {i : Nat} (hi : i < 6) {t : Nat} (ht : t < 6) (x : Int32) : va_up (enc b ca SB σ) (14 + 22 * i + 3 * t) (.inr (2, [.ref (b + (15 + 22 * i + 3 * t)), .int (σ.1 33 i t 0), .int x])) = enc b ca SB (us σ 34 i t x) := by
  obtain ⟨c, h1, h2, m1, m2⟩ := sB_Que hi ht
  refine enc_up SB_U h1 m2 offK_A ?_
  rw [h2]
  simp [us, upA, upE]
theorem pB_Que_size (C : Cs D ca cc nL own cx X) {index : Nat} {x : Int32} (hd : decode cc pc = .ok (.putfield index, 3)) (hw : Cond.fieldLink own index "RobotBus$Queue" "size" "I" ∈ gtb) {i : Nat} (hi : i < 6) {t : Nat} (ht : t < 6) (kk : Zs l D ca SB b 182 R nL X (us σ 34 i t x) (pc + 3) L st) : Zs l D ca SB b 182 R nL X σ pc L (.int x :: .ref (b + (14 + 22 * i + 3 * t)) :: st) :=
  z_put C hd (fun w h => List.mem_cons_of_mem _ (in_Que w h)) (T := F_Que) (N := 3) (ci := 2) (ty := .int) tk_Que n_Que rfl 2 (by decide) (List.mem_cons_of_mem _ hw) rfl (by decide +kernel) rfl rfl (by omega) rfl (eB_Que hi ht) (by simp) (z_map (uB_Que_size hi ht x) kk)
theorem sB_Act {i : Nat} (hi : i < 6) {t : Nat} (ht : t < 6) : ∃ c, SB[(16 + 22 * i + 3 * t)]? = some c ∧ (∀ (b : Nat) (ca : Nat → ClassId) (σ : Sg), rz b ca σ c = .inr (3, [.int (σ.1 36 i t 0), .int (σ.1 37 i t 0), .int (σ.1 38 i t 0)])) ∧ ment (36, i, t) c = true ∧ ment (37, i, t) c = true ∧ ment (38, i, t) c = true := by
  have h9i : i = 0 ∨ i = 1 ∨ i = 2 ∨ i = 3 ∨ i = 4 ∨ i = 5 := by omega
  have h9t : t = 0 ∨ t = 1 ∨ t = 2 ∨ t = 3 ∨ t = 4 ∨ t = 5 := by omega
  rcases h9i with rfl | rfl | rfl | rfl | rfl | rfl <;> rcases h9t with rfl | rfl | rfl | rfl | rfl | rfl <;> exact ⟨_, rfl, fun _ _ _ => rfl, by decide, by decide, by decide⟩
theorem eB_Act {i : Nat} (hi : i < 6) {t : Nat} (ht : t < 6) : enc b ca SB σ (16 + 22 * i + 3 * t) = .inr (3, [.int (σ.1 36 i t 0), .int (σ.1 37 i t 0), .int (σ.1 38 i t 0)]) := by
  obtain ⟨c, h1, h2, -⟩ := sB_Act hi ht
  rw [enc_at h1, h2]
theorem gB_Act_kind (C : Cs D ca cc nL own cx X) {index : Nat} (hd : decode cc pc = .ok (.getfield index, 3)) (hw : Cond.fieldLink own index "RobotBus$Action" "kind" "I" ∈ gtb) {i : Nat} (hi : i < 6) {t : Nat} (ht : t < 6) (kk : Zs l D ca SB b 182 R nL X σ (pc + 3) L (.int (σ.1 36 i t 0) :: st)) : Zs l D ca SB b 182 R nL X σ pc L (.ref (b + (16 + 22 * i + 3 * t)) :: st) :=
  z_get C hd (fun w h => List.mem_cons_of_mem _ (in_Act w h)) (T := F_Act) (N := 3) (ci := 3) rfl 0 (by decide) (List.mem_cons_of_mem _ hw) (by omega) rfl (eB_Act hi ht) rfl kk
theorem uB_Act_kind {i : Nat} (hi : i < 6) {t : Nat} (ht : t < 6) (x : Int32) : va_up (enc b ca SB σ) (16 + 22 * i + 3 * t) (.inr (3, [.int x, .int (σ.1 37 i t 0), .int (σ.1 38 i t 0)])) = enc b ca SB (us σ 36 i t x) := by
  obtain ⟨c, h1, h2, m0, m1, m2⟩ := sB_Act hi ht
  refine enc_up SB_U h1 m0 offK_A ?_
  rw [h2]
  simp [us, upA, upE]
theorem pB_Act_kind (C : Cs D ca cc nL own cx X) {index : Nat} {x : Int32} (hd : decode cc pc = .ok (.putfield index, 3)) (hw : Cond.fieldLink own index "RobotBus$Action" "kind" "I" ∈ gtb) {i : Nat} (hi : i < 6) {t : Nat} (ht : t < 6) (kk : Zs l D ca SB b 182 R nL X (us σ 36 i t x) (pc + 3) L st) : Zs l D ca SB b 182 R nL X σ pc L (.int x :: .ref (b + (16 + 22 * i + 3 * t)) :: st) :=
  z_put C hd (fun w h => List.mem_cons_of_mem _ (in_Act w h)) (T := F_Act) (N := 3) (ci := 3) (ty := .int) tk_Act n_Act rfl 0 (by decide) (List.mem_cons_of_mem _ hw) rfl (by decide +kernel) rfl rfl (by omega) rfl (eB_Act hi ht) (by simp) (z_map (uB_Act_kind hi ht x) kk)
theorem gB_Act_a (C : Cs D ca cc nL own cx X) {index : Nat} (hd : decode cc pc = .ok (.getfield index, 3)) (hw : Cond.fieldLink own index "RobotBus$Action" "a" "I" ∈ gtb) {i : Nat} (hi : i < 6) {t : Nat} (ht : t < 6) (kk : Zs l D ca SB b 182 R nL X σ (pc + 3) L (.int (σ.1 37 i t 0) :: st)) : Zs l D ca SB b 182 R nL X σ pc L (.ref (b + (16 + 22 * i + 3 * t)) :: st) :=
  z_get C hd (fun w h => List.mem_cons_of_mem _ (in_Act w h)) (T := F_Act) (N := 3) (ci := 3) rfl 1 (by decide) (List.mem_cons_of_mem _ hw) (by omega) rfl (eB_Act hi ht) rfl kk
theorem uB_Act_a {i : Nat} (hi : i < 6) {t : Nat} (ht : t < 6) (x : Int32) : va_up (enc b ca SB σ) (16 + 22 * i + 3 * t) (.inr (3, [.int (σ.1 36 i t 0), .int x, .int (σ.1 38 i t 0)])) = enc b ca SB (us σ 37 i t x) := by
  obtain ⟨c, h1, h2, m0, m1, m2⟩ := sB_Act hi ht
  refine enc_up SB_U h1 m1 offK_A ?_
  rw [h2]
  simp [us, upA, upE]
theorem pB_Act_a (C : Cs D ca cc nL own cx X) {index : Nat} {x : Int32} (hd : decode cc pc = .ok (.putfield index, 3)) (hw : Cond.fieldLink own index "RobotBus$Action" "a" "I" ∈ gtb) {i : Nat} (hi : i < 6) {t : Nat} (ht : t < 6) (kk : Zs l D ca SB b 182 R nL X (us σ 37 i t x) (pc + 3) L st) : Zs l D ca SB b 182 R nL X σ pc L (.int x :: .ref (b + (16 + 22 * i + 3 * t)) :: st) :=
  z_put C hd (fun w h => List.mem_cons_of_mem _ (in_Act w h)) (T := F_Act) (N := 3) (ci := 3) (ty := .int) tk_Act n_Act rfl 1 (by decide) (List.mem_cons_of_mem _ hw) rfl (by decide +kernel) rfl rfl (by omega) rfl (eB_Act hi ht) (by simp) (z_map (uB_Act_a hi ht x) kk)
theorem gB_Act_b (C : Cs D ca cc nL own cx X) {index : Nat} (hd : decode cc pc = .ok (.getfield index, 3)) (hw : Cond.fieldLink own index "RobotBus$Action" "b" "I" ∈ gtb) {i : Nat} (hi : i < 6) {t : Nat} (ht : t < 6) (kk : Zs l D ca SB b 182 R nL X σ (pc + 3) L (.int (σ.1 38 i t 0) :: st)) : Zs l D ca SB b 182 R nL X σ pc L (.ref (b + (16 + 22 * i + 3 * t)) :: st) :=
  z_get C hd (fun w h => List.mem_cons_of_mem _ (in_Act w h)) (T := F_Act) (N := 3) (ci := 3) rfl 2 (by decide) (List.mem_cons_of_mem _ hw) (by omega) rfl (eB_Act hi ht) rfl kk
theorem uB_Act_b {i : Nat} (hi : i < 6) {t : Nat} (ht : t < 6) (x : Int32) : va_up (enc b ca SB σ) (16 + 22 * i + 3 * t) (.inr (3, [.int (σ.1 36 i t 0), .int (σ.1 37 i t 0), .int x])) = enc b ca SB (us σ 38 i t x) := by
  obtain ⟨c, h1, h2, m0, m1, m2⟩ := sB_Act hi ht
  refine enc_up SB_U h1 m2 offK_A ?_
  rw [h2]
  simp [us, upA, upE]
theorem pB_Act_b (C : Cs D ca cc nL own cx X) {index : Nat} {x : Int32} (hd : decode cc pc = .ok (.putfield index, 3)) (hw : Cond.fieldLink own index "RobotBus$Action" "b" "I" ∈ gtb) {i : Nat} (hi : i < 6) {t : Nat} (ht : t < 6) (kk : Zs l D ca SB b 182 R nL X (us σ 38 i t x) (pc + 3) L st) : Zs l D ca SB b 182 R nL X σ pc L (.int x :: .ref (b + (16 + 22 * i + 3 * t)) :: st) :=
  z_put C hd (fun w h => List.mem_cons_of_mem _ (in_Act w h)) (T := F_Act) (N := 3) (ci := 3) (ty := .int) tk_Act n_Act rfl 2 (by decide) (List.mem_cons_of_mem _ hw) rfl (by decide +kernel) rfl rfl (by omega) rfl (eB_Act hi ht) (by simp) (z_map (uB_Act_b hi ht x) kk)
theorem sB_Top {i : Nat} (hi : i < 6) : ∃ c, SB[(142 + i)]? = some c ∧ (∀ (b : Nat) (ca : Nat → ClassId) (σ : Sg), rz b ca σ c = .inr (4, [.int (σ.1 40 i 0 0), .int (σ.1 41 i 0 0), .int (σ.1 42 i 0 0), .int (σ.1 43 i 0 0), .int (σ.1 44 i 0 0), .int (σ.1 45 i 0 0)])) ∧ ment (40, i, 0) c = true ∧ ment (41, i, 0) c = true ∧ ment (42, i, 0) c = true ∧ ment (43, i, 0) c = true ∧ ment (44, i, 0) c = true ∧ ment (45, i, 0) c = true := by
  have h9i : i = 0 ∨ i = 1 ∨ i = 2 ∨ i = 3 ∨ i = 4 ∨ i = 5 := by omega
  rcases h9i with rfl | rfl | rfl | rfl | rfl | rfl <;> exact ⟨_, rfl, fun _ _ _ => rfl, by decide, by decide, by decide, by decide, by decide, by decide⟩
theorem eB_Top {i : Nat} (hi : i < 6) : enc b ca SB σ (142 + i) = .inr (4, [.int (σ.1 40 i 0 0), .int (σ.1 41 i 0 0), .int (σ.1 42 i 0 0), .int (σ.1 43 i 0 0), .int (σ.1 44 i 0 0), .int (σ.1 45 i 0 0)]) := by
  obtain ⟨c, h1, h2, -⟩ := sB_Top hi
  rw [enc_at h1, h2]
theorem gB_Top_latched (C : Cs D ca cc nL own cx X) {index : Nat} (hd : decode cc pc = .ok (.getfield index, 3)) (hw : Cond.fieldLink own index "RobotBus$Topic" "latched" "Z" ∈ gtb) {i : Nat} (hi : i < 6) (kk : Zs l D ca SB b 182 R nL X σ (pc + 3) L (.int (σ.1 40 i 0 0) :: st)) : Zs l D ca SB b 182 R nL X σ pc L (.ref (b + (142 + i)) :: st) :=
  z_get C hd (fun w h => List.mem_cons_of_mem _ (in_Top w h)) (T := F_Top) (N := 6) (ci := 4) rfl 0 (by decide) (List.mem_cons_of_mem _ hw) (by omega) rfl (eB_Top hi) rfl kk
theorem uB_Top_latched {i : Nat} (hi : i < 6) (x : Int32) : va_up (enc b ca SB σ) (142 + i) (.inr (4, [.int x, .int (σ.1 41 i 0 0), .int (σ.1 42 i 0 0), .int (σ.1 43 i 0 0), .int (σ.1 44 i 0 0), .int (σ.1 45 i 0 0)])) = enc b ca SB (us σ 40 i 0 x) := by
  obtain ⟨c, h1, h2, m0, m1, m2, m3, m4, m5⟩ := sB_Top hi
  refine enc_up SB_U h1 m0 offK_A ?_
  rw [h2]
  simp [us, upA, upE]
theorem pB_Top_latched (C : Cs D ca cc nL own cx X) {index : Nat} {x : Int32} (hd : decode cc pc = .ok (.putfield index, 3)) (hw : Cond.fieldLink own index "RobotBus$Topic" "latched" "Z" ∈ gtb) {i : Nat} (hi : i < 6) (hx : x = 0 ∨ x = 1) (kk : Zs l D ca SB b 182 R nL X (us σ 40 i 0 x) (pc + 3) L st) : Zs l D ca SB b 182 R nL X σ pc L (.int x :: .ref (b + (142 + i)) :: st) :=
  z_put C hd (fun w h => List.mem_cons_of_mem _ (in_Top w h)) (T := F_Top) (N := 6) (ci := 4) (ty := .boolean) tk_Top n_Top rfl 0 (by decide) (List.mem_cons_of_mem _ hw) rfl (by decide +kernel) (by rcases hx with rfl | rfl <;> rfl) (by rcases hx with rfl | rfl <;> decide) (by omega) rfl (eB_Top hi) (by simp) (z_map (uB_Top_latched hi x) kk)
theorem gB_Top_recorded (C : Cs D ca cc nL own cx X) {index : Nat} (hd : decode cc pc = .ok (.getfield index, 3)) (hw : Cond.fieldLink own index "RobotBus$Topic" "recorded" "Z" ∈ gtb) {i : Nat} (hi : i < 6) (kk : Zs l D ca SB b 182 R nL X σ (pc + 3) L (.int (σ.1 41 i 0 0) :: st)) : Zs l D ca SB b 182 R nL X σ pc L (.ref (b + (142 + i)) :: st) :=
  z_get C hd (fun w h => List.mem_cons_of_mem _ (in_Top w h)) (T := F_Top) (N := 6) (ci := 4) rfl 1 (by decide) (List.mem_cons_of_mem _ hw) (by omega) rfl (eB_Top hi) rfl kk
theorem uB_Top_recorded {i : Nat} (hi : i < 6) (x : Int32) : va_up (enc b ca SB σ) (142 + i) (.inr (4, [.int (σ.1 40 i 0 0), .int x, .int (σ.1 42 i 0 0), .int (σ.1 43 i 0 0), .int (σ.1 44 i 0 0), .int (σ.1 45 i 0 0)])) = enc b ca SB (us σ 41 i 0 x) := by
  obtain ⟨c, h1, h2, m0, m1, m2, m3, m4, m5⟩ := sB_Top hi
  refine enc_up SB_U h1 m1 offK_A ?_
  rw [h2]
  simp [us, upA, upE]
theorem pB_Top_recorded (C : Cs D ca cc nL own cx X) {index : Nat} {x : Int32} (hd : decode cc pc = .ok (.putfield index, 3)) (hw : Cond.fieldLink own index "RobotBus$Topic" "recorded" "Z" ∈ gtb) {i : Nat} (hi : i < 6) (hx : x = 0 ∨ x = 1) (kk : Zs l D ca SB b 182 R nL X (us σ 41 i 0 x) (pc + 3) L st) : Zs l D ca SB b 182 R nL X σ pc L (.int x :: .ref (b + (142 + i)) :: st) :=
  z_put C hd (fun w h => List.mem_cons_of_mem _ (in_Top w h)) (T := F_Top) (N := 6) (ci := 4) (ty := .boolean) tk_Top n_Top rfl 1 (by decide) (List.mem_cons_of_mem _ hw) rfl (by decide +kernel) (by rcases hx with rfl | rfl <;> rfl) (by rcases hx with rfl | rfl <;> decide) (by omega) rfl (eB_Top hi) (by simp) (z_map (uB_Top_recorded hi x) kk)
theorem gB_Top_hasLast (C : Cs D ca cc nL own cx X) {index : Nat} (hd : decode cc pc = .ok (.getfield index, 3)) (hw : Cond.fieldLink own index "RobotBus$Topic" "hasLast" "Z" ∈ gtb) {i : Nat} (hi : i < 6) (kk : Zs l D ca SB b 182 R nL X σ (pc + 3) L (.int (σ.1 42 i 0 0) :: st)) : Zs l D ca SB b 182 R nL X σ pc L (.ref (b + (142 + i)) :: st) :=
  z_get C hd (fun w h => List.mem_cons_of_mem _ (in_Top w h)) (T := F_Top) (N := 6) (ci := 4) rfl 2 (by decide) (List.mem_cons_of_mem _ hw) (by omega) rfl (eB_Top hi) rfl kk
theorem uB_Top_hasLast {i : Nat} (hi : i < 6) (x : Int32) : va_up (enc b ca SB σ) (142 + i) (.inr (4, [.int (σ.1 40 i 0 0), .int (σ.1 41 i 0 0), .int x, .int (σ.1 43 i 0 0), .int (σ.1 44 i 0 0), .int (σ.1 45 i 0 0)])) = enc b ca SB (us σ 42 i 0 x) := by
  obtain ⟨c, h1, h2, m0, m1, m2, m3, m4, m5⟩ := sB_Top hi
  refine enc_up SB_U h1 m2 offK_A ?_
  rw [h2]
  simp [us, upA, upE]
theorem pB_Top_hasLast (C : Cs D ca cc nL own cx X) {index : Nat} {x : Int32} (hd : decode cc pc = .ok (.putfield index, 3)) (hw : Cond.fieldLink own index "RobotBus$Topic" "hasLast" "Z" ∈ gtb) {i : Nat} (hi : i < 6) (hx : x = 0 ∨ x = 1) (kk : Zs l D ca SB b 182 R nL X (us σ 42 i 0 x) (pc + 3) L st) : Zs l D ca SB b 182 R nL X σ pc L (.int x :: .ref (b + (142 + i)) :: st) :=
  z_put C hd (fun w h => List.mem_cons_of_mem _ (in_Top w h)) (T := F_Top) (N := 6) (ci := 4) (ty := .boolean) tk_Top n_Top rfl 2 (by decide) (List.mem_cons_of_mem _ hw) rfl (by decide +kernel) (by rcases hx with rfl | rfl <;> rfl) (by rcases hx with rfl | rfl <;> decide) (by omega) rfl (eB_Top hi) (by simp) (z_map (uB_Top_hasLast hi x) kk)
theorem gB_Top_lastValue (C : Cs D ca cc nL own cx X) {index : Nat} (hd : decode cc pc = .ok (.getfield index, 3)) (hw : Cond.fieldLink own index "RobotBus$Topic" "lastValue" "I" ∈ gtb) {i : Nat} (hi : i < 6) (kk : Zs l D ca SB b 182 R nL X σ (pc + 3) L (.int (σ.1 43 i 0 0) :: st)) : Zs l D ca SB b 182 R nL X σ pc L (.ref (b + (142 + i)) :: st) :=
  z_get C hd (fun w h => List.mem_cons_of_mem _ (in_Top w h)) (T := F_Top) (N := 6) (ci := 4) rfl 3 (by decide) (List.mem_cons_of_mem _ hw) (by omega) rfl (eB_Top hi) rfl kk
theorem uB_Top_lastValue {i : Nat} (hi : i < 6) (x : Int32) : va_up (enc b ca SB σ) (142 + i) (.inr (4, [.int (σ.1 40 i 0 0), .int (σ.1 41 i 0 0), .int (σ.1 42 i 0 0), .int x, .int (σ.1 44 i 0 0), .int (σ.1 45 i 0 0)])) = enc b ca SB (us σ 43 i 0 x) := by
  obtain ⟨c, h1, h2, m0, m1, m2, m3, m4, m5⟩ := sB_Top hi
  refine enc_up SB_U h1 m3 offK_A ?_
  rw [h2]
  simp [us, upA, upE]
theorem pB_Top_lastValue (C : Cs D ca cc nL own cx X) {index : Nat} {x : Int32} (hd : decode cc pc = .ok (.putfield index, 3)) (hw : Cond.fieldLink own index "RobotBus$Topic" "lastValue" "I" ∈ gtb) {i : Nat} (hi : i < 6) (kk : Zs l D ca SB b 182 R nL X (us σ 43 i 0 x) (pc + 3) L st) : Zs l D ca SB b 182 R nL X σ pc L (.int x :: .ref (b + (142 + i)) :: st) :=
  z_put C hd (fun w h => List.mem_cons_of_mem _ (in_Top w h)) (T := F_Top) (N := 6) (ci := 4) (ty := .int) tk_Top n_Top rfl 3 (by decide) (List.mem_cons_of_mem _ hw) rfl (by decide +kernel) rfl rfl (by omega) rfl (eB_Top hi) (by simp) (z_map (uB_Top_lastValue hi x) kk)
theorem gB_Top_lastSender (C : Cs D ca cc nL own cx X) {index : Nat} (hd : decode cc pc = .ok (.getfield index, 3)) (hw : Cond.fieldLink own index "RobotBus$Topic" "lastSender" "I" ∈ gtb) {i : Nat} (hi : i < 6) (kk : Zs l D ca SB b 182 R nL X σ (pc + 3) L (.int (σ.1 44 i 0 0) :: st)) : Zs l D ca SB b 182 R nL X σ pc L (.ref (b + (142 + i)) :: st) :=
  z_get C hd (fun w h => List.mem_cons_of_mem _ (in_Top w h)) (T := F_Top) (N := 6) (ci := 4) rfl 4 (by decide) (List.mem_cons_of_mem _ hw) (by omega) rfl (eB_Top hi) rfl kk
theorem uB_Top_lastSender {i : Nat} (hi : i < 6) (x : Int32) : va_up (enc b ca SB σ) (142 + i) (.inr (4, [.int (σ.1 40 i 0 0), .int (σ.1 41 i 0 0), .int (σ.1 42 i 0 0), .int (σ.1 43 i 0 0), .int x, .int (σ.1 45 i 0 0)])) = enc b ca SB (us σ 44 i 0 x) := by
  obtain ⟨c, h1, h2, m0, m1, m2, m3, m4, m5⟩ := sB_Top hi
  refine enc_up SB_U h1 m4 offK_A ?_
  rw [h2]
  simp [us, upA, upE]
theorem pB_Top_lastSender (C : Cs D ca cc nL own cx X) {index : Nat} {x : Int32} (hd : decode cc pc = .ok (.putfield index, 3)) (hw : Cond.fieldLink own index "RobotBus$Topic" "lastSender" "I" ∈ gtb) {i : Nat} (hi : i < 6) (kk : Zs l D ca SB b 182 R nL X (us σ 44 i 0 x) (pc + 3) L st) : Zs l D ca SB b 182 R nL X σ pc L (.int x :: .ref (b + (142 + i)) :: st) :=
  z_put C hd (fun w h => List.mem_cons_of_mem _ (in_Top w h)) (T := F_Top) (N := 6) (ci := 4) (ty := .int) tk_Top n_Top rfl 4 (by decide) (List.mem_cons_of_mem _ hw) rfl (by decide +kernel) rfl rfl (by omega) rfl (eB_Top hi) (by simp) (z_map (uB_Top_lastSender hi x) kk)
theorem gB_Top_lastStamp (C : Cs D ca cc nL own cx X) {index : Nat} (hd : decode cc pc = .ok (.getfield index, 3)) (hw : Cond.fieldLink own index "RobotBus$Topic" "lastStamp" "I" ∈ gtb) {i : Nat} (hi : i < 6) (kk : Zs l D ca SB b 182 R nL X σ (pc + 3) L (.int (σ.1 45 i 0 0) :: st)) : Zs l D ca SB b 182 R nL X σ pc L (.ref (b + (142 + i)) :: st) :=
  z_get C hd (fun w h => List.mem_cons_of_mem _ (in_Top w h)) (T := F_Top) (N := 6) (ci := 4) rfl 5 (by decide) (List.mem_cons_of_mem _ hw) (by omega) rfl (eB_Top hi) rfl kk
theorem uB_Top_lastStamp {i : Nat} (hi : i < 6) (x : Int32) : va_up (enc b ca SB σ) (142 + i) (.inr (4, [.int (σ.1 40 i 0 0), .int (σ.1 41 i 0 0), .int (σ.1 42 i 0 0), .int (σ.1 43 i 0 0), .int (σ.1 44 i 0 0), .int x])) = enc b ca SB (us σ 45 i 0 x) := by
  obtain ⟨c, h1, h2, m0, m1, m2, m3, m4, m5⟩ := sB_Top hi
  refine enc_up SB_U h1 m5 offK_A ?_
  rw [h2]
  simp [us, upA, upE]
theorem pB_Top_lastStamp (C : Cs D ca cc nL own cx X) {index : Nat} {x : Int32} (hd : decode cc pc = .ok (.putfield index, 3)) (hw : Cond.fieldLink own index "RobotBus$Topic" "lastStamp" "I" ∈ gtb) {i : Nat} (hi : i < 6) (kk : Zs l D ca SB b 182 R nL X (us σ 45 i 0 x) (pc + 3) L st) : Zs l D ca SB b 182 R nL X σ pc L (.int x :: .ref (b + (142 + i)) :: st) :=
  z_put C hd (fun w h => List.mem_cons_of_mem _ (in_Top w h)) (T := F_Top) (N := 6) (ci := 4) (ty := .int) tk_Top n_Top rfl 5 (by decide) (List.mem_cons_of_mem _ hw) rfl (by decide +kernel) rfl rfl (by omega) rfl (eB_Top hi) (by simp) (z_map (uB_Top_lastStamp hi x) kk)
theorem sB_Srv {i : Nat} (hi : i < 4) : ∃ c, SB[(148 + i)]? = some c ∧ (∀ (b : Nat) (ca : Nat → ClassId) (σ : Sg), rz b ca σ c = .inr (5, [.int (σ.1 50 i 0 0), .int (σ.1 51 i 0 0), .int (σ.1 52 i 0 0), .int (σ.1 53 i 0 0)])) ∧ ment (50, i, 0) c = true ∧ ment (51, i, 0) c = true ∧ ment (52, i, 0) c = true ∧ ment (53, i, 0) c = true := by
  have h9i : i = 0 ∨ i = 1 ∨ i = 2 ∨ i = 3 := by omega
  rcases h9i with rfl | rfl | rfl | rfl <;> exact ⟨_, rfl, fun _ _ _ => rfl, by decide, by decide, by decide, by decide⟩
theorem eB_Srv {i : Nat} (hi : i < 4) : enc b ca SB σ (148 + i) = .inr (5, [.int (σ.1 50 i 0 0), .int (σ.1 51 i 0 0), .int (σ.1 52 i 0 0), .int (σ.1 53 i 0 0)]) := by
  obtain ⟨c, h1, h2, -⟩ := sB_Srv hi
  rw [enc_at h1, h2]
theorem gB_Srv_node (C : Cs D ca cc nL own cx X) {index : Nat} (hd : decode cc pc = .ok (.getfield index, 3)) (hw : Cond.fieldLink own index "RobotBus$Service" "node" "I" ∈ gtb) {i : Nat} (hi : i < 4) (kk : Zs l D ca SB b 182 R nL X σ (pc + 3) L (.int (σ.1 50 i 0 0) :: st)) : Zs l D ca SB b 182 R nL X σ pc L (.ref (b + (148 + i)) :: st) :=
  z_get C hd (fun w h => List.mem_cons_of_mem _ (in_Srv w h)) (T := F_Srv) (N := 4) (ci := 5) rfl 0 (by decide) (List.mem_cons_of_mem _ hw) (by omega) rfl (eB_Srv hi) rfl kk
theorem uB_Srv_node {i : Nat} (hi : i < 4) (x : Int32) : va_up (enc b ca SB σ) (148 + i) (.inr (5, [.int x, .int (σ.1 51 i 0 0), .int (σ.1 52 i 0 0), .int (σ.1 53 i 0 0)])) = enc b ca SB (us σ 50 i 0 x) := by
  obtain ⟨c, h1, h2, m0, m1, m2, m3⟩ := sB_Srv hi
  refine enc_up SB_U h1 m0 offK_A ?_
  rw [h2]
  simp [us, upA, upE]
theorem pB_Srv_node (C : Cs D ca cc nL own cx X) {index : Nat} {x : Int32} (hd : decode cc pc = .ok (.putfield index, 3)) (hw : Cond.fieldLink own index "RobotBus$Service" "node" "I" ∈ gtb) {i : Nat} (hi : i < 4) (kk : Zs l D ca SB b 182 R nL X (us σ 50 i 0 x) (pc + 3) L st) : Zs l D ca SB b 182 R nL X σ pc L (.int x :: .ref (b + (148 + i)) :: st) :=
  z_put C hd (fun w h => List.mem_cons_of_mem _ (in_Srv w h)) (T := F_Srv) (N := 4) (ci := 5) (ty := .int) tk_Srv n_Srv rfl 0 (by decide) (List.mem_cons_of_mem _ hw) rfl (by decide +kernel) rfl rfl (by omega) rfl (eB_Srv hi) (by simp) (z_map (uB_Srv_node hi x) kk)
theorem gB_Srv_kind (C : Cs D ca cc nL own cx X) {index : Nat} (hd : decode cc pc = .ok (.getfield index, 3)) (hw : Cond.fieldLink own index "RobotBus$Service" "kind" "I" ∈ gtb) {i : Nat} (hi : i < 4) (kk : Zs l D ca SB b 182 R nL X σ (pc + 3) L (.int (σ.1 51 i 0 0) :: st)) : Zs l D ca SB b 182 R nL X σ pc L (.ref (b + (148 + i)) :: st) :=
  z_get C hd (fun w h => List.mem_cons_of_mem _ (in_Srv w h)) (T := F_Srv) (N := 4) (ci := 5) rfl 1 (by decide) (List.mem_cons_of_mem _ hw) (by omega) rfl (eB_Srv hi) rfl kk
theorem uB_Srv_kind {i : Nat} (hi : i < 4) (x : Int32) : va_up (enc b ca SB σ) (148 + i) (.inr (5, [.int (σ.1 50 i 0 0), .int x, .int (σ.1 52 i 0 0), .int (σ.1 53 i 0 0)])) = enc b ca SB (us σ 51 i 0 x) := by
  obtain ⟨c, h1, h2, m0, m1, m2, m3⟩ := sB_Srv hi
  refine enc_up SB_U h1 m1 offK_A ?_
  rw [h2]
  simp [us, upA, upE]
theorem pB_Srv_kind (C : Cs D ca cc nL own cx X) {index : Nat} {x : Int32} (hd : decode cc pc = .ok (.putfield index, 3)) (hw : Cond.fieldLink own index "RobotBus$Service" "kind" "I" ∈ gtb) {i : Nat} (hi : i < 4) (kk : Zs l D ca SB b 182 R nL X (us σ 51 i 0 x) (pc + 3) L st) : Zs l D ca SB b 182 R nL X σ pc L (.int x :: .ref (b + (148 + i)) :: st) :=
  z_put C hd (fun w h => List.mem_cons_of_mem _ (in_Srv w h)) (T := F_Srv) (N := 4) (ci := 5) (ty := .int) tk_Srv n_Srv rfl 1 (by decide) (List.mem_cons_of_mem _ hw) rfl (by decide +kernel) rfl rfl (by omega) rfl (eB_Srv hi) (by simp) (z_map (uB_Srv_kind hi x) kk)
theorem gB_Srv_c (C : Cs D ca cc nL own cx X) {index : Nat} (hd : decode cc pc = .ok (.getfield index, 3)) (hw : Cond.fieldLink own index "RobotBus$Service" "c" "I" ∈ gtb) {i : Nat} (hi : i < 4) (kk : Zs l D ca SB b 182 R nL X σ (pc + 3) L (.int (σ.1 52 i 0 0) :: st)) : Zs l D ca SB b 182 R nL X σ pc L (.ref (b + (148 + i)) :: st) :=
  z_get C hd (fun w h => List.mem_cons_of_mem _ (in_Srv w h)) (T := F_Srv) (N := 4) (ci := 5) rfl 2 (by decide) (List.mem_cons_of_mem _ hw) (by omega) rfl (eB_Srv hi) rfl kk
theorem uB_Srv_c {i : Nat} (hi : i < 4) (x : Int32) : va_up (enc b ca SB σ) (148 + i) (.inr (5, [.int (σ.1 50 i 0 0), .int (σ.1 51 i 0 0), .int x, .int (σ.1 53 i 0 0)])) = enc b ca SB (us σ 52 i 0 x) := by
  obtain ⟨c, h1, h2, m0, m1, m2, m3⟩ := sB_Srv hi
  refine enc_up SB_U h1 m2 offK_A ?_
  rw [h2]
  simp [us, upA, upE]
theorem pB_Srv_c (C : Cs D ca cc nL own cx X) {index : Nat} {x : Int32} (hd : decode cc pc = .ok (.putfield index, 3)) (hw : Cond.fieldLink own index "RobotBus$Service" "c" "I" ∈ gtb) {i : Nat} (hi : i < 4) (kk : Zs l D ca SB b 182 R nL X (us σ 52 i 0 x) (pc + 3) L st) : Zs l D ca SB b 182 R nL X σ pc L (.int x :: .ref (b + (148 + i)) :: st) :=
  z_put C hd (fun w h => List.mem_cons_of_mem _ (in_Srv w h)) (T := F_Srv) (N := 4) (ci := 5) (ty := .int) tk_Srv n_Srv rfl 2 (by decide) (List.mem_cons_of_mem _ hw) rfl (by decide +kernel) rfl rfl (by omega) rfl (eB_Srv hi) (by simp) (z_map (uB_Srv_c hi x) kk)
theorem gB_Srv_d (C : Cs D ca cc nL own cx X) {index : Nat} (hd : decode cc pc = .ok (.getfield index, 3)) (hw : Cond.fieldLink own index "RobotBus$Service" "d" "I" ∈ gtb) {i : Nat} (hi : i < 4) (kk : Zs l D ca SB b 182 R nL X σ (pc + 3) L (.int (σ.1 53 i 0 0) :: st)) : Zs l D ca SB b 182 R nL X σ pc L (.ref (b + (148 + i)) :: st) :=
  z_get C hd (fun w h => List.mem_cons_of_mem _ (in_Srv w h)) (T := F_Srv) (N := 4) (ci := 5) rfl 3 (by decide) (List.mem_cons_of_mem _ hw) (by omega) rfl (eB_Srv hi) rfl kk
theorem uB_Srv_d {i : Nat} (hi : i < 4) (x : Int32) : va_up (enc b ca SB σ) (148 + i) (.inr (5, [.int (σ.1 50 i 0 0), .int (σ.1 51 i 0 0), .int (σ.1 52 i 0 0), .int x])) = enc b ca SB (us σ 53 i 0 x) := by
  obtain ⟨c, h1, h2, m0, m1, m2, m3⟩ := sB_Srv hi
  refine enc_up SB_U h1 m3 offK_A ?_
  rw [h2]
  simp [us, upA, upE]
theorem pB_Srv_d (C : Cs D ca cc nL own cx X) {index : Nat} {x : Int32} (hd : decode cc pc = .ok (.putfield index, 3)) (hw : Cond.fieldLink own index "RobotBus$Service" "d" "I" ∈ gtb) {i : Nat} (hi : i < 4) (kk : Zs l D ca SB b 182 R nL X (us σ 53 i 0 x) (pc + 3) L st) : Zs l D ca SB b 182 R nL X σ pc L (.int x :: .ref (b + (148 + i)) :: st) :=
  z_put C hd (fun w h => List.mem_cons_of_mem _ (in_Srv w h)) (T := F_Srv) (N := 4) (ci := 5) (ty := .int) tk_Srv n_Srv rfl 3 (by decide) (List.mem_cons_of_mem _ hw) rfl (by decide +kernel) rfl rfl (by omega) rfl (eB_Srv hi) (by simp) (z_map (uB_Srv_d hi x) kk)
theorem sB_Frm {i : Nat} (hi : i < 6) : ∃ c, SB[(152 + 5 * i)]? = some c ∧ (∀ (b : Nat) (ca : Nat → ClassId) (σ : Sg), rz b ca σ c = .inr (6, [.ref (b + (153 + 5 * i)), .ref (b + (154 + 5 * i)), .ref (b + (155 + 5 * i)), .ref (b + (156 + 5 * i)), .int (σ.1 60 i 0 0), .int (σ.1 61 i 0 0)])) ∧ ment (60, i, 0) c = true ∧ ment (61, i, 0) c = true := by
  have h9i : i = 0 ∨ i = 1 ∨ i = 2 ∨ i = 3 ∨ i = 4 ∨ i = 5 := by omega
  rcases h9i with rfl | rfl | rfl | rfl | rfl | rfl <;> exact ⟨_, rfl, fun _ _ _ => rfl, by decide, by decide⟩
theorem eB_Frm {i : Nat} (hi : i < 6) : enc b ca SB σ (152 + 5 * i) = .inr (6, [.ref (b + (153 + 5 * i)), .ref (b + (154 + 5 * i)), .ref (b + (155 + 5 * i)), .ref (b + (156 + 5 * i)), .int (σ.1 60 i 0 0), .int (σ.1 61 i 0 0)]) := by
  obtain ⟨c, h1, h2, -⟩ := sB_Frm hi
  rw [enc_at h1, h2]
theorem gB_Frm_times (C : Cs D ca cc nL own cx X) {index : Nat} (hd : decode cc pc = .ok (.getfield index, 3)) (hw : Cond.fieldLink own index "RobotBus$Frame" "times" "[I" ∈ gtb) {i : Nat} (hi : i < 6) (kk : Zs l D ca SB b 182 R nL X σ (pc + 3) L (.ref (b + (153 + 5 * i)) :: st)) : Zs l D ca SB b 182 R nL X σ pc L (.ref (b + (152 + 5 * i)) :: st) :=
  z_get C hd (fun w h => List.mem_cons_of_mem _ (in_Frm w h)) (T := F_Frm) (N := 6) (ci := 6) rfl 0 (by decide) (List.mem_cons_of_mem _ hw) (by omega) rfl (eB_Frm hi) rfl kk
theorem gB_Frm_xs (C : Cs D ca cc nL own cx X) {index : Nat} (hd : decode cc pc = .ok (.getfield index, 3)) (hw : Cond.fieldLink own index "RobotBus$Frame" "xs" "[I" ∈ gtb) {i : Nat} (hi : i < 6) (kk : Zs l D ca SB b 182 R nL X σ (pc + 3) L (.ref (b + (154 + 5 * i)) :: st)) : Zs l D ca SB b 182 R nL X σ pc L (.ref (b + (152 + 5 * i)) :: st) :=
  z_get C hd (fun w h => List.mem_cons_of_mem _ (in_Frm w h)) (T := F_Frm) (N := 6) (ci := 6) rfl 1 (by decide) (List.mem_cons_of_mem _ hw) (by omega) rfl (eB_Frm hi) rfl kk
theorem gB_Frm_ys (C : Cs D ca cc nL own cx X) {index : Nat} (hd : decode cc pc = .ok (.getfield index, 3)) (hw : Cond.fieldLink own index "RobotBus$Frame" "ys" "[I" ∈ gtb) {i : Nat} (hi : i < 6) (kk : Zs l D ca SB b 182 R nL X σ (pc + 3) L (.ref (b + (155 + 5 * i)) :: st)) : Zs l D ca SB b 182 R nL X σ pc L (.ref (b + (152 + 5 * i)) :: st) :=
  z_get C hd (fun w h => List.mem_cons_of_mem _ (in_Frm w h)) (T := F_Frm) (N := 6) (ci := 6) rfl 2 (by decide) (List.mem_cons_of_mem _ hw) (by omega) rfl (eB_Frm hi) rfl kk
theorem gB_Frm_turns (C : Cs D ca cc nL own cx X) {index : Nat} (hd : decode cc pc = .ok (.getfield index, 3)) (hw : Cond.fieldLink own index "RobotBus$Frame" "turns" "[I" ∈ gtb) {i : Nat} (hi : i < 6) (kk : Zs l D ca SB b 182 R nL X σ (pc + 3) L (.ref (b + (156 + 5 * i)) :: st)) : Zs l D ca SB b 182 R nL X σ pc L (.ref (b + (152 + 5 * i)) :: st) :=
  z_get C hd (fun w h => List.mem_cons_of_mem _ (in_Frm w h)) (T := F_Frm) (N := 6) (ci := 6) rfl 3 (by decide) (List.mem_cons_of_mem _ hw) (by omega) rfl (eB_Frm hi) rfl kk
theorem gB_Frm_parent (C : Cs D ca cc nL own cx X) {index : Nat} (hd : decode cc pc = .ok (.getfield index, 3)) (hw : Cond.fieldLink own index "RobotBus$Frame" "parent" "I" ∈ gtb) {i : Nat} (hi : i < 6) (kk : Zs l D ca SB b 182 R nL X σ (pc + 3) L (.int (σ.1 60 i 0 0) :: st)) : Zs l D ca SB b 182 R nL X σ pc L (.ref (b + (152 + 5 * i)) :: st) :=
  z_get C hd (fun w h => List.mem_cons_of_mem _ (in_Frm w h)) (T := F_Frm) (N := 6) (ci := 6) rfl 4 (by decide) (List.mem_cons_of_mem _ hw) (by omega) rfl (eB_Frm hi) rfl kk
theorem uB_Frm_parent {i : Nat} (hi : i < 6) (x : Int32) : va_up (enc b ca SB σ) (152 + 5 * i) (.inr (6, [.ref (b + (153 + 5 * i)), .ref (b + (154 + 5 * i)), .ref (b + (155 + 5 * i)), .ref (b + (156 + 5 * i)), .int x, .int (σ.1 61 i 0 0)])) = enc b ca SB (us σ 60 i 0 x) := by
  obtain ⟨c, h1, h2, m4, m5⟩ := sB_Frm hi
  refine enc_up SB_U h1 m4 offK_A ?_
  rw [h2]
  simp [us, upA, upE]
theorem pB_Frm_parent (C : Cs D ca cc nL own cx X) {index : Nat} {x : Int32} (hd : decode cc pc = .ok (.putfield index, 3)) (hw : Cond.fieldLink own index "RobotBus$Frame" "parent" "I" ∈ gtb) {i : Nat} (hi : i < 6) (kk : Zs l D ca SB b 182 R nL X (us σ 60 i 0 x) (pc + 3) L st) : Zs l D ca SB b 182 R nL X σ pc L (.int x :: .ref (b + (152 + 5 * i)) :: st) :=
  z_put C hd (fun w h => List.mem_cons_of_mem _ (in_Frm w h)) (T := F_Frm) (N := 6) (ci := 6) (ty := .int) tk_Frm n_Frm rfl 4 (by decide) (List.mem_cons_of_mem _ hw) rfl (by decide +kernel) rfl rfl (by omega) rfl (eB_Frm hi) (by simp) (z_map (uB_Frm_parent hi x) kk)
theorem gB_Frm_size (C : Cs D ca cc nL own cx X) {index : Nat} (hd : decode cc pc = .ok (.getfield index, 3)) (hw : Cond.fieldLink own index "RobotBus$Frame" "size" "I" ∈ gtb) {i : Nat} (hi : i < 6) (kk : Zs l D ca SB b 182 R nL X σ (pc + 3) L (.int (σ.1 61 i 0 0) :: st)) : Zs l D ca SB b 182 R nL X σ pc L (.ref (b + (152 + 5 * i)) :: st) :=
  z_get C hd (fun w h => List.mem_cons_of_mem _ (in_Frm w h)) (T := F_Frm) (N := 6) (ci := 6) rfl 5 (by decide) (List.mem_cons_of_mem _ hw) (by omega) rfl (eB_Frm hi) rfl kk
theorem uB_Frm_size {i : Nat} (hi : i < 6) (x : Int32) : va_up (enc b ca SB σ) (152 + 5 * i) (.inr (6, [.ref (b + (153 + 5 * i)), .ref (b + (154 + 5 * i)), .ref (b + (155 + 5 * i)), .ref (b + (156 + 5 * i)), .int (σ.1 60 i 0 0), .int x])) = enc b ca SB (us σ 61 i 0 x) := by
  obtain ⟨c, h1, h2, m4, m5⟩ := sB_Frm hi
  refine enc_up SB_U h1 m5 offK_A ?_
  rw [h2]
  simp [us, upA, upE]
theorem pB_Frm_size (C : Cs D ca cc nL own cx X) {index : Nat} {x : Int32} (hd : decode cc pc = .ok (.putfield index, 3)) (hw : Cond.fieldLink own index "RobotBus$Frame" "size" "I" ∈ gtb) {i : Nat} (hi : i < 6) (kk : Zs l D ca SB b 182 R nL X (us σ 61 i 0 x) (pc + 3) L st) : Zs l D ca SB b 182 R nL X σ pc L (.int x :: .ref (b + (152 + 5 * i)) :: st) :=
  z_put C hd (fun w h => List.mem_cons_of_mem _ (in_Frm w h)) (T := F_Frm) (N := 6) (ci := 6) (ty := .int) tk_Frm n_Frm rfl 5 (by decide) (List.mem_cons_of_mem _ hw) rfl (by decide +kernel) rfl rfl (by omega) rfl (eB_Frm hi) (by simp) (z_map (uB_Frm_size hi x) kk)
theorem sB_bagT  : ∃ c, SB[6]? = some c ∧ (∀ (b : Nat) (ca : Nat → ClassId) (σ : Sg), rz b ca σ c = .inl (ca 0, 30, .inl (σ.1 15 0 0))) ∧ ment (15, 0, 0) c = true := by
  exact ⟨_, rfl, fun _ _ _ => rfl, by decide⟩
theorem eB_bagT  : enc b ca SB σ 6 = .inl (ca 0, 30, .inl (σ.1 15 0 0)) := by
  obtain ⟨c, h1, h2, -⟩ := sB_bagT 
  rw [enc_at h1, h2]
theorem uB_bagT  (g : Nat → Int32) : va_up (enc b ca SB σ) 6 (.inl (ca 0, 30, .inl g)) = enc b ca SB (upA σ (15, 0, 0) g) := by
  obtain ⟨c, h1, h2, m1⟩ := sB_bagT 
  refine enc_up SB_U h1 m1 offK_A ?_
  rw [h2, upA_self]
theorem lB_bagT (C : Cs D ca cc nL own cx X) {x : Int32} {q : Nat} (hd : decode cc pc = .ok (.iaload, 1))  (hx : x = nI q) (hq : q < 30) (kk : Zs l D ca SB b 182 R nL X σ (pc + 1) L (.int (σ.1 15 0 0 q) :: st)) : Zs l D ca SB b 182 R nL X σ pc L (.int x :: .ref (b + 6) :: st) := by
  subst hx
  refine z_iald C hd 0 rfl (by omega) rfl (eB_bagT ) (vp_in_nI hq (by decide)) ?_
  rw [nI_clamp (by omega)]
  exact kk
theorem stB_bagT (C : Cs D ca cc nL own cx X) {x v : Int32} {q : Nat} (hd : decode cc pc = .ok (.iastore, 1))  (hx : x = nI q) (hq : q < 30) (kk : Zs l D ca SB b 182 R nL X (upA σ (15, 0, 0) (upd (σ.1 15 0 0) q v)) (pc + 1) L st) : Zs l D ca SB b 182 R nL X σ pc L (.int v :: .int x :: .ref (b + 6) :: st) := by
  subst hx
  refine z_iast C hd 0 rfl (by omega) rfl (eB_bagT ) (vp_in_nI hq (by decide)) ?_
  rw [nI_clamp (by omega)]
  exact z_map (uB_bagT  _) kk
theorem sB_bagO  : ∃ c, SB[7]? = some c ∧ (∀ (b : Nat) (ca : Nat → ClassId) (σ : Sg), rz b ca σ c = .inl (ca 0, 30, .inl (σ.1 16 0 0))) ∧ ment (16, 0, 0) c = true := by
  exact ⟨_, rfl, fun _ _ _ => rfl, by decide⟩
theorem eB_bagO  : enc b ca SB σ 7 = .inl (ca 0, 30, .inl (σ.1 16 0 0)) := by
  obtain ⟨c, h1, h2, -⟩ := sB_bagO 
  rw [enc_at h1, h2]
theorem uB_bagO  (g : Nat → Int32) : va_up (enc b ca SB σ) 7 (.inl (ca 0, 30, .inl g)) = enc b ca SB (upA σ (16, 0, 0) g) := by
  obtain ⟨c, h1, h2, m1⟩ := sB_bagO 
  refine enc_up SB_U h1 m1 offK_A ?_
  rw [h2, upA_self]
theorem lB_bagO (C : Cs D ca cc nL own cx X) {x : Int32} {q : Nat} (hd : decode cc pc = .ok (.iaload, 1))  (hx : x = nI q) (hq : q < 30) (kk : Zs l D ca SB b 182 R nL X σ (pc + 1) L (.int (σ.1 16 0 0 q) :: st)) : Zs l D ca SB b 182 R nL X σ pc L (.int x :: .ref (b + 7) :: st) := by
  subst hx
  refine z_iald C hd 0 rfl (by omega) rfl (eB_bagO ) (vp_in_nI hq (by decide)) ?_
  rw [nI_clamp (by omega)]
  exact kk
theorem stB_bagO (C : Cs D ca cc nL own cx X) {x v : Int32} {q : Nat} (hd : decode cc pc = .ok (.iastore, 1))  (hx : x = nI q) (hq : q < 30) (kk : Zs l D ca SB b 182 R nL X (upA σ (16, 0, 0) (upd (σ.1 16 0 0) q v)) (pc + 1) L st) : Zs l D ca SB b 182 R nL X σ pc L (.int v :: .int x :: .ref (b + 7) :: st) := by
  subst hx
  refine z_iast C hd 0 rfl (by omega) rfl (eB_bagO ) (vp_in_nI hq (by decide)) ?_
  rw [nI_clamp (by omega)]
  exact z_map (uB_bagO  _) kk
theorem sB_bagV  : ∃ c, SB[8]? = some c ∧ (∀ (b : Nat) (ca : Nat → ClassId) (σ : Sg), rz b ca σ c = .inl (ca 0, 30, .inl (σ.1 17 0 0))) ∧ ment (17, 0, 0) c = true := by
  exact ⟨_, rfl, fun _ _ _ => rfl, by decide⟩
theorem eB_bagV  : enc b ca SB σ 8 = .inl (ca 0, 30, .inl (σ.1 17 0 0)) := by
  obtain ⟨c, h1, h2, -⟩ := sB_bagV 
  rw [enc_at h1, h2]
theorem uB_bagV  (g : Nat → Int32) : va_up (enc b ca SB σ) 8 (.inl (ca 0, 30, .inl g)) = enc b ca SB (upA σ (17, 0, 0) g) := by
  obtain ⟨c, h1, h2, m1⟩ := sB_bagV 
  refine enc_up SB_U h1 m1 offK_A ?_
  rw [h2, upA_self]
theorem lB_bagV (C : Cs D ca cc nL own cx X) {x : Int32} {q : Nat} (hd : decode cc pc = .ok (.iaload, 1))  (hx : x = nI q) (hq : q < 30) (kk : Zs l D ca SB b 182 R nL X σ (pc + 1) L (.int (σ.1 17 0 0 q) :: st)) : Zs l D ca SB b 182 R nL X σ pc L (.int x :: .ref (b + 8) :: st) := by
  subst hx
  refine z_iald C hd 0 rfl (by omega) rfl (eB_bagV ) (vp_in_nI hq (by decide)) ?_
  rw [nI_clamp (by omega)]
  exact kk
theorem stB_bagV (C : Cs D ca cc nL own cx X) {x v : Int32} {q : Nat} (hd : decode cc pc = .ok (.iastore, 1))  (hx : x = nI q) (hq : q < 30) (kk : Zs l D ca SB b 182 R nL X (upA σ (17, 0, 0) (upd (σ.1 17 0 0) q v)) (pc + 1) L st) : Zs l D ca SB b 182 R nL X σ pc L (.int v :: .int x :: .ref (b + 8) :: st) := by
  subst hx
  refine z_iast C hd 0 rfl (by omega) rfl (eB_bagV ) (vp_in_nI hq (by decide)) ?_
  rw [nI_clamp (by omega)]
  exact z_map (uB_bagV  _) kk
theorem sB_vars {i : Nat} (hi : i < 6) : ∃ c, SB[(11 + 22 * i)]? = some c ∧ (∀ (b : Nat) (ca : Nat → ClassId) (σ : Sg), rz b ca σ c = .inl (ca 0, 4, .inl (σ.1 32 i 0))) ∧ ment (32, i, 0) c = true := by
  have h9i : i = 0 ∨ i = 1 ∨ i = 2 ∨ i = 3 ∨ i = 4 ∨ i = 5 := by omega
  rcases h9i with rfl | rfl | rfl | rfl | rfl | rfl <;> exact ⟨_, rfl, fun _ _ _ => rfl, by decide⟩
theorem eB_vars {i : Nat} (hi : i < 6) : enc b ca SB σ (11 + 22 * i) = .inl (ca 0, 4, .inl (σ.1 32 i 0)) := by
  obtain ⟨c, h1, h2, -⟩ := sB_vars hi
  rw [enc_at h1, h2]
theorem uB_vars {i : Nat} (hi : i < 6) (g : Nat → Int32) : va_up (enc b ca SB σ) (11 + 22 * i) (.inl (ca 0, 4, .inl g)) = enc b ca SB (upA σ (32, i, 0) g) := by
  obtain ⟨c, h1, h2, m1⟩ := sB_vars hi
  refine enc_up SB_U h1 m1 offK_A ?_
  rw [h2, upA_self]
theorem lB_vars (C : Cs D ca cc nL own cx X) {x : Int32} {q : Nat} (hd : decode cc pc = .ok (.iaload, 1)) {i : Nat} (hi : i < 6) (hx : x = nI q) (hq : q < 4) (kk : Zs l D ca SB b 182 R nL X σ (pc + 1) L (.int (σ.1 32 i 0 q) :: st)) : Zs l D ca SB b 182 R nL X σ pc L (.int x :: .ref (b + (11 + 22 * i)) :: st) := by
  subst hx
  refine z_iald C hd 0 rfl (by omega) rfl (eB_vars hi) (vp_in_nI hq (by decide)) ?_
  rw [nI_clamp (by omega)]
  exact kk
theorem stB_vars (C : Cs D ca cc nL own cx X) {x v : Int32} {q : Nat} (hd : decode cc pc = .ok (.iastore, 1)) {i : Nat} (hi : i < 6) (hx : x = nI q) (hq : q < 4) (kk : Zs l D ca SB b 182 R nL X (upA σ (32, i, 0) (upd (σ.1 32 i 0) q v)) (pc + 1) L st) : Zs l D ca SB b 182 R nL X σ pc L (.int v :: .int x :: .ref (b + (11 + 22 * i)) :: st) := by
  subst hx
  refine z_iast C hd 0 rfl (by omega) rfl (eB_vars hi) (vp_in_nI hq (by decide)) ?_
  rw [nI_clamp (by omega)]
  exact z_map (uB_vars hi _) kk
theorem sB_cell {i : Nat} (hi : i < 6) {t : Nat} (ht : t < 6) : ∃ c, SB[(15 + 22 * i + 3 * t)]? = some c ∧ (∀ (b : Nat) (ca : Nat → ClassId) (σ : Sg), rz b ca σ c = .inl (ca 0, 12, .inl (σ.1 35 i t))) ∧ ment (35, i, t) c = true := by
  have h9i : i = 0 ∨ i = 1 ∨ i = 2 ∨ i = 3 ∨ i = 4 ∨ i = 5 := by omega
  have h9t : t = 0 ∨ t = 1 ∨ t = 2 ∨ t = 3 ∨ t = 4 ∨ t = 5 := by omega
  rcases h9i with rfl | rfl | rfl | rfl | rfl | rfl <;> rcases h9t with rfl | rfl | rfl | rfl | rfl | rfl <;> exact ⟨_, rfl, fun _ _ _ => rfl, by decide⟩
theorem eB_cell {i : Nat} (hi : i < 6) {t : Nat} (ht : t < 6) : enc b ca SB σ (15 + 22 * i + 3 * t) = .inl (ca 0, 12, .inl (σ.1 35 i t)) := by
  obtain ⟨c, h1, h2, -⟩ := sB_cell hi ht
  rw [enc_at h1, h2]
theorem uB_cell {i : Nat} (hi : i < 6) {t : Nat} (ht : t < 6) (g : Nat → Int32) : va_up (enc b ca SB σ) (15 + 22 * i + 3 * t) (.inl (ca 0, 12, .inl g)) = enc b ca SB (upA σ (35, i, t) g) := by
  obtain ⟨c, h1, h2, m1⟩ := sB_cell hi ht
  refine enc_up SB_U h1 m1 offK_A ?_
  rw [h2, upA_self]
theorem lB_cell (C : Cs D ca cc nL own cx X) {x : Int32} {q : Nat} (hd : decode cc pc = .ok (.iaload, 1)) {i : Nat} (hi : i < 6) {t : Nat} (ht : t < 6) (hx : x = nI q) (hq : q < 12) (kk : Zs l D ca SB b 182 R nL X σ (pc + 1) L (.int (σ.1 35 i t q) :: st)) : Zs l D ca SB b 182 R nL X σ pc L (.int x :: .ref (b + (15 + 22 * i + 3 * t)) :: st) := by
  subst hx
  refine z_iald C hd 0 rfl (by omega) rfl (eB_cell hi ht) (vp_in_nI hq (by decide)) ?_
  rw [nI_clamp (by omega)]
  exact kk
theorem stB_cell (C : Cs D ca cc nL own cx X) {x v : Int32} {q : Nat} (hd : decode cc pc = .ok (.iastore, 1)) {i : Nat} (hi : i < 6) {t : Nat} (ht : t < 6) (hx : x = nI q) (hq : q < 12) (kk : Zs l D ca SB b 182 R nL X (upA σ (35, i, t) (upd (σ.1 35 i t) q v)) (pc + 1) L st) : Zs l D ca SB b 182 R nL X σ pc L (.int v :: .int x :: .ref (b + (15 + 22 * i + 3 * t)) :: st) := by
  subst hx
  refine z_iast C hd 0 rfl (by omega) rfl (eB_cell hi ht) (vp_in_nI hq (by decide)) ?_
  rw [nI_clamp (by omega)]
  exact z_map (uB_cell hi ht _) kk
theorem sB_frT {i : Nat} (hi : i < 6) : ∃ c, SB[(153 + 5 * i)]? = some c ∧ (∀ (b : Nat) (ca : Nat → ClassId) (σ : Sg), rz b ca σ c = .inl (ca 0, 4, .inl (σ.1 62 i 0))) ∧ ment (62, i, 0) c = true := by
  have h9i : i = 0 ∨ i = 1 ∨ i = 2 ∨ i = 3 ∨ i = 4 ∨ i = 5 := by omega
  rcases h9i with rfl | rfl | rfl | rfl | rfl | rfl <;> exact ⟨_, rfl, fun _ _ _ => rfl, by decide⟩
theorem eB_frT {i : Nat} (hi : i < 6) : enc b ca SB σ (153 + 5 * i) = .inl (ca 0, 4, .inl (σ.1 62 i 0)) := by
  obtain ⟨c, h1, h2, -⟩ := sB_frT hi
  rw [enc_at h1, h2]
theorem uB_frT {i : Nat} (hi : i < 6) (g : Nat → Int32) : va_up (enc b ca SB σ) (153 + 5 * i) (.inl (ca 0, 4, .inl g)) = enc b ca SB (upA σ (62, i, 0) g) := by
  obtain ⟨c, h1, h2, m1⟩ := sB_frT hi
  refine enc_up SB_U h1 m1 offK_A ?_
  rw [h2, upA_self]
theorem lB_frT (C : Cs D ca cc nL own cx X) {x : Int32} {q : Nat} (hd : decode cc pc = .ok (.iaload, 1)) {i : Nat} (hi : i < 6) (hx : x = nI q) (hq : q < 4) (kk : Zs l D ca SB b 182 R nL X σ (pc + 1) L (.int (σ.1 62 i 0 q) :: st)) : Zs l D ca SB b 182 R nL X σ pc L (.int x :: .ref (b + (153 + 5 * i)) :: st) := by
  subst hx
  refine z_iald C hd 0 rfl (by omega) rfl (eB_frT hi) (vp_in_nI hq (by decide)) ?_
  rw [nI_clamp (by omega)]
  exact kk
theorem stB_frT (C : Cs D ca cc nL own cx X) {x v : Int32} {q : Nat} (hd : decode cc pc = .ok (.iastore, 1)) {i : Nat} (hi : i < 6) (hx : x = nI q) (hq : q < 4) (kk : Zs l D ca SB b 182 R nL X (upA σ (62, i, 0) (upd (σ.1 62 i 0) q v)) (pc + 1) L st) : Zs l D ca SB b 182 R nL X σ pc L (.int v :: .int x :: .ref (b + (153 + 5 * i)) :: st) := by
  subst hx
  refine z_iast C hd 0 rfl (by omega) rfl (eB_frT hi) (vp_in_nI hq (by decide)) ?_
  rw [nI_clamp (by omega)]
  exact z_map (uB_frT hi _) kk
theorem sB_frX {i : Nat} (hi : i < 6) : ∃ c, SB[(154 + 5 * i)]? = some c ∧ (∀ (b : Nat) (ca : Nat → ClassId) (σ : Sg), rz b ca σ c = .inl (ca 0, 4, .inl (σ.1 63 i 0))) ∧ ment (63, i, 0) c = true := by
  have h9i : i = 0 ∨ i = 1 ∨ i = 2 ∨ i = 3 ∨ i = 4 ∨ i = 5 := by omega
  rcases h9i with rfl | rfl | rfl | rfl | rfl | rfl <;> exact ⟨_, rfl, fun _ _ _ => rfl, by decide⟩
theorem eB_frX {i : Nat} (hi : i < 6) : enc b ca SB σ (154 + 5 * i) = .inl (ca 0, 4, .inl (σ.1 63 i 0)) := by
  obtain ⟨c, h1, h2, -⟩ := sB_frX hi
  rw [enc_at h1, h2]
theorem uB_frX {i : Nat} (hi : i < 6) (g : Nat → Int32) : va_up (enc b ca SB σ) (154 + 5 * i) (.inl (ca 0, 4, .inl g)) = enc b ca SB (upA σ (63, i, 0) g) := by
  obtain ⟨c, h1, h2, m1⟩ := sB_frX hi
  refine enc_up SB_U h1 m1 offK_A ?_
  rw [h2, upA_self]
theorem lB_frX (C : Cs D ca cc nL own cx X) {x : Int32} {q : Nat} (hd : decode cc pc = .ok (.iaload, 1)) {i : Nat} (hi : i < 6) (hx : x = nI q) (hq : q < 4) (kk : Zs l D ca SB b 182 R nL X σ (pc + 1) L (.int (σ.1 63 i 0 q) :: st)) : Zs l D ca SB b 182 R nL X σ pc L (.int x :: .ref (b + (154 + 5 * i)) :: st) := by
  subst hx
  refine z_iald C hd 0 rfl (by omega) rfl (eB_frX hi) (vp_in_nI hq (by decide)) ?_
  rw [nI_clamp (by omega)]
  exact kk
theorem stB_frX (C : Cs D ca cc nL own cx X) {x v : Int32} {q : Nat} (hd : decode cc pc = .ok (.iastore, 1)) {i : Nat} (hi : i < 6) (hx : x = nI q) (hq : q < 4) (kk : Zs l D ca SB b 182 R nL X (upA σ (63, i, 0) (upd (σ.1 63 i 0) q v)) (pc + 1) L st) : Zs l D ca SB b 182 R nL X σ pc L (.int v :: .int x :: .ref (b + (154 + 5 * i)) :: st) := by
  subst hx
  refine z_iast C hd 0 rfl (by omega) rfl (eB_frX hi) (vp_in_nI hq (by decide)) ?_
  rw [nI_clamp (by omega)]
  exact z_map (uB_frX hi _) kk
theorem sB_frY {i : Nat} (hi : i < 6) : ∃ c, SB[(155 + 5 * i)]? = some c ∧ (∀ (b : Nat) (ca : Nat → ClassId) (σ : Sg), rz b ca σ c = .inl (ca 0, 4, .inl (σ.1 64 i 0))) ∧ ment (64, i, 0) c = true := by
  have h9i : i = 0 ∨ i = 1 ∨ i = 2 ∨ i = 3 ∨ i = 4 ∨ i = 5 := by omega
  rcases h9i with rfl | rfl | rfl | rfl | rfl | rfl <;> exact ⟨_, rfl, fun _ _ _ => rfl, by decide⟩
theorem eB_frY {i : Nat} (hi : i < 6) : enc b ca SB σ (155 + 5 * i) = .inl (ca 0, 4, .inl (σ.1 64 i 0)) := by
  obtain ⟨c, h1, h2, -⟩ := sB_frY hi
  rw [enc_at h1, h2]
theorem uB_frY {i : Nat} (hi : i < 6) (g : Nat → Int32) : va_up (enc b ca SB σ) (155 + 5 * i) (.inl (ca 0, 4, .inl g)) = enc b ca SB (upA σ (64, i, 0) g) := by
  obtain ⟨c, h1, h2, m1⟩ := sB_frY hi
  refine enc_up SB_U h1 m1 offK_A ?_
  rw [h2, upA_self]
theorem lB_frY (C : Cs D ca cc nL own cx X) {x : Int32} {q : Nat} (hd : decode cc pc = .ok (.iaload, 1)) {i : Nat} (hi : i < 6) (hx : x = nI q) (hq : q < 4) (kk : Zs l D ca SB b 182 R nL X σ (pc + 1) L (.int (σ.1 64 i 0 q) :: st)) : Zs l D ca SB b 182 R nL X σ pc L (.int x :: .ref (b + (155 + 5 * i)) :: st) := by
  subst hx
  refine z_iald C hd 0 rfl (by omega) rfl (eB_frY hi) (vp_in_nI hq (by decide)) ?_
  rw [nI_clamp (by omega)]
  exact kk
theorem stB_frY (C : Cs D ca cc nL own cx X) {x v : Int32} {q : Nat} (hd : decode cc pc = .ok (.iastore, 1)) {i : Nat} (hi : i < 6) (hx : x = nI q) (hq : q < 4) (kk : Zs l D ca SB b 182 R nL X (upA σ (64, i, 0) (upd (σ.1 64 i 0) q v)) (pc + 1) L st) : Zs l D ca SB b 182 R nL X σ pc L (.int v :: .int x :: .ref (b + (155 + 5 * i)) :: st) := by
  subst hx
  refine z_iast C hd 0 rfl (by omega) rfl (eB_frY hi) (vp_in_nI hq (by decide)) ?_
  rw [nI_clamp (by omega)]
  exact z_map (uB_frY hi _) kk
theorem sB_frU {i : Nat} (hi : i < 6) : ∃ c, SB[(156 + 5 * i)]? = some c ∧ (∀ (b : Nat) (ca : Nat → ClassId) (σ : Sg), rz b ca σ c = .inl (ca 0, 4, .inl (σ.1 65 i 0))) ∧ ment (65, i, 0) c = true := by
  have h9i : i = 0 ∨ i = 1 ∨ i = 2 ∨ i = 3 ∨ i = 4 ∨ i = 5 := by omega
  rcases h9i with rfl | rfl | rfl | rfl | rfl | rfl <;> exact ⟨_, rfl, fun _ _ _ => rfl, by decide⟩
theorem eB_frU {i : Nat} (hi : i < 6) : enc b ca SB σ (156 + 5 * i) = .inl (ca 0, 4, .inl (σ.1 65 i 0)) := by
  obtain ⟨c, h1, h2, -⟩ := sB_frU hi
  rw [enc_at h1, h2]
theorem uB_frU {i : Nat} (hi : i < 6) (g : Nat → Int32) : va_up (enc b ca SB σ) (156 + 5 * i) (.inl (ca 0, 4, .inl g)) = enc b ca SB (upA σ (65, i, 0) g) := by
  obtain ⟨c, h1, h2, m1⟩ := sB_frU hi
  refine enc_up SB_U h1 m1 offK_A ?_
  rw [h2, upA_self]
theorem lB_frU (C : Cs D ca cc nL own cx X) {x : Int32} {q : Nat} (hd : decode cc pc = .ok (.iaload, 1)) {i : Nat} (hi : i < 6) (hx : x = nI q) (hq : q < 4) (kk : Zs l D ca SB b 182 R nL X σ (pc + 1) L (.int (σ.1 65 i 0 q) :: st)) : Zs l D ca SB b 182 R nL X σ pc L (.int x :: .ref (b + (156 + 5 * i)) :: st) := by
  subst hx
  refine z_iald C hd 0 rfl (by omega) rfl (eB_frU hi) (vp_in_nI hq (by decide)) ?_
  rw [nI_clamp (by omega)]
  exact kk
theorem stB_frU (C : Cs D ca cc nL own cx X) {x v : Int32} {q : Nat} (hd : decode cc pc = .ok (.iastore, 1)) {i : Nat} (hi : i < 6) (hx : x = nI q) (hq : q < 4) (kk : Zs l D ca SB b 182 R nL X (upA σ (65, i, 0) (upd (σ.1 65 i 0) q v)) (pc + 1) L st) : Zs l D ca SB b 182 R nL X σ pc L (.int v :: .int x :: .ref (b + (156 + 5 * i)) :: st) := by
  subst hx
  refine z_iast C hd 0 rfl (by omega) rfl (eB_frU hi) (vp_in_nI hq (by decide)) ?_
  rw [nI_clamp (by omega)]
  exact z_map (uB_frU hi _) kk
theorem sB_nods  : ∃ f : Nat → Option Nat, enc b ca SB σ 1 = .inl (ca 1, 6, .inr (.inr (.inr (.inr f)))) ∧ ∀ j, j < 6 → f j = some (b + (10 + 22 * j)) := by
  exact ⟨_, rfl, fun j hj => by (have h9j : j = 0 ∨ j = 1 ∨ j = 2 ∨ j = 3 ∨ j = 4 ∨ j = 5 := by omega); rcases h9j with rfl | rfl | rfl | rfl | rfl | rfl <;> rfl⟩
theorem rB_nods (C : Cs D ca cc nL own cx X) {x : Int32} {j : Nat} (hd : decode cc pc = .ok (.aaload, 1))  (hx : x = nI j) (hj : j < 6) (kk : Zs l D ca SB b 182 R nL X σ (pc + 1) L (.ref (b + (10 + 22 * j)) :: st)) : Zs l D ca SB b 182 R nL X σ pc L (.int x :: .ref (b + 1) :: st) := by
  subst hx
  obtain ⟨f, h1, h2⟩ := sB_nods (b := b) (ca := ca) (σ := σ) 
  exact z_aald C hd 1 rfl (by omega) rfl h1 (vp_in_nI hj (by decide)) (by rw [nI_clamp (by omega)]; exact h2 j hj) kk
theorem sB_tops  : ∃ f : Nat → Option Nat, enc b ca SB σ 2 = .inl (ca 2, 6, .inr (.inr (.inr (.inr f)))) ∧ ∀ j, j < 6 → f j = some (b + (142 + j)) := by
  exact ⟨_, rfl, fun j hj => by (have h9j : j = 0 ∨ j = 1 ∨ j = 2 ∨ j = 3 ∨ j = 4 ∨ j = 5 := by omega); rcases h9j with rfl | rfl | rfl | rfl | rfl | rfl <;> rfl⟩
theorem rB_tops (C : Cs D ca cc nL own cx X) {x : Int32} {j : Nat} (hd : decode cc pc = .ok (.aaload, 1))  (hx : x = nI j) (hj : j < 6) (kk : Zs l D ca SB b 182 R nL X σ (pc + 1) L (.ref (b + (142 + j)) :: st)) : Zs l D ca SB b 182 R nL X σ pc L (.int x :: .ref (b + 2) :: st) := by
  subst hx
  obtain ⟨f, h1, h2⟩ := sB_tops (b := b) (ca := ca) (σ := σ) 
  exact z_aald C hd 2 rfl (by omega) rfl h1 (vp_in_nI hj (by decide)) (by rw [nI_clamp (by omega)]; exact h2 j hj) kk
theorem sB_srvs  : ∃ f : Nat → Option Nat, enc b ca SB σ 3 = .inl (ca 3, 4, .inr (.inr (.inr (.inr f)))) ∧ ∀ j, j < 4 → f j = some (b + (148 + j)) := by
  exact ⟨_, rfl, fun j hj => by (have h9j : j = 0 ∨ j = 1 ∨ j = 2 ∨ j = 3 := by omega); rcases h9j with rfl | rfl | rfl | rfl <;> rfl⟩
theorem rB_srvs (C : Cs D ca cc nL own cx X) {x : Int32} {j : Nat} (hd : decode cc pc = .ok (.aaload, 1))  (hx : x = nI j) (hj : j < 4) (kk : Zs l D ca SB b 182 R nL X σ (pc + 1) L (.ref (b + (148 + j)) :: st)) : Zs l D ca SB b 182 R nL X σ pc L (.int x :: .ref (b + 3) :: st) := by
  subst hx
  obtain ⟨f, h1, h2⟩ := sB_srvs (b := b) (ca := ca) (σ := σ) 
  exact z_aald C hd 3 rfl (by omega) rfl h1 (vp_in_nI hj (by decide)) (by rw [nI_clamp (by omega)]; exact h2 j hj) kk
theorem sB_frms  : ∃ f : Nat → Option Nat, enc b ca SB σ 4 = .inl (ca 4, 6, .inr (.inr (.inr (.inr f)))) ∧ ∀ j, j < 6 → f j = some (b + (152 + 5 * j)) := by
  exact ⟨_, rfl, fun j hj => by (have h9j : j = 0 ∨ j = 1 ∨ j = 2 ∨ j = 3 ∨ j = 4 ∨ j = 5 := by omega); rcases h9j with rfl | rfl | rfl | rfl | rfl | rfl <;> rfl⟩
theorem rB_frms (C : Cs D ca cc nL own cx X) {x : Int32} {j : Nat} (hd : decode cc pc = .ok (.aaload, 1))  (hx : x = nI j) (hj : j < 6) (kk : Zs l D ca SB b 182 R nL X σ (pc + 1) L (.ref (b + (152 + 5 * j)) :: st)) : Zs l D ca SB b 182 R nL X σ pc L (.int x :: .ref (b + 4) :: st) := by
  subst hx
  obtain ⟨f, h1, h2⟩ := sB_frms (b := b) (ca := ca) (σ := σ) 
  exact z_aald C hd 4 rfl (by omega) rfl h1 (vp_in_nI hj (by decide)) (by rw [nI_clamp (by omega)]; exact h2 j hj) kk
theorem sB_ques {i : Nat} (hi : i < 6) : ∃ f : Nat → Option Nat, enc b ca SB σ (12 + 22 * i) = .inl (ca 5, 6, .inr (.inr (.inr (.inr f)))) ∧ ∀ j, j < 6 → f j = some (b + (14 + 22 * i + 3 * j)) := by
  have h9i : i = 0 ∨ i = 1 ∨ i = 2 ∨ i = 3 ∨ i = 4 ∨ i = 5 := by omega
  rcases h9i with rfl | rfl | rfl | rfl | rfl | rfl <;> exact ⟨_, rfl, fun j hj => by (have h9j : j = 0 ∨ j = 1 ∨ j = 2 ∨ j = 3 ∨ j = 4 ∨ j = 5 := by omega); rcases h9j with rfl | rfl | rfl | rfl | rfl | rfl <;> rfl⟩
theorem rB_ques (C : Cs D ca cc nL own cx X) {x : Int32} {j : Nat} (hd : decode cc pc = .ok (.aaload, 1)) {i : Nat} (hi : i < 6) (hx : x = nI j) (hj : j < 6) (kk : Zs l D ca SB b 182 R nL X σ (pc + 1) L (.ref (b + (14 + 22 * i + 3 * j)) :: st)) : Zs l D ca SB b 182 R nL X σ pc L (.int x :: .ref (b + (12 + 22 * i)) :: st) := by
  subst hx
  obtain ⟨f, h1, h2⟩ := sB_ques (b := b) (ca := ca) (σ := σ) hi
  exact z_aald C hd 5 rfl (by omega) rfl h1 (vp_in_nI hj (by decide)) (by rw [nI_clamp (by omega)]; exact h2 j hj) kk
theorem sB_acts {i : Nat} (hi : i < 6) : ∃ f : Nat → Option Nat, enc b ca SB σ (13 + 22 * i) = .inl (ca 6, 6, .inr (.inr (.inr (.inr f)))) ∧ ∀ j, j < 6 → f j = some (b + (16 + 22 * i + 3 * j)) := by
  have h9i : i = 0 ∨ i = 1 ∨ i = 2 ∨ i = 3 ∨ i = 4 ∨ i = 5 := by omega
  rcases h9i with rfl | rfl | rfl | rfl | rfl | rfl <;> exact ⟨_, rfl, fun j hj => by (have h9j : j = 0 ∨ j = 1 ∨ j = 2 ∨ j = 3 ∨ j = 4 ∨ j = 5 := by omega); rcases h9j with rfl | rfl | rfl | rfl | rfl | rfl <;> rfl⟩
theorem rB_acts (C : Cs D ca cc nL own cx X) {x : Int32} {j : Nat} (hd : decode cc pc = .ok (.aaload, 1)) {i : Nat} (hi : i < 6) (hx : x = nI j) (hj : j < 6) (kk : Zs l D ca SB b 182 R nL X σ (pc + 1) L (.ref (b + (16 + 22 * i + 3 * j)) :: st)) : Zs l D ca SB b 182 R nL X σ pc L (.int x :: .ref (b + (13 + 22 * i)) :: st) := by
  subst hx
  obtain ⟨f, h1, h2⟩ := sB_acts (b := b) (ca := ca) (σ := σ) hi
  exact z_aald C hd 6 rfl (by omega) rfl h1 (vp_in_nI hj (by decide)) (by rw [nI_clamp (by omega)]; exact h2 j hj) kk
end BUSROWS
