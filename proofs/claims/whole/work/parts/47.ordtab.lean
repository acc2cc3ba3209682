/-! order: figures, sets, permutations -/
theorem t_fig : ∀ m, m < 5 → ∀ i, i < m → ∀ c, c < 256 → f_X1_figureOf (iN c) (iN i) (iN m) = some (iN (c / 4 ^ (m - 1 - i) % 4)) := by decide +kernel
theorem t_isIn : ∀ x, x < 4 → ∀ s, s < 16 → f_X7_isIn (iN x) (iN s) = some (iN (s / 2 ^ x % 2)) := by decide +kernel
def rmS (s x : Nat) : Nat := if s / 2 ^ x % 2 = 1 then s - 2 ^ x else s
theorem t_rm : ∀ x, x < 4 → ∀ s, s < 16 → iN s &&& ((1 <<< (iN x &&& 31)) ^^^ (-1)) = iN (rmS s x) := by decide +kernel
theorem rm_lt : ∀ x, x < 4 → ∀ s, s < 16 → rmS s x < 16 := by decide +kernel
def pcS (s : Nat) : Nat := s % 2 + s / 2 % 2 + s / 4 % 2 + s / 8 % 2
theorem t_bc : ∀ s, s < 16 → f_J6_bitCount_0f7a4 (iN s) = some (iN (pcS s)) := by decide +kernel
theorem t_pow : ∀ m, m < 5 → (1 : Int32) <<< ((2 * iN m) &&& 31) = iN (4 ^ m) := by decide +kernel
theorem t_sb : ∀ r, r < 16 → ∀ s, s < 16 → (iN s &&& (iN r ^^^ (-1)) = 0 ↔ ∀ x, x < 4 → s / 2 ^ x % 2 = 1 → r / 2 ^ x % 2 = 1) := by decide +kernel
theorem t_shr : ∀ x, x < 4 → ∀ s, s < 16 → (iN s >>> (iN x &&& 31)) &&& 1 = iN (s / 2 ^ x % 2) := by decide +kernel
