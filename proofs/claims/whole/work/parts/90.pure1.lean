/-! The two states side by side: which cell of the reference answers to which cell of the class. -/
def Mp (k i j x k' y : Nat) : Prop := (k = 1 ∧ i = 0 ∧ j = 0 ∧ x = 5 ∧ k' = 1 ∧ y = 2) ∨ (k = 1 ∧ i = 0 ∧ j = 0 ∧ x = 6 ∧ k' = 1 ∧ y = 3) ∨ (k = 3 ∧ i < 4 ∧ j = 0 ∧ x = 6 ∧ k' = 22 ∧ y = i) ∨ (k = 3 ∧ i < 4 ∧ j = 0 ∧ x = 7 ∧ k' = 11 ∧ y = i) ∨ (k = 3 ∧ i < 4 ∧ j = 0 ∧ x = 8 ∧ k' = 12 ∧ y = i) ∨ (k = 3 ∧ i < 4 ∧ j = 0 ∧ x = 9 ∧ k' = 13 ∧ y = i) ∨ (k = 3 ∧ i < 4 ∧ j = 0 ∧ x = 10 ∧ k' = 14 ∧ y = i) ∨ (k = 3 ∧ i < 4 ∧ j = 0 ∧ x = 11 ∧ k' = 15 ∧ y = i) ∨ (k = 4 ∧ i < 4 ∧ j = 0 ∧ x = 5 ∧ k' = 24 ∧ y = i) ∨ (k = 4 ∧ i < 4 ∧ j = 0 ∧ x = 6 ∧ k' = 16 ∧ y = i) ∨ (k = 4 ∧ i < 4 ∧ j = 0 ∧ x = 7 ∧ k' = 17 ∧ y = i) ∨ (k = 5 ∧ i < 4 ∧ j = 0 ∧ x < 100 ∧ k' = 19 ∧ y = 100 * i + x) ∨ (k = 6 ∧ i < 4 ∧ j = 0 ∧ x < 100 ∧ k' = 25 ∧ y = 101 * i + x) ∨ (k = 8 ∧ i < 4 ∧ j = 0 ∧ x < 4 ∧ k' = 26 ∧ y = 4 * i + x) ∨ (k = 9 ∧ i < 4 ∧ j = 0 ∧ x < 4 ∧ k' = 27 ∧ y = 4 * i + x) ∨ (k = 10 ∧ i < 4 ∧ j = 0 ∧ x = 3 ∧ k' = 18 ∧ y = i) ∨ (k = 12 ∧ i < 4 ∧ j = 0 ∧ x = 1 ∧ k' = 28 ∧ y = i) ∨ (k = 17 ∧ i < 4 ∧ j = 0 ∧ x < 100 ∧ k' = 20 ∧ y = 100 * i + x) ∨ (k = 17 ∧ i < 4 ∧ j = 1 ∧ x < 128 ∧ k' = 21 ∧ y = 200 * i + x) ∨ (k = 18 ∧ i < 4 ∧ j = 0 ∧ x < 40 ∧ k' = 23 ∧ y = 40 * i + x) ∨ (k = 19 ∧ i = 0 ∧ j = 0 ∧ x = 4 ∧ k' = 1 ∧ y = 11) ∨ (k = 20 ∧ i = 0 ∧ j = 0 ∧ x < 100 ∧ k' = 7 ∧ y = x) ∨ (k = 21 ∧ i = 0 ∧ j = 0 ∧ x < 100 ∧ k' = 8 ∧ y = x) ∨ (k = 22 ∧ i = 0 ∧ j = 0 ∧ x < 100 ∧ k' = 9 ∧ y = x) ∨ (k = 23 ∧ i = 0 ∧ j = 0 ∧ x < 100 ∧ k' = 10 ∧ y = x) ∨ (k = 24 ∧ i = 0 ∧ j = 0 ∧ x = 4 ∧ k' = 1 ∧ y = 6) ∨ (k = 25 ∧ i = 0 ∧ j = 0 ∧ x < 40 ∧ k' = 3 ∧ y = x) ∨ (k = 26 ∧ i = 0 ∧ j = 0 ∧ x < 40 ∧ k' = 4 ∧ y = x) ∨ (k = 27 ∧ i = 0 ∧ j = 0 ∧ x < 40 ∧ k' = 5 ∧ y = x) ∨ (k = 28 ∧ i = 0 ∧ j = 0 ∧ x < 40 ∧ k' = 6 ∧ y = x)
theorem Mp.clock : Mp 1 0 0 5 1 (2) := Or.inl ⟨rfl, rfl, rfl, rfl, rfl, rfl⟩
theorem Mp.begun : Mp 1 0 0 6 1 (3) := Or.inr (Or.inl ⟨rfl, rfl, rfl, rfl, rfl, rfl⟩)
theorem Mp.pooled {i : Nat} (hi : i < 4) : Mp 3 i 0 6 22 (i) := Or.inr (Or.inr (Or.inl ⟨rfl, hi, rfl, rfl, rfl, rfl⟩))
theorem Mp.up {i : Nat} (hi : i < 4) : Mp 3 i 0 7 11 (i) := Or.inr (Or.inr (Or.inr (Or.inl ⟨rfl, hi, rfl, rfl, rfl, rfl⟩)))
theorem Mp.view {i : Nat} (hi : i < 4) : Mp 3 i 0 8 12 (i) := Or.inr (Or.inr (Or.inr (Or.inr (Or.inl ⟨rfl, hi, rfl, rfl, rfl, rfl⟩))))
theorem Mp.timer {i : Nat} (hi : i < 4) : Mp 3 i 0 9 13 (i) := Or.inr (Or.inr (Or.inr (Or.inr (Or.inr (Or.inl ⟨rfl, hi, rfl, rfl, rfl, rfl⟩)))))
theorem Mp.span {i : Nat} (hi : i < 4) : Mp 3 i 0 10 14 (i) := Or.inr (Or.inr (Or.inr (Or.inr (Or.inr (Or.inr (Or.inl ⟨rfl, hi, rfl, rfl, rfl, rfl⟩))))))
theorem Mp.high {i : Nat} (hi : i < 4) : Mp 3 i 0 11 15 (i) := Or.inr (Or.inr (Or.inr (Or.inr (Or.inr (Or.inr (Or.inr (Or.inl ⟨rfl, hi, rfl, rfl, rfl, rfl⟩)))))))
theorem Mp.logged {i : Nat} (hi : i < 4) : Mp 4 i 0 5 24 (i) := Or.inr (Or.inr (Or.inr (Or.inr (Or.inr (Or.inr (Or.inr (Or.inr (Or.inl ⟨rfl, hi, rfl, rfl, rfl, rfl⟩))))))))
theorem Mp.voted {i : Nat} (hi : i < 4) : Mp 4 i 0 6 16 (i) := Or.inr (Or.inr (Or.inr (Or.inr (Or.inr (Or.inr (Or.inr (Or.inr (Or.inr (Or.inl ⟨rfl, hi, rfl, rfl, rfl, rfl⟩)))))))))
theorem Mp.locked {i : Nat} (hi : i < 4) : Mp 4 i 0 7 17 (i) := Or.inr (Or.inr (Or.inr (Or.inr (Or.inr (Or.inr (Or.inr (Or.inr (Or.inr (Or.inr (Or.inl ⟨rfl, hi, rfl, rfl, rfl, rfl⟩))))))))))
theorem Mp.has {i b : Nat} (hi : i < 4) (hb : b < 100) : Mp 5 i 0 b 19 (100 * i + b) := Or.inr (Or.inr (Or.inr (Or.inr (Or.inr (Or.inr (Or.inr (Or.inr (Or.inr (Or.inr (Or.inr (Or.inl ⟨rfl, hi, rfl, hb, rfl, rfl⟩)))))))))))
theorem Mp.log {i b : Nat} (hi : i < 4) (hb : b < 100) : Mp 6 i 0 b 25 (101 * i + b) := Or.inr (Or.inr (Or.inr (Or.inr (Or.inr (Or.inr (Or.inr (Or.inr (Or.inr (Or.inr (Or.inr (Or.inr (Or.inl ⟨rfl, hi, rfl, hb, rfl, rfl⟩))))))))))))
theorem Mp.money {i b : Nat} (hi : i < 4) (hb : b < 4) : Mp 8 i 0 b 26 (4 * i + b) := Or.inr (Or.inr (Or.inr (Or.inr (Or.inr (Or.inr (Or.inr (Or.inr (Or.inr (Or.inr (Or.inr (Or.inr (Or.inr (Or.inl ⟨rfl, hi, rfl, hb, rfl, rfl⟩)))))))))))))
theorem Mp.nonces {i b : Nat} (hi : i < 4) (hb : b < 4) : Mp 9 i 0 b 27 (4 * i + b) := Or.inr (Or.inr (Or.inr (Or.inr (Or.inr (Or.inr (Or.inr (Or.inr (Or.inr (Or.inr (Or.inr (Or.inr (Or.inr (Or.inr (Or.inl ⟨rfl, hi, rfl, hb, rfl, rfl⟩))))))))))))))
theorem Mp.used {i : Nat} (hi : i < 4) : Mp 10 i 0 3 18 (i) := Or.inr (Or.inr (Or.inr (Or.inr (Or.inr (Or.inr (Or.inr (Or.inr (Or.inr (Or.inr (Or.inr (Or.inr (Or.inr (Or.inr (Or.inr (Or.inl ⟨rfl, hi, rfl, rfl, rfl, rfl⟩)))))))))))))))
theorem Mp.flying {i : Nat} (hi : i < 4) : Mp 12 i 0 1 28 (i) := Or.inr (Or.inr (Or.inr (Or.inr (Or.inr (Or.inr (Or.inr (Or.inr (Or.inr (Or.inr (Or.inr (Or.inr (Or.inr (Or.inr (Or.inr (Or.inr (Or.inl ⟨rfl, hi, rfl, rfl, rfl, rfl⟩))))))))))))))))
theorem Mp.votes {i b : Nat} (hi : i < 4) (hb : b < 100) : Mp 17 i 0 b 20 (100 * i + b) := Or.inr (Or.inr (Or.inr (Or.inr (Or.inr (Or.inr (Or.inr (Or.inr (Or.inr (Or.inr (Or.inr (Or.inr (Or.inr (Or.inr (Or.inr (Or.inr (Or.inr (Or.inl ⟨rfl, hi, rfl, hb, rfl, rfl⟩)))))))))))))))))
theorem Mp.touts {i b : Nat} (hi : i < 4) (hb : b < 128) : Mp 17 i 1 b 21 (200 * i + b) := Or.inr (Or.inr (Or.inr (Or.inr (Or.inr (Or.inr (Or.inr (Or.inr (Or.inr (Or.inr (Or.inr (Or.inr (Or.inr (Or.inr (Or.inr (Or.inr (Or.inr (Or.inr (Or.inl ⟨rfl, hi, rfl, hb, rfl, rfl⟩))))))))))))))))))
theorem Mp.pool {i b : Nat} (hi : i < 4) (hb : b < 40) : Mp 18 i 0 b 23 (40 * i + b) := Or.inr (Or.inr (Or.inr (Or.inr (Or.inr (Or.inr (Or.inr (Or.inr (Or.inr (Or.inr (Or.inr (Or.inr (Or.inr (Or.inr (Or.inr (Or.inr (Or.inr (Or.inr (Or.inr (Or.inl ⟨rfl, hi, rfl, hb, rfl, rfl⟩)))))))))))))))))))
theorem Mp.blocks : Mp 19 0 0 4 1 (11) := Or.inr (Or.inr (Or.inr (Or.inr (Or.inr (Or.inr (Or.inr (Or.inr (Or.inr (Or.inr (Or.inr (Or.inr (Or.inr (Or.inr (Or.inr (Or.inr (Or.inr (Or.inr (Or.inr (Or.inr (Or.inl ⟨rfl, rfl, rfl, rfl, rfl, rfl⟩))))))))))))))))))))
theorem Mp.vw {b : Nat} (hb : b < 100) : Mp 20 0 0 b 7 (b) := Or.inr (Or.inr (Or.inr (Or.inr (Or.inr (Or.inr (Or.inr (Or.inr (Or.inr (Or.inr (Or.inr (Or.inr (Or.inr (Or.inr (Or.inr (Or.inr (Or.inr (Or.inr (Or.inr (Or.inr (Or.inr (Or.inl ⟨rfl, rfl, rfl, hb, rfl, rfl⟩)))))))))))))))))))))
theorem Mp.par {b : Nat} (hb : b < 100) : Mp 21 0 0 b 8 (b) := Or.inr (Or.inr (Or.inr (Or.inr (Or.inr (Or.inr (Or.inr (Or.inr (Or.inr (Or.inr (Or.inr (Or.inr (Or.inr (Or.inr (Or.inr (Or.inr (Or.inr (Or.inr (Or.inr (Or.inr (Or.inr (Or.inr (Or.inl ⟨rfl, rfl, rfl, hb, rfl, rfl⟩))))))))))))))))))))))
theorem Mp.car {b : Nat} (hb : b < 100) : Mp 22 0 0 b 9 (b) := Or.inr (Or.inr (Or.inr (Or.inr (Or.inr (Or.inr (Or.inr (Or.inr (Or.inr (Or.inr (Or.inr (Or.inr (Or.inr (Or.inr (Or.inr (Or.inr (Or.inr (Or.inr (Or.inr (Or.inr (Or.inr (Or.inr (Or.inr (Or.inl ⟨rfl, rfl, rfl, hb, rfl, rfl⟩)))))))))))))))))))))))
theorem Mp.cer {b : Nat} (hb : b < 100) : Mp 23 0 0 b 10 (b) := Or.inr (Or.inr (Or.inr (Or.inr (Or.inr (Or.inr (Or.inr (Or.inr (Or.inr (Or.inr (Or.inr (Or.inr (Or.inr (Or.inr (Or.inr (Or.inr (Or.inr (Or.inr (Or.inr (Or.inr (Or.inr (Or.inr (Or.inr (Or.inr (Or.inl ⟨rfl, rfl, rfl, hb, rfl, rfl⟩))))))))))))))))))))))))
theorem Mp.txs : Mp 24 0 0 4 1 (6) := Or.inr (Or.inr (Or.inr (Or.inr (Or.inr (Or.inr (Or.inr (Or.inr (Or.inr (Or.inr (Or.inr (Or.inr (Or.inr (Or.inr (Or.inr (Or.inr (Or.inr (Or.inr (Or.inr (Or.inr (Or.inr (Or.inr (Or.inr (Or.inr (Or.inr (Or.inl ⟨rfl, rfl, rfl, rfl, rfl, rfl⟩)))))))))))))))))))))))))
theorem Mp.fr {b : Nat} (hb : b < 40) : Mp 25 0 0 b 3 (b) := Or.inr (Or.inr (Or.inr (Or.inr (Or.inr (Or.inr (Or.inr (Or.inr (Or.inr (Or.inr (Or.inr (Or.inr (Or.inr (Or.inr (Or.inr (Or.inr (Or.inr (Or.inr (Or.inr (Or.inr (Or.inr (Or.inr (Or.inr (Or.inr (Or.inr (Or.inr (Or.inl ⟨rfl, rfl, rfl, hb, rfl, rfl⟩))))))))))))))))))))))))))
theorem Mp.to {b : Nat} (hb : b < 40) : Mp 26 0 0 b 4 (b) := Or.inr (Or.inr (Or.inr (Or.inr (Or.inr (Or.inr (Or.inr (Or.inr (Or.inr (Or.inr (Or.inr (Or.inr (Or.inr (Or.inr (Or.inr (Or.inr (Or.inr (Or.inr (Or.inr (Or.inr (Or.inr (Or.inr (Or.inr (Or.inr (Or.inr (Or.inr (Or.inr (Or.inl ⟨rfl, rfl, rfl, hb, rfl, rfl⟩)))))))))))))))))))))))))))
theorem Mp.am {b : Nat} (hb : b < 40) : Mp 27 0 0 b 5 (b) := Or.inr (Or.inr (Or.inr (Or.inr (Or.inr (Or.inr (Or.inr (Or.inr (Or.inr (Or.inr (Or.inr (Or.inr (Or.inr (Or.inr (Or.inr (Or.inr (Or.inr (Or.inr (Or.inr (Or.inr (Or.inr (Or.inr (Or.inr (Or.inr (Or.inr (Or.inr (Or.inr (Or.inr (Or.inl ⟨rfl, rfl, rfl, hb, rfl, rfl⟩))))))))))))))))))))))))))))
theorem Mp.no {b : Nat} (hb : b < 40) : Mp 28 0 0 b 6 (b) := Or.inr (Or.inr (Or.inr (Or.inr (Or.inr (Or.inr (Or.inr (Or.inr (Or.inr (Or.inr (Or.inr (Or.inr (Or.inr (Or.inr (Or.inr (Or.inr (Or.inr (Or.inr (Or.inr (Or.inr (Or.inr (Or.inr (Or.inr (Or.inr (Or.inr (Or.inr (Or.inr (Or.inr (Or.inr (⟨rfl, rfl, rfl, hb, rfl, rfl⟩)))))))))))))))))))))))))))))
def mbk (k y : Nat) : Nat × Nat × Nat × Nat := match k with
  | 1 => if y = 2 then (1, 0, 0, 5) else if y = 3 then (1, 0, 0, 6) else if y = 11 then (19, 0, 0, 4) else (24, 0, 0, 4)
  | 22 => (3, y, 0, 6) | 11 => (3, y, 0, 7) | 12 => (3, y, 0, 8) | 13 => (3, y, 0, 9) | 14 => (3, y, 0, 10) | 15 => (3, y, 0, 11)
  | 24 => (4, y, 0, 5) | 16 => (4, y, 0, 6) | 17 => (4, y, 0, 7)
  | 19 => (5, y / 100, 0, y % 100) | 25 => (6, y / 101, 0, y % 101) | 26 => (8, y / 4, 0, y % 4) | 27 => (9, y / 4, 0, y % 4)
  | 18 => (10, y, 0, 3) | 28 => (12, y, 0, 1) | 20 => (17, y / 100, 0, y % 100) | 21 => (17, y / 200, 1, y % 200) | 23 => (18, y / 40, 0, y % 40)
  | 7 => (20, 0, 0, y) | 8 => (21, 0, 0, y) | 9 => (22, 0, 0, y) | 10 => (23, 0, 0, y)
  | 3 => (25, 0, 0, y) | 4 => (26, 0, 0, y) | 5 => (27, 0, 0, y) | 6 => (28, 0, 0, y)
  | _ => (0, 0, 0, 0)
theorem Mp.bk {k i j x k' y : Nat} (h : Mp k i j x k' y) : mbk k' y = (k, i, j, x) := by
  unfold Mp at h
  rcases h with ⟨rfl, h1, rfl, h2, rfl, h3⟩ | ⟨rfl, h1, rfl, h2, rfl, h3⟩ | ⟨rfl, h1, rfl, h2, rfl, h3⟩ | ⟨rfl, h1, rfl, h2, rfl, h3⟩ | ⟨rfl, h1, rfl, h2, rfl, h3⟩ | ⟨rfl, h1, rfl, h2, rfl, h3⟩ | ⟨rfl, h1, rfl, h2, rfl, h3⟩ | ⟨rfl, h1, rfl, h2, rfl, h3⟩ | ⟨rfl, h1, rfl, h2, rfl, h3⟩ | ⟨rfl, h1, rfl, h2, rfl, h3⟩ | ⟨rfl, h1, rfl, h2, rfl, h3⟩ | ⟨rfl, h1, rfl, h2, rfl, h3⟩ | ⟨rfl, h1, rfl, h2, rfl, h3⟩ | ⟨rfl, h1, rfl, h2, rfl, h3⟩ | ⟨rfl, h1, rfl, h2, rfl, h3⟩ | ⟨rfl, h1, rfl, h2, rfl, h3⟩ | ⟨rfl, h1, rfl, h2, rfl, h3⟩ | ⟨rfl, h1, rfl, h2, rfl, h3⟩ | ⟨rfl, h1, rfl, h2, rfl, h3⟩ | ⟨rfl, h1, rfl, h2, rfl, h3⟩ | ⟨rfl, h1, rfl, h2, rfl, h3⟩ | ⟨rfl, h1, rfl, h2, rfl, h3⟩ | ⟨rfl, h1, rfl, h2, rfl, h3⟩ | ⟨rfl, h1, rfl, h2, rfl, h3⟩ | ⟨rfl, h1, rfl, h2, rfl, h3⟩ | ⟨rfl, h1, rfl, h2, rfl, h3⟩ | ⟨rfl, h1, rfl, h2, rfl, h3⟩ | ⟨rfl, h1, rfl, h2, rfl, h3⟩ | ⟨rfl, h1, rfl, h2, rfl, h3⟩ | ⟨rfl, h1, rfl, h2, rfl, h3⟩ <;> subst h3 <;> simp only [mbk, Prod.mk.injEq, if_true, reduceIte, Nat.reduceEqDiff, true_and, and_true, and_self] <;> first | done | omega
def mfw (k i j x : Nat) : Nat × Nat := match k with
  | 1 => (1, x - 3)
  | 3 => (if x = 6 then 22 else x + 4, i)
  | 4 => (if x = 5 then 24 else x + 10, i)
  | 5 => (19, 100 * i + x) | 6 => (25, 101 * i + x) | 8 => (26, 4 * i + x) | 9 => (27, 4 * i + x) | 10 => (18, i) | 12 => (28, i)
  | 17 => if j = 0 then (20, 100 * i + x) else (21, 200 * i + x)
  | 18 => (23, 40 * i + x) | 19 => (1, 11) | 20 => (7, x) | 21 => (8, x) | 22 => (9, x) | 23 => (10, x) | 24 => (1, 6) | 25 => (3, x) | 26 => (4, x) | 27 => (5, x) | 28 => (6, x)
  | _ => (0, 0)
theorem Mp.mf {k i j x k' y : Nat} (h : Mp k i j x k' y) : mfw k i j x = (k', y) := by
  unfold Mp at h
  rcases h with ⟨rfl, h1, rfl, h2, rfl, h3⟩ | ⟨rfl, h1, rfl, h2, rfl, h3⟩ | ⟨rfl, h1, rfl, h2, rfl, h3⟩ | ⟨rfl, h1, rfl, h2, rfl, h3⟩ | ⟨rfl, h1, rfl, h2, rfl, h3⟩ | ⟨rfl, h1, rfl, h2, rfl, h3⟩ | ⟨rfl, h1, rfl, h2, rfl, h3⟩ | ⟨rfl, h1, rfl, h2, rfl, h3⟩ | ⟨rfl, h1, rfl, h2, rfl, h3⟩ | ⟨rfl, h1, rfl, h2, rfl, h3⟩ | ⟨rfl, h1, rfl, h2, rfl, h3⟩ | ⟨rfl, h1, rfl, h2, rfl, h3⟩ | ⟨rfl, h1, rfl, h2, rfl, h3⟩ | ⟨rfl, h1, rfl, h2, rfl, h3⟩ | ⟨rfl, h1, rfl, h2, rfl, h3⟩ | ⟨rfl, h1, rfl, h2, rfl, h3⟩ | ⟨rfl, h1, rfl, h2, rfl, h3⟩ | ⟨rfl, h1, rfl, h2, rfl, h3⟩ | ⟨rfl, h1, rfl, h2, rfl, h3⟩ | ⟨rfl, h1, rfl, h2, rfl, h3⟩ | ⟨rfl, h1, rfl, h2, rfl, h3⟩ | ⟨rfl, h1, rfl, h2, rfl, h3⟩ | ⟨rfl, h1, rfl, h2, rfl, h3⟩ | ⟨rfl, h1, rfl, h2, rfl, h3⟩ | ⟨rfl, h1, rfl, h2, rfl, h3⟩ | ⟨rfl, h1, rfl, h2, rfl, h3⟩ | ⟨rfl, h1, rfl, h2, rfl, h3⟩ | ⟨rfl, h1, rfl, h2, rfl, h3⟩ | ⟨rfl, h1, rfl, h2, rfl, h3⟩ | ⟨rfl, h1, rfl, h2, rfl, h3⟩ <;> subst h3 <;> first | rfl | (subst h2 <;> rfl) | (subst h1 <;> subst h2 <;> rfl)
theorem Mp.fw {k i j x k' y k2 y2 : Nat} (h : Mp k i j x k' y) (g : Mp k i j x k2 y2) : k' = k2 ∧ y = y2 := by
  have a := h.mf.symm.trans g.mf
  simp only [Prod.mk.injEq] at a
  exact a
theorem Mp.iff {k i j x k' y k2 i2 j2 x2 k2' y2 : Nat} (h : Mp k i j x k' y) (g : Mp k2 i2 j2 x2 k2' y2) : (k2 = k ∧ i2 = i ∧ j2 = j ∧ x2 = x) ↔ (k2' = k' ∧ y2 = y) := by
  constructor
  · rintro ⟨rfl, rfl, rfl, rfl⟩
    have a := h.fw g
    exact ⟨a.1.symm, a.2.symm⟩
  · rintro ⟨rfl, rfl⟩
    have a := h.bk.symm.trans g.bk
    simp only [Prod.mk.injEq] at a
    exact ⟨a.1.symm, a.2.1.symm, a.2.2.1.symm, a.2.2.2.symm⟩
/-- how many of the first n are not 0 -/
def cnt (f : Nat → Int32) (n : Nat) : Nat := Nat.rec 0 (fun k r => r + if f k = 0 then 0 else 1) n
def Rel (sd : Int32) (S U : St) : Prop := (∀ {k i j x k' y : Nat}, Mp k i j x k' y → S.1 k i j x = U.1 k' 0 0 y) ∧ (∀ i, i < 4 → S.1 3 i 0 0 = nI i) ∧ (∀ i, i < 4 → S.1 10 i 0 1 = sd) ∧ (∀ i, i < 4 → S.1 10 i 0 2 = nI i) ∧ (U.2.1 1 0 0 0 = sd.toInt64) ∧ (∀ i, i < 4 → ∀ x, x < 64 → S.2.1 11 i 0 x = U.2.1 2 0 0 (64 * i + x)) ∧ (∀ i, i < 4 → ∀ k, k < 16 → S.2.2 13 i 0 k < 16) ∧ (∀ i, i < 4 → ∀ k, k < 16 → ∀ k', k' < 16 → S.2.2 13 i 0 k = S.2.2 13 i 0 k' → k = k') ∧ (∀ i, i < 4 → ∀ k, k < 16 → k < (U.1 28 0 0 i).toNatClampNeg → ∀ f, 1 ≤ f → f ≤ 5 → S.1 14 i (S.2.2 13 i 0 k) f = U.1 (28 + f) 0 0 (16 * i + k)) ∧ (∀ i, i < 4 → ∀ k, k < 16 → k < (U.1 28 0 0 i).toNatClampNeg → U.1 29 0 0 (16 * i + k) ≤ 3 → ∀ l, l < 11 → S.2.1 15 i (S.2.2 13 i 0 k) l = U.2.1 34 0 0 (11 * (16 * i + k) + l)) ∧ (∀ i, i < 4 → S.1 4 i 0 4 = nI (cnt (fun b => U.1 19 0 0 (100 * i + b)) 100))
theorem Rel.mk {sd : Int32} {S U : St} (m : ∀ {k i j x k' y : Nat}, Mp k i j x k' y → S.1 k i j x = U.1 k' 0 0 y) (id : ∀ i, i < 4 → S.1 3 i 0 0 = nI i) (se : ∀ i, i < 4 → S.1 10 i 0 1 = sd) (ow : ∀ i, i < 4 → S.1 10 i 0 2 = nI i) (us : U.2.1 1 0 0 0 = sd.toInt64) (tr : ∀ i, i < 4 → ∀ x, x < 64 → S.2.1 11 i 0 x = U.2.1 2 0 0 (64 * i + x)) (row : ∀ i, i < 4 → ∀ k, k < 16 → S.2.2 13 i 0 k < 16) (inj : ∀ i, i < 4 → ∀ k, k < 16 → ∀ k', k' < 16 → S.2.2 13 i 0 k = S.2.2 13 i 0 k' → k = k') (msg : ∀ i, i < 4 → ∀ k, k < 16 → k < (U.1 28 0 0 i).toNatClampNeg → ∀ f, 1 ≤ f → f ≤ 5 → S.1 14 i (S.2.2 13 i 0 k) f = U.1 (28 + f) 0 0 (16 * i + k)) (sg : ∀ i, i < 4 → ∀ k, k < 16 → k < (U.1 28 0 0 i).toNatClampNeg → U.1 29 0 0 (16 * i + k) ≤ 3 → ∀ l, l < 11 → S.2.1 15 i (S.2.2 13 i 0 k) l = U.2.1 34 0 0 (11 * (16 * i + k) + l)) (bc : ∀ i, i < 4 → S.1 4 i 0 4 = nI (cnt (fun b => U.1 19 0 0 (100 * i + b)) 100)) : Rel sd S U := ⟨m, id, se, ow, us, tr, row, inj, msg, sg, bc⟩
theorem Rel.m {sd : Int32} {S U : St} (h : Rel sd S U) : ∀ {k i j x k' y : Nat}, Mp k i j x k' y → S.1 k i j x = U.1 k' 0 0 y := h.1
theorem Rel.id {sd : Int32} {S U : St} (h : Rel sd S U) : ∀ i, i < 4 → S.1 3 i 0 0 = nI i := h.2.1
theorem Rel.se {sd : Int32} {S U : St} (h : Rel sd S U) : ∀ i, i < 4 → S.1 10 i 0 1 = sd := h.2.2.1
theorem Rel.ow {sd : Int32} {S U : St} (h : Rel sd S U) : ∀ i, i < 4 → S.1 10 i 0 2 = nI i := h.2.2.2.1
theorem Rel.us {sd : Int32} {S U : St} (h : Rel sd S U) : U.2.1 1 0 0 0 = sd.toInt64 := h.2.2.2.2.1
theorem Rel.tr {sd : Int32} {S U : St} (h : Rel sd S U) : ∀ i, i < 4 → ∀ x, x < 64 → S.2.1 11 i 0 x = U.2.1 2 0 0 (64 * i + x) := h.2.2.2.2.2.1
theorem Rel.row {sd : Int32} {S U : St} (h : Rel sd S U) : ∀ i, i < 4 → ∀ k, k < 16 → S.2.2 13 i 0 k < 16 := h.2.2.2.2.2.2.1
theorem Rel.inj {sd : Int32} {S U : St} (h : Rel sd S U) : ∀ i, i < 4 → ∀ k, k < 16 → ∀ k', k' < 16 → S.2.2 13 i 0 k = S.2.2 13 i 0 k' → k = k' := h.2.2.2.2.2.2.2.1
theorem Rel.msg {sd : Int32} {S U : St} (h : Rel sd S U) : ∀ i, i < 4 → ∀ k, k < 16 → k < (U.1 28 0 0 i).toNatClampNeg → ∀ f, 1 ≤ f → f ≤ 5 → S.1 14 i (S.2.2 13 i 0 k) f = U.1 (28 + f) 0 0 (16 * i + k) := h.2.2.2.2.2.2.2.2.1
theorem Rel.sg {sd : Int32} {S U : St} (h : Rel sd S U) : ∀ i, i < 4 → ∀ k, k < 16 → k < (U.1 28 0 0 i).toNatClampNeg → U.1 29 0 0 (16 * i + k) ≤ 3 → ∀ l, l < 11 → S.2.1 15 i (S.2.2 13 i 0 k) l = U.2.1 34 0 0 (11 * (16 * i + k) + l) := h.2.2.2.2.2.2.2.2.2.1
theorem Rel.bc {sd : Int32} {S U : St} (h : Rel sd S U) : ∀ i, i < 4 → S.1 4 i 0 4 = nI (cnt (fun b => U.1 19 0 0 (100 * i + b)) 100) := h.2.2.2.2.2.2.2.2.2.2
/-- the marks: who has signed for a view, after a ghost row of what each key was used for -/
def Mk (sg : Nat → Nat) (us : Nat → Int32) (s w : Nat) : Prop := ∃ k, k < (us s).toNatClampNeg ∧ sg (32 * s + k) = w
def Rc (sg : Nat → Nat) (us : Nat → Int32) (v : Nat) : Prop := ∀ w, 60 ≤ w → w < v → ∃ a b c, a < b ∧ b < c ∧ c < 4 ∧ Mk sg us a w ∧ Mk sg us b w ∧ Mk sg us c w
abbrev MsgOk (sg : Nat → Nat) (B : Nat) (us vw : Nat → Int32) (kd se bk vi ke : Int32) : Prop := (∃ k, 1 ≤ k ∧ k ≤ 5 ∧ kd = nI k) ∧ (∃ s, s < 4 ∧ se = nI s) ∧ (∃ b, b < B ∧ bk = nI b ∧ (kd ≠ 3 → 1 ≤ b)) ∧ (∃ v, v < 128 ∧ vi = nI v) ∧ (kd ≤ 3 → ∃ k, k < 32 ∧ ke = nI k) ∧ (¬ kd ≤ 3 → ke = -1) ∧ (kd = 2 → Mk sg us se.toNatClampNeg (vw bk.toNatClampNeg).toNatClampNeg) ∧ (kd = 3 → Mk sg us se.toNatClampNeg vi.toNatClampNeg ∧ 1 ≤ vi.toNatClampNeg ∧ Rc sg us vi.toNatClampNeg)
theorem MsgOk.mk {sg : Nat → Nat} {B : Nat} {us vw : Nat → Int32} {kd se bk vi ke : Int32} (kind : ∃ k, 1 ≤ k ∧ k ≤ 5 ∧ kd = nI k) (sender : ∃ s, s < 4 ∧ se = nI s) (block : ∃ b, b < B ∧ bk = nI b ∧ (kd ≠ 3 → 1 ≤ b)) (view : ∃ v, v < 128 ∧ vi = nI v) (key : kd ≤ 3 → ∃ k, k < 32 ∧ ke = nI k) (nokey : ¬ kd ≤ 3 → ke = -1) (vote : kd = 2 → Mk sg us se.toNatClampNeg (vw bk.toNatClampNeg).toNatClampNeg) (tout : kd = 3 → Mk sg us se.toNatClampNeg vi.toNatClampNeg ∧ 1 ≤ vi.toNatClampNeg ∧ Rc sg us vi.toNatClampNeg) : MsgOk sg B us vw kd se bk vi ke := ⟨kind, sender, block, view, key, nokey, vote, tout⟩
theorem MsgOk.kind {sg : Nat → Nat} {B : Nat} {us vw : Nat → Int32} {kd se bk vi ke : Int32} (h : MsgOk sg B us vw kd se bk vi ke) : ∃ k, 1 ≤ k ∧ k ≤ 5 ∧ kd = nI k := h.1
theorem MsgOk.sender {sg : Nat → Nat} {B : Nat} {us vw : Nat → Int32} {kd se bk vi ke : Int32} (h : MsgOk sg B us vw kd se bk vi ke) : ∃ s, s < 4 ∧ se = nI s := h.2.1
theorem MsgOk.block {sg : Nat → Nat} {B : Nat} {us vw : Nat → Int32} {kd se bk vi ke : Int32} (h : MsgOk sg B us vw kd se bk vi ke) : ∃ b, b < B ∧ bk = nI b ∧ (kd ≠ 3 → 1 ≤ b) := h.2.2.1
theorem MsgOk.view {sg : Nat → Nat} {B : Nat} {us vw : Nat → Int32} {kd se bk vi ke : Int32} (h : MsgOk sg B us vw kd se bk vi ke) : ∃ v, v < 128 ∧ vi = nI v := h.2.2.2.1
theorem MsgOk.key {sg : Nat → Nat} {B : Nat} {us vw : Nat → Int32} {kd se bk vi ke : Int32} (h : MsgOk sg B us vw kd se bk vi ke) : kd ≤ 3 → ∃ k, k < 32 ∧ ke = nI k := h.2.2.2.2.1
theorem MsgOk.nokey {sg : Nat → Nat} {B : Nat} {us vw : Nat → Int32} {kd se bk vi ke : Int32} (h : MsgOk sg B us vw kd se bk vi ke) : ¬ kd ≤ 3 → ke = -1 := h.2.2.2.2.2.1
theorem MsgOk.vote {sg : Nat → Nat} {B : Nat} {us vw : Nat → Int32} {kd se bk vi ke : Int32} (h : MsgOk sg B us vw kd se bk vi ke) : kd = 2 → Mk sg us se.toNatClampNeg (vw bk.toNatClampNeg).toNatClampNeg := h.2.2.2.2.2.2.1
theorem MsgOk.tout {sg : Nat → Nat} {B : Nat} {us vw : Nat → Int32} {kd se bk vi ke : Int32} (h : MsgOk sg B us vw kd se bk vi ke) : kd = 3 → Mk sg us se.toNatClampNeg vi.toNatClampNeg ∧ 1 ≤ vi.toNatClampNeg ∧ Rc sg us vi.toNatClampNeg := h.2.2.2.2.2.2.2
abbrev tbit (v : Int32) (s : Nat) : Prop := v &&& ((1 : Int32) <<< (nI s &&& 31)) ≠ 0
def Ivt (sg : Nat → Nat) (B T : Nat) (U : St) : Prop := (U.1 1 0 0 11 = nI B) ∧ (1 ≤ B) ∧ (B ≤ 100) ∧ (U.1 1 0 0 6 = nI T) ∧ (T ≤ 40) ∧ (U.1 8 0 0 0 = -1) ∧ (∀ b, 0 < b → b < B → ∃ p, p < b ∧ U.1 8 0 0 b = nI p) ∧ (U.1 7 0 0 0 = 0) ∧ (∀ b, 0 < b → b < B → ∃ v, 1 ≤ v ∧ v < 128 ∧ U.1 7 0 0 b = nI v ∧ Rc sg (U.1 18 0 0) v) ∧ (∀ b, b < B → U.1 9 0 0 b = -1 ∨ ∃ t, t < T ∧ U.1 9 0 0 b = nI t) ∧ (∀ t, t < T → ∃ a, a < 4 ∧ U.1 3 0 0 t = nI a) ∧ (∀ t, t < T → ∃ a, a < 4 ∧ U.1 4 0 0 t = nI a) ∧ (∀ i, i < 4 → ∃ v, 1 ≤ v ∧ v < 128 ∧ U.1 12 0 0 i = nI v ∧ Rc sg (U.1 18 0 0) v) ∧ (∀ i, i < 4 → ∃ s, s ≤ 24 ∧ U.1 14 0 0 i = nI s) ∧ (∀ i, i < 4 → ∃ b, b < B ∧ U.1 15 0 0 i = nI b) ∧ (∀ i, i < 4 → ∃ b, b < B ∧ U.1 17 0 0 i = nI b) ∧ (∀ i, i < 4 → ∃ v, v < 128 ∧ U.1 16 0 0 i = nI v ∧ Rc sg (U.1 18 0 0) v) ∧ (∀ i, i < 4 → ∃ u, u ≤ 32 ∧ U.1 18 0 0 i = nI u) ∧ (∀ i, i < 4 → U.1 19 0 0 (100 * i) = 1) ∧ (∀ i, i < 4 → ∀ b, B ≤ b → b < 100 → U.1 19 0 0 (100 * i + b) = 0) ∧ (∀ i, i < 4 → ∀ b, b < 100 → U.1 19 0 0 (100 * i + b) = 0 ∨ U.1 19 0 0 (100 * i + b) = 1) ∧ (∀ i, i < 4 → ∀ b, b < 100 → ∃ w, w < 16 ∧ U.1 20 0 0 (100 * i + b) = nI w) ∧ (∀ i, i < 4 → ∀ b, B ≤ b → b < 100 → U.1 20 0 0 (100 * i + b) = 0) ∧ (∀ i, i < 4 → ∀ b, b < B → ∀ s, s < 4 → tbit (U.1 20 0 0 (100 * i + b)) s → Mk sg (U.1 18 0 0) s (U.1 7 0 0 b).toNatClampNeg) ∧ (∀ i, i < 4 → ∀ v, v < 200 → ∃ w, w < 16 ∧ U.1 21 0 0 (200 * i + v) = nI w) ∧ (∀ i, i < 4 → ∀ v, v < 200 → ∀ s, s < 4 → tbit (U.1 21 0 0 (200 * i + v)) s → Mk sg (U.1 18 0 0) s v) ∧ (∀ i, i < 4 → ∃ n, n ≤ 40 ∧ U.1 22 0 0 i = nI n) ∧ (∀ i, i < 4 → ∀ k, k < 40 → k < (U.1 22 0 0 i).toNatClampNeg → ∃ t, t < T ∧ U.1 23 0 0 (40 * i + k) = nI t) ∧ (∀ i, i < 4 → ∀ k, k < 40 → k < (U.1 22 0 0 i).toNatClampNeg → ∀ k', k' < k → U.1 23 0 0 (40 * i + k') ≠ U.1 23 0 0 (40 * i + k)) ∧ (∀ i, i < 4 → ∃ n, 1 ≤ n ∧ n ≤ 100 ∧ U.1 24 0 0 i = nI n) ∧ (∀ i, i < 4 → U.1 25 0 0 (101 * i) = 0) ∧ (∀ i, i < 4 → ∀ k, k < 100 → k < (U.1 24 0 0 i).toNatClampNeg → ∃ b, b < B ∧ U.1 25 0 0 (101 * i + k) = nI b) ∧ (∀ i, i < 4 → ∀ k, k + 1 < 100 → k + 1 < (U.1 24 0 0 i).toNatClampNeg → U.1 8 0 0 (U.1 25 0 0 (101 * i + (k + 1))).toNatClampNeg = U.1 25 0 0 (101 * i + k)) ∧ (∀ i, i < 4 → ∃ n, n ≤ 16 ∧ U.1 28 0 0 i = nI n) ∧ (∀ i, i < 4 → ∀ k, k < 16 → k < (U.1 28 0 0 i).toNatClampNeg → MsgOk sg B (U.1 18 0 0) (U.1 7 0 0) (U.1 29 0 0 (16 * i + k)) (U.1 30 0 0 (16 * i + k)) (U.1 31 0 0 (16 * i + k)) (U.1 32 0 0 (16 * i + k)) (U.1 33 0 0 (16 * i + k)))
theorem Ivt.mk {sg : Nat → Nat} {B T : Nat} {U : St} (hB : U.1 1 0 0 11 = nI B) (hB1 : 1 ≤ B) (hB2 : B ≤ 100) (hT : U.1 1 0 0 6 = nI T) (hT2 : T ≤ 40) (par0 : U.1 8 0 0 0 = -1) (par : ∀ b, 0 < b → b < B → ∃ p, p < b ∧ U.1 8 0 0 b = nI p) (vw0 : U.1 7 0 0 0 = 0) (vw : ∀ b, 0 < b → b < B → ∃ v, 1 ≤ v ∧ v < 128 ∧ U.1 7 0 0 b = nI v ∧ Rc sg (U.1 18 0 0) v) (car : ∀ b, b < B → U.1 9 0 0 b = -1 ∨ ∃ t, t < T ∧ U.1 9 0 0 b = nI t) (fr : ∀ t, t < T → ∃ a, a < 4 ∧ U.1 3 0 0 t = nI a) (to : ∀ t, t < T → ∃ a, a < 4 ∧ U.1 4 0 0 t = nI a) (view : ∀ i, i < 4 → ∃ v, 1 ≤ v ∧ v < 128 ∧ U.1 12 0 0 i = nI v ∧ Rc sg (U.1 18 0 0) v) (span : ∀ i, i < 4 → ∃ s, s ≤ 24 ∧ U.1 14 0 0 i = nI s) (high : ∀ i, i < 4 → ∃ b, b < B ∧ U.1 15 0 0 i = nI b) (locked : ∀ i, i < 4 → ∃ b, b < B ∧ U.1 17 0 0 i = nI b) (voted : ∀ i, i < 4 → ∃ v, v < 128 ∧ U.1 16 0 0 i = nI v ∧ Rc sg (U.1 18 0 0) v) (used : ∀ i, i < 4 → ∃ u, u ≤ 32 ∧ U.1 18 0 0 i = nI u) (has0 : ∀ i, i < 4 → U.1 19 0 0 (100 * i) = 1) (hasB : ∀ i, i < 4 → ∀ b, B ≤ b → b < 100 → U.1 19 0 0 (100 * i + b) = 0) (hasV : ∀ i, i < 4 → ∀ b, b < 100 → U.1 19 0 0 (100 * i + b) = 0 ∨ U.1 19 0 0 (100 * i + b) = 1) (votes : ∀ i, i < 4 → ∀ b, b < 100 → ∃ w, w < 16 ∧ U.1 20 0 0 (100 * i + b) = nI w) (votesB : ∀ i, i < 4 → ∀ b, B ≤ b → b < 100 → U.1 20 0 0 (100 * i + b) = 0) (votesM : ∀ i, i < 4 → ∀ b, b < B → ∀ s, s < 4 → tbit (U.1 20 0 0 (100 * i + b)) s → Mk sg (U.1 18 0 0) s (U.1 7 0 0 b).toNatClampNeg) (touts : ∀ i, i < 4 → ∀ v, v < 200 → ∃ w, w < 16 ∧ U.1 21 0 0 (200 * i + v) = nI w) (toutsM : ∀ i, i < 4 → ∀ v, v < 200 → ∀ s, s < 4 → tbit (U.1 21 0 0 (200 * i + v)) s → Mk sg (U.1 18 0 0) s v) (pooled : ∀ i, i < 4 → ∃ n, n ≤ 40 ∧ U.1 22 0 0 i = nI n) (pool : ∀ i, i < 4 → ∀ k, k < 40 → k < (U.1 22 0 0 i).toNatClampNeg → ∃ t, t < T ∧ U.1 23 0 0 (40 * i + k) = nI t) (poolD : ∀ i, i < 4 → ∀ k, k < 40 → k < (U.1 22 0 0 i).toNatClampNeg → ∀ k', k' < k → U.1 23 0 0 (40 * i + k') ≠ U.1 23 0 0 (40 * i + k)) (logged : ∀ i, i < 4 → ∃ n, 1 ≤ n ∧ n ≤ 100 ∧ U.1 24 0 0 i = nI n) (log0 : ∀ i, i < 4 → U.1 25 0 0 (101 * i) = 0) (log : ∀ i, i < 4 → ∀ k, k < 100 → k < (U.1 24 0 0 i).toNatClampNeg → ∃ b, b < B ∧ U.1 25 0 0 (101 * i + k) = nI b) (logP : ∀ i, i < 4 → ∀ k, k + 1 < 100 → k + 1 < (U.1 24 0 0 i).toNatClampNeg → U.1 8 0 0 (U.1 25 0 0 (101 * i + (k + 1))).toNatClampNeg = U.1 25 0 0 (101 * i + k)) (fly : ∀ i, i < 4 → ∃ n, n ≤ 16 ∧ U.1 28 0 0 i = nI n) (msgs : ∀ i, i < 4 → ∀ k, k < 16 → k < (U.1 28 0 0 i).toNatClampNeg → MsgOk sg B (U.1 18 0 0) (U.1 7 0 0) (U.1 29 0 0 (16 * i + k)) (U.1 30 0 0 (16 * i + k)) (U.1 31 0 0 (16 * i + k)) (U.1 32 0 0 (16 * i + k)) (U.1 33 0 0 (16 * i + k))) : Ivt sg B T U := ⟨hB, hB1, hB2, hT, hT2, par0, par, vw0, vw, car, fr, to, view, span, high, locked, voted, used, has0, hasB, hasV, votes, votesB, votesM, touts, toutsM, pooled, pool, poolD, logged, log0, log, logP, fly, msgs⟩
theorem Ivt.hB {sg : Nat → Nat} {B T : Nat} {U : St} (h : Ivt sg B T U) : U.1 1 0 0 11 = nI B := h.1
theorem Ivt.hB1 {sg : Nat → Nat} {B T : Nat} {U : St} (h : Ivt sg B T U) : 1 ≤ B := h.2.1
theorem Ivt.hB2 {sg : Nat → Nat} {B T : Nat} {U : St} (h : Ivt sg B T U) : B ≤ 100 := h.2.2.1
theorem Ivt.hT {sg : Nat → Nat} {B T : Nat} {U : St} (h : Ivt sg B T U) : U.1 1 0 0 6 = nI T := h.2.2.2.1
theorem Ivt.hT2 {sg : Nat → Nat} {B T : Nat} {U : St} (h : Ivt sg B T U) : T ≤ 40 := h.2.2.2.2.1
theorem Ivt.par0 {sg : Nat → Nat} {B T : Nat} {U : St} (h : Ivt sg B T U) : U.1 8 0 0 0 = -1 := h.2.2.2.2.2.1
theorem Ivt.par {sg : Nat → Nat} {B T : Nat} {U : St} (h : Ivt sg B T U) : ∀ b, 0 < b → b < B → ∃ p, p < b ∧ U.1 8 0 0 b = nI p := h.2.2.2.2.2.2.1
theorem Ivt.vw0 {sg : Nat → Nat} {B T : Nat} {U : St} (h : Ivt sg B T U) : U.1 7 0 0 0 = 0 := h.2.2.2.2.2.2.2.1
theorem Ivt.vw {sg : Nat → Nat} {B T : Nat} {U : St} (h : Ivt sg B T U) : ∀ b, 0 < b → b < B → ∃ v, 1 ≤ v ∧ v < 128 ∧ U.1 7 0 0 b = nI v ∧ Rc sg (U.1 18 0 0) v := h.2.2.2.2.2.2.2.2.1
theorem Ivt.car {sg : Nat → Nat} {B T : Nat} {U : St} (h : Ivt sg B T U) : ∀ b, b < B → U.1 9 0 0 b = -1 ∨ ∃ t, t < T ∧ U.1 9 0 0 b = nI t := h.2.2.2.2.2.2.2.2.2.1
theorem Ivt.fr {sg : Nat → Nat} {B T : Nat} {U : St} (h : Ivt sg B T U) : ∀ t, t < T → ∃ a, a < 4 ∧ U.1 3 0 0 t = nI a := h.2.2.2.2.2.2.2.2.2.2.1
theorem Ivt.to {sg : Nat → Nat} {B T : Nat} {U : St} (h : Ivt sg B T U) : ∀ t, t < T → ∃ a, a < 4 ∧ U.1 4 0 0 t = nI a := h.2.2.2.2.2.2.2.2.2.2.2.1
theorem Ivt.view {sg : Nat → Nat} {B T : Nat} {U : St} (h : Ivt sg B T U) : ∀ i, i < 4 → ∃ v, 1 ≤ v ∧ v < 128 ∧ U.1 12 0 0 i = nI v ∧ Rc sg (U.1 18 0 0) v := h.2.2.2.2.2.2.2.2.2.2.2.2.1
theorem Ivt.span {sg : Nat → Nat} {B T : Nat} {U : St} (h : Ivt sg B T U) : ∀ i, i < 4 → ∃ s, s ≤ 24 ∧ U.1 14 0 0 i = nI s := h.2.2.2.2.2.2.2.2.2.2.2.2.2.1
theorem Ivt.high {sg : Nat → Nat} {B T : Nat} {U : St} (h : Ivt sg B T U) : ∀ i, i < 4 → ∃ b, b < B ∧ U.1 15 0 0 i = nI b := h.2.2.2.2.2.2.2.2.2.2.2.2.2.2.1
theorem Ivt.locked {sg : Nat → Nat} {B T : Nat} {U : St} (h : Ivt sg B T U) : ∀ i, i < 4 → ∃ b, b < B ∧ U.1 17 0 0 i = nI b := h.2.2.2.2.2.2.2.2.2.2.2.2.2.2.2.1
theorem Ivt.voted {sg : Nat → Nat} {B T : Nat} {U : St} (h : Ivt sg B T U) : ∀ i, i < 4 → ∃ v, v < 128 ∧ U.1 16 0 0 i = nI v ∧ Rc sg (U.1 18 0 0) v := h.2.2.2.2.2.2.2.2.2.2.2.2.2.2.2.2.1
theorem Ivt.used {sg : Nat → Nat} {B T : Nat} {U : St} (h : Ivt sg B T U) : ∀ i, i < 4 → ∃ u, u ≤ 32 ∧ U.1 18 0 0 i = nI u := h.2.2.2.2.2.2.2.2.2.2.2.2.2.2.2.2.2.1
theorem Ivt.has0 {sg : Nat → Nat} {B T : Nat} {U : St} (h : Ivt sg B T U) : ∀ i, i < 4 → U.1 19 0 0 (100 * i) = 1 := h.2.2.2.2.2.2.2.2.2.2.2.2.2.2.2.2.2.2.1
theorem Ivt.hasB {sg : Nat → Nat} {B T : Nat} {U : St} (h : Ivt sg B T U) : ∀ i, i < 4 → ∀ b, B ≤ b → b < 100 → U.1 19 0 0 (100 * i + b) = 0 := h.2.2.2.2.2.2.2.2.2.2.2.2.2.2.2.2.2.2.2.1
theorem Ivt.hasV {sg : Nat → Nat} {B T : Nat} {U : St} (h : Ivt sg B T U) : ∀ i, i < 4 → ∀ b, b < 100 → U.1 19 0 0 (100 * i + b) = 0 ∨ U.1 19 0 0 (100 * i + b) = 1 := h.2.2.2.2.2.2.2.2.2.2.2.2.2.2.2.2.2.2.2.2.1
theorem Ivt.votes {sg : Nat → Nat} {B T : Nat} {U : St} (h : Ivt sg B T U) : ∀ i, i < 4 → ∀ b, b < 100 → ∃ w, w < 16 ∧ U.1 20 0 0 (100 * i + b) = nI w := h.2.2.2.2.2.2.2.2.2.2.2.2.2.2.2.2.2.2.2.2.2.1
theorem Ivt.votesB {sg : Nat → Nat} {B T : Nat} {U : St} (h : Ivt sg B T U) : ∀ i, i < 4 → ∀ b, B ≤ b → b < 100 → U.1 20 0 0 (100 * i + b) = 0 := h.2.2.2.2.2.2.2.2.2.2.2.2.2.2.2.2.2.2.2.2.2.2.1
theorem Ivt.votesM {sg : Nat → Nat} {B T : Nat} {U : St} (h : Ivt sg B T U) : ∀ i, i < 4 → ∀ b, b < B → ∀ s, s < 4 → tbit (U.1 20 0 0 (100 * i + b)) s → Mk sg (U.1 18 0 0) s (U.1 7 0 0 b).toNatClampNeg := h.2.2.2.2.2.2.2.2.2.2.2.2.2.2.2.2.2.2.2.2.2.2.2.1
theorem Ivt.touts {sg : Nat → Nat} {B T : Nat} {U : St} (h : Ivt sg B T U) : ∀ i, i < 4 → ∀ v, v < 200 → ∃ w, w < 16 ∧ U.1 21 0 0 (200 * i + v) = nI w := h.2.2.2.2.2.2.2.2.2.2.2.2.2.2.2.2.2.2.2.2.2.2.2.2.1
theorem Ivt.toutsM {sg : Nat → Nat} {B T : Nat} {U : St} (h : Ivt sg B T U) : ∀ i, i < 4 → ∀ v, v < 200 → ∀ s, s < 4 → tbit (U.1 21 0 0 (200 * i + v)) s → Mk sg (U.1 18 0 0) s v := h.2.2.2.2.2.2.2.2.2.2.2.2.2.2.2.2.2.2.2.2.2.2.2.2.2.1
theorem Ivt.pooled {sg : Nat → Nat} {B T : Nat} {U : St} (h : Ivt sg B T U) : ∀ i, i < 4 → ∃ n, n ≤ 40 ∧ U.1 22 0 0 i = nI n := h.2.2.2.2.2.2.2.2.2.2.2.2.2.2.2.2.2.2.2.2.2.2.2.2.2.2.1
theorem Ivt.pool {sg : Nat → Nat} {B T : Nat} {U : St} (h : Ivt sg B T U) : ∀ i, i < 4 → ∀ k, k < 40 → k < (U.1 22 0 0 i).toNatClampNeg → ∃ t, t < T ∧ U.1 23 0 0 (40 * i + k) = nI t := h.2.2.2.2.2.2.2.2.2.2.2.2.2.2.2.2.2.2.2.2.2.2.2.2.2.2.2.1
theorem Ivt.poolD {sg : Nat → Nat} {B T : Nat} {U : St} (h : Ivt sg B T U) : ∀ i, i < 4 → ∀ k, k < 40 → k < (U.1 22 0 0 i).toNatClampNeg → ∀ k', k' < k → U.1 23 0 0 (40 * i + k') ≠ U.1 23 0 0 (40 * i + k) := h.2.2.2.2.2.2.2.2.2.2.2.2.2.2.2.2.2.2.2.2.2.2.2.2.2.2.2.2.1
theorem Ivt.logged {sg : Nat → Nat} {B T : Nat} {U : St} (h : Ivt sg B T U) : ∀ i, i < 4 → ∃ n, 1 ≤ n ∧ n ≤ 100 ∧ U.1 24 0 0 i = nI n := h.2.2.2.2.2.2.2.2.2.2.2.2.2.2.2.2.2.2.2.2.2.2.2.2.2.2.2.2.2.1
theorem Ivt.log0 {sg : Nat → Nat} {B T : Nat} {U : St} (h : Ivt sg B T U) : ∀ i, i < 4 → U.1 25 0 0 (101 * i) = 0 := h.2.2.2.2.2.2.2.2.2.2.2.2.2.2.2.2.2.2.2.2.2.2.2.2.2.2.2.2.2.2.1
theorem Ivt.log {sg : Nat → Nat} {B T : Nat} {U : St} (h : Ivt sg B T U) : ∀ i, i < 4 → ∀ k, k < 100 → k < (U.1 24 0 0 i).toNatClampNeg → ∃ b, b < B ∧ U.1 25 0 0 (101 * i + k) = nI b := h.2.2.2.2.2.2.2.2.2.2.2.2.2.2.2.2.2.2.2.2.2.2.2.2.2.2.2.2.2.2.2.1
theorem Ivt.logP {sg : Nat → Nat} {B T : Nat} {U : St} (h : Ivt sg B T U) : ∀ i, i < 4 → ∀ k, k + 1 < 100 → k + 1 < (U.1 24 0 0 i).toNatClampNeg → U.1 8 0 0 (U.1 25 0 0 (101 * i + (k + 1))).toNatClampNeg = U.1 25 0 0 (101 * i + k) := h.2.2.2.2.2.2.2.2.2.2.2.2.2.2.2.2.2.2.2.2.2.2.2.2.2.2.2.2.2.2.2.2.1
theorem Ivt.fly {sg : Nat → Nat} {B T : Nat} {U : St} (h : Ivt sg B T U) : ∀ i, i < 4 → ∃ n, n ≤ 16 ∧ U.1 28 0 0 i = nI n := h.2.2.2.2.2.2.2.2.2.2.2.2.2.2.2.2.2.2.2.2.2.2.2.2.2.2.2.2.2.2.2.2.2.1
theorem Ivt.msgs {sg : Nat → Nat} {B T : Nat} {U : St} (h : Ivt sg B T U) : ∀ i, i < 4 → ∀ k, k < 16 → k < (U.1 28 0 0 i).toNatClampNeg → MsgOk sg B (U.1 18 0 0) (U.1 7 0 0) (U.1 29 0 0 (16 * i + k)) (U.1 30 0 0 (16 * i + k)) (U.1 31 0 0 (16 * i + k)) (U.1 32 0 0 (16 * i + k)) (U.1 33 0 0 (16 * i + k)) := h.2.2.2.2.2.2.2.2.2.2.2.2.2.2.2.2.2.2.2.2.2.2.2.2.2.2.2.2.2.2.2.2.2.2
theorem Mp.nt {k i j x k' y : Nat} (h : Mp k i j x k' y) : k' < 29 ∧ k ≠ 14 ∧ ¬ (k = 3 ∧ x = 0) ∧ ¬ (k = 10 ∧ x ≠ 3) ∧ ¬ (k = 4 ∧ x = 4) ∧ ¬ (k' = 1 ∧ (y = 1 ∨ y = 40)) := by
  unfold Mp at h
  rcases h with ⟨rfl, h1, rfl, h2, rfl, h3⟩ | ⟨rfl, h1, rfl, h2, rfl, h3⟩ | ⟨rfl, h1, rfl, h2, rfl, h3⟩ | ⟨rfl, h1, rfl, h2, rfl, h3⟩ | ⟨rfl, h1, rfl, h2, rfl, h3⟩ | ⟨rfl, h1, rfl, h2, rfl, h3⟩ | ⟨rfl, h1, rfl, h2, rfl, h3⟩ | ⟨rfl, h1, rfl, h2, rfl, h3⟩ | ⟨rfl, h1, rfl, h2, rfl, h3⟩ | ⟨rfl, h1, rfl, h2, rfl, h3⟩ | ⟨rfl, h1, rfl, h2, rfl, h3⟩ | ⟨rfl, h1, rfl, h2, rfl, h3⟩ | ⟨rfl, h1, rfl, h2, rfl, h3⟩ | ⟨rfl, h1, rfl, h2, rfl, h3⟩ | ⟨rfl, h1, rfl, h2, rfl, h3⟩ | ⟨rfl, h1, rfl, h2, rfl, h3⟩ | ⟨rfl, h1, rfl, h2, rfl, h3⟩ | ⟨rfl, h1, rfl, h2, rfl, h3⟩ | ⟨rfl, h1, rfl, h2, rfl, h3⟩ | ⟨rfl, h1, rfl, h2, rfl, h3⟩ | ⟨rfl, h1, rfl, h2, rfl, h3⟩ | ⟨rfl, h1, rfl, h2, rfl, h3⟩ | ⟨rfl, h1, rfl, h2, rfl, h3⟩ | ⟨rfl, h1, rfl, h2, rfl, h3⟩ | ⟨rfl, h1, rfl, h2, rfl, h3⟩ | ⟨rfl, h1, rfl, h2, rfl, h3⟩ | ⟨rfl, h1, rfl, h2, rfl, h3⟩ | ⟨rfl, h1, rfl, h2, rfl, h3⟩ | ⟨rfl, h1, rfl, h2, rfl, h3⟩ | ⟨rfl, h1, rfl, h2, rfl, h3⟩ <;> subst h3 <;> omega
theorem Rel.w {sd : Int32} {S U : St} (h : Rel sd S U) {k i j x k' y : Nat} (hm : Mp k i j x k' y) (h19 : k' ≠ 19) (h28 : k' ≠ 28) (v : Int32) : Rel sd (si S k i j x v) (si U k' 0 0 y v) := by
  have no := hm.nt
  have e1 : ∀ a, 28 < a → ∀ z, (si U k' 0 0 y v).1 a 0 0 z = U.1 a 0 0 z := fun a ha z => by
    rw [si_i, if_neg (fun q => by omega)]
  have e2 : ∀ z, (si U k' 0 0 y v).1 28 0 0 z = U.1 28 0 0 z := fun z => by
    rw [si_i, if_neg (fun q => h28 q.1.symm)]
  have e3 : ∀ z, (si U k' 0 0 y v).1 19 0 0 z = U.1 19 0 0 z := fun z => by
    rw [si_i, if_neg (fun q => h19 q.1.symm)]
  refine (Rel.mk (m := ?_) (id := ?_) (se := ?_) (ow := ?_) (us := h.us) (tr := h.tr) (row := h.row) (inj := h.inj) (msg := ?_) (sg := ?_) (bc := ?_))
  · intro k2 i2 j2 x2 k2' y2 hm2
    rw [si_i, si_i]
    by_cases c : k2 = k ∧ i2 = i ∧ j2 = j ∧ x2 = x
    · have c' := (hm.iff hm2).mp c
      rw [if_pos c, if_pos ⟨c'.1, rfl, rfl, c'.2⟩]
    · rw [if_neg c, if_neg (fun q => c ((hm.iff hm2).mpr ⟨q.1, q.2.2.2⟩))]
      exact h.m hm2
  · intro i' hi'
    rw [si_i, if_neg (fun q => no.2.2.1 ⟨q.1.symm, q.2.2.2.symm⟩)]
    exact h.id i' hi'
  · intro i' hi'
    rw [si_i, if_neg (fun q => no.2.2.2.1 ⟨q.1.symm, fun z => by omega⟩)]
    exact h.se i' hi'
  · intro i' hi'
    rw [si_i, if_neg (fun q => no.2.2.2.1 ⟨q.1.symm, fun z => by omega⟩)]
    exact h.ow i' hi'
  · intro i' hi' k2 hk2 hf f h1 h5
    rw [e2] at hf
    rw [e1 (28 + f) (by omega), si_i, if_neg (fun q => no.2.1 q.1.symm)]
    exact h.msg i' hi' k2 hk2 hf f h1 h5
  · intro i' hi' k2 hk2 hf h3
    rw [e2] at hf
    rw [e1 29 (by omega)] at h3
    exact h.sg i' hi' k2 hk2 hf h3
  · intro i' hi'
    rw [si_i, if_neg (fun q => no.2.2.2.2.1 ⟨q.1.symm, q.2.2.2.symm⟩), h.bc i' hi']
    simp only [e3]
/-- scratch of the reference: what was folded, the signature at hand, its digits, its key, what was thrown -/
abbrev Scw (U U' : St) : Prop := (∀ k y, k ≠ 36 → ¬ (k = 1 ∧ (y = 1 ∨ y = 40)) → U'.1 k 0 0 y = U.1 k 0 0 y) ∧ (∀ k y, ¬ (k = 1 ∧ y = 4) → k ≠ 35 → U'.2.1 k 0 0 y = U.2.1 k 0 0 y)
theorem Scw.mk {U U' : St} (i : ∀ k y, k ≠ 36 → ¬ (k = 1 ∧ (y = 1 ∨ y = 40)) → U'.1 k 0 0 y = U.1 k 0 0 y) (l : ∀ k y, ¬ (k = 1 ∧ y = 4) → k ≠ 35 → U'.2.1 k 0 0 y = U.2.1 k 0 0 y) : Scw U U' := ⟨i, l⟩
theorem Scw.i {U U' : St} (h : Scw U U') : ∀ k y, k ≠ 36 → ¬ (k = 1 ∧ (y = 1 ∨ y = 40)) → U'.1 k 0 0 y = U.1 k 0 0 y := h.1
theorem Scw.l {U U' : St} (h : Scw U U') : ∀ k y, ¬ (k = 1 ∧ y = 4) → k ≠ 35 → U'.2.1 k 0 0 y = U.2.1 k 0 0 y := h.2
theorem Scw.refl (U : St) : Scw U U := ⟨fun _ _ _ _ => rfl, fun _ _ _ _ => rfl⟩
theorem Scw.trans {U V W : St} (h : Scw U V) (g : Scw V W) : Scw U W := ⟨fun k y a b => (g.i k y a b).trans (h.i k y a b), fun k y a b => (g.l k y a b).trans (h.l k y a b)⟩
theorem Scw.thr (U : St) (v : Int32) : Scw U (si U 1 0 0 1 v) := ⟨fun k y _ a => by rw [si_i, if_neg (fun q => a ⟨q.1, Or.inl q.2.2.2⟩)], fun _ _ _ _ => rfl⟩
theorem Scw.k {U U' : St} (h : Scw U U') (k : Nat) (h1 : k ≠ 1 := by decide) (h2 : k ≠ 36 := by decide) : U'.1 k 0 0 = U.1 k 0 0 := funext fun y => h.i k y h2 (fun q => h1 q.1)
theorem Scw.rel {sd : Int32} {S U U' : St} (g : Scw U U') (h : Rel sd S U) : Rel sd S U' := by
  refine (Rel.mk (m := ?_) (id := h.id) (se := h.se) (ow := h.ow) (us := ?_) (tr := ?_) (row := h.row) (inj := h.inj) (msg := ?_) (sg := ?_) (bc := ?_))
  · intro k i j x k' y hm
    have no := hm.nt
    rw [g.i k' y (by omega) no.2.2.2.2.2]
    exact h.m hm
  · rw [g.l 1 0 (by decide) (by decide)]
    exact h.us
  · intro i hi x hx
    rw [g.l 2 _ (fun q => by omega) (by decide)]
    exact h.tr i hi x hx
  · intro i hi k hk hf f h1 h5
    rw [g.k 28] at hf
    rw [g.k (28 + f) (by omega) (by omega)]
    exact h.msg i hi k hk hf f h1 h5
  · intro i hi k hk hf h3 l hl
    rw [g.k 28] at hf
    rw [g.k 29] at h3
    rw [g.l 34 _ (fun q => by omega) (by decide)]
    exact h.sg i hi k hk hf h3 l hl
  · intro i hi
    rw [g.k 19]
    exact h.bc i hi
theorem Scw.ivt {sg : Nat → Nat} {B T : Nat} {U U' : St} (g : Scw U U') (h : Ivt sg B T U) : Ivt sg B T U' := by
  have e11 := g.i 1 11 (by decide) (by decide)
  have e6 := g.i 1 6 (by decide) (by decide)
  apply Ivt.mk
  case hB => exact e11.trans h.hB
  case hT => exact e6.trans h.hT
  case hB1 => exact h.hB1
  case hB2 => exact h.hB2
  case hT2 => exact h.hT2
  case msgs =>
    rw [g.k 28, g.k 18, g.k 7, g.k 29, g.k 30, g.k 31, g.k 32, g.k 33]
    exact h.msgs
  all_goals simp only [g.k 8, g.k 7, g.k 9, g.k 3, g.k 4, g.k 12, g.k 14, g.k 15, g.k 17, g.k 16, g.k 18, g.k 19, g.k 20, g.k 21, g.k 22, g.k 23, g.k 24, g.k 25, g.k 28]
  · exact h.par0
  · exact h.par
  · exact h.vw0
  · exact h.vw
  · exact h.car
  · exact h.fr
  · exact h.to
  · exact h.view
  · exact h.span
  · exact h.high
  · exact h.locked
  · exact h.voted
  · exact h.used
  · exact h.has0
  · exact h.hasB
  · exact h.hasV
  · exact h.votes
  · exact h.votesB
  · exact h.votesM
  · exact h.touts
  · exact h.toutsM
  · exact h.pooled
  · exact h.pool
  · exact h.poolD
  · exact h.logged
  · exact h.log0
  · exact h.log
  · exact h.logP
  · exact h.fly
/-- .. and the same without what was thrown -/
abbrev Scr (U U' : St) : Prop := (∀ k y, k ≠ 36 → ¬ (k = 1 ∧ y = 40) → U'.1 k 0 0 y = U.1 k 0 0 y) ∧ (∀ k y, ¬ (k = 1 ∧ y = 4) → k ≠ 35 → U'.2.1 k 0 0 y = U.2.1 k 0 0 y)
theorem Scr.mk {U U' : St} (i : ∀ k y, k ≠ 36 → ¬ (k = 1 ∧ y = 40) → U'.1 k 0 0 y = U.1 k 0 0 y) (l : ∀ k y, ¬ (k = 1 ∧ y = 4) → k ≠ 35 → U'.2.1 k 0 0 y = U.2.1 k 0 0 y) : Scr U U' := ⟨i, l⟩
theorem Scr.i {U U' : St} (h : Scr U U') : ∀ k y, k ≠ 36 → ¬ (k = 1 ∧ y = 40) → U'.1 k 0 0 y = U.1 k 0 0 y := h.1
theorem Scr.l {U U' : St} (h : Scr U U') : ∀ k y, ¬ (k = 1 ∧ y = 4) → k ≠ 35 → U'.2.1 k 0 0 y = U.2.1 k 0 0 y := h.2
theorem Scr.refl (U : St) : Scr U U := ⟨fun _ _ _ _ => rfl, fun _ _ _ _ => rfl⟩
theorem Scr.trans {U V W : St} (h : Scr U V) (g : Scr V W) : Scr U W := ⟨fun k y a b => (g.i k y a b).trans (h.i k y a b), fun k y a b => (g.l k y a b).trans (h.l k y a b)⟩
theorem Scr.ff (U : St) (v : Int64) : Scr U (fo U v) := ⟨fun _ _ _ _ => rfl, fun k y a _ => by
  unfold fo
  rw [sl_l, if_neg (fun q => a ⟨q.1, q.2.2.2⟩)]⟩
theorem Scr.sgl (U : St) (x : Nat) (v : Int64) : Scr U (sl U 35 0 0 x v) := ⟨fun _ _ _ _ => rfl, fun k y _ a => by rw [sl_l, if_neg (fun q => a q.1)]⟩
theorem Scr.dg (U : St) (x : Nat) (v : Int32) : Scr U (si U 36 0 0 x v) := ⟨fun k y a _ => by rw [si_i, if_neg (fun q => a q.1)], fun _ _ _ _ => rfl⟩
theorem Scr.key (U : St) (v : Int32) : Scr U (si U 1 0 0 40 v) := ⟨fun k y _ a => by rw [si_i, if_neg (fun q => a ⟨q.1, q.2.2.2⟩)], fun _ _ _ _ => rfl⟩
theorem Scr.w {U U' : St} (h : Scr U U') : Scw U U' := ⟨fun k y a b => h.i k y a (fun q => b ⟨q.1, Or.inr q.2⟩), h.l⟩
theorem Scr.k {U U' : St} (h : Scr U U') (k : Nat) (h1 : k ≠ 1 := by decide) (h2 : k ≠ 36 := by decide) : U'.1 k 0 0 = U.1 k 0 0 := funext fun y => h.i k y h2 (fun q => h1 q.1)
theorem Scr.rel {sd : Int32} {S U U' : St} (g : Scr U U') (h : Rel sd S U) : Rel sd S U' := g.w.rel h
theorem Scr.ivt {sg : Nat → Nat} {B T : Nat} {U U' : St} (g : Scr U U') (h : Ivt sg B T U) : Ivt sg B T U' := g.w.ivt h
/-- scratch of the class: the draft and the arrived message -/
abbrev ScS (S S' : St) : Prop := (∀ k i j x, ¬ (k = 14 ∧ i = 4) → S'.1 k i j x = S.1 k i j x) ∧ (∀ k i j x, ¬ (k = 15 ∧ i = 4) → S'.2.1 k i j x = S.2.1 k i j x) ∧ (S'.2.2 = S.2.2)
theorem ScS.mk {S S' : St} (i : ∀ k i j x, ¬ (k = 14 ∧ i = 4) → S'.1 k i j x = S.1 k i j x) (l : ∀ k i j x, ¬ (k = 15 ∧ i = 4) → S'.2.1 k i j x = S.2.1 k i j x) (p : S'.2.2 = S.2.2) : ScS S S' := ⟨i, l, p⟩
theorem ScS.i {S S' : St} (h : ScS S S') : ∀ k i j x, ¬ (k = 14 ∧ i = 4) → S'.1 k i j x = S.1 k i j x := h.1
theorem ScS.l {S S' : St} (h : ScS S S') : ∀ k i j x, ¬ (k = 15 ∧ i = 4) → S'.2.1 k i j x = S.2.1 k i j x := h.2.1
theorem ScS.p {S S' : St} (h : ScS S S') : S'.2.2 = S.2.2 := h.2.2
theorem ScS.refl (S : St) : ScS S S := ⟨fun _ _ _ _ _ => rfl, fun _ _ _ _ _ => rfl, rfl⟩
theorem ScS.trans {U V W : St} (h : ScS U V) (g : ScS V W) : ScS U W := ⟨fun k i j x a => (g.i k i j x a).trans (h.i k i j x a), fun k i j x a => (g.l k i j x a).trans (h.l k i j x a), g.p.trans h.p⟩
theorem ScS.wi (S : St) (j x : Nat) (v : Int32) : ScS S (si S 14 4 j x v) := ⟨fun k i j' x' a => by rw [si_i, if_neg (fun q => a ⟨q.1, q.2.1⟩)], fun _ _ _ _ _ => rfl, rfl⟩
theorem ScS.wl (S : St) (j x : Nat) (v : Int64) : ScS S (sl S 15 4 j x v) := ⟨fun _ _ _ _ _ => rfl, fun k i j' x' a => by rw [sl_l, if_neg (fun q => a ⟨q.1, q.2.1⟩)], rfl⟩
theorem ScS.rel {sd : Int32} {S S' U : St} (g : ScS S S') (h : Rel sd S U) : Rel sd S' U := by
  refine (Rel.mk (m := ?_) (id := ?_) (se := ?_) (ow := ?_) (us := h.us) (tr := ?_) (row := ?_) (inj := ?_) (msg := ?_) (sg := ?_) (bc := ?_))
  · intro k i j x k' y hm
    rw [g.i k i j x (fun q => hm.nt.2.1 q.1)]
    exact h.m hm
  · intro i hi
    rw [g.i _ _ _ _ (fun q => by omega)]
    exact h.id i hi
  · intro i hi
    rw [g.i _ _ _ _ (fun q => by omega)]
    exact h.se i hi
  · intro i hi
    rw [g.i _ _ _ _ (fun q => by omega)]
    exact h.ow i hi
  · intro i hi x hx
    rw [g.l _ _ _ _ (fun q => by omega)]
    exact h.tr i hi x hx
  · rw [g.p]
    exact h.row
  · rw [g.p]
    exact h.inj
  · intro i hi k hk hf f h1 h5
    rw [g.p, g.i _ _ _ _ (fun q => by omega)]
    exact h.msg i hi k hk hf f h1 h5
  · intro i hi k hk hf h3 l hl
    rw [g.p, g.l _ _ _ _ (fun q => by omega)]
    exact h.sg i hi k hk hf h3 l hl
  · intro i hi
    rw [g.i _ _ _ _ (fun q => by omega)]
    exact h.bc i hi
def lF (f : Int64) : Nat := f.toBitVec.toNat
theorem nI_bv (n : Nat) : (nI n).toBitVec = BitVec.ofNat 32 n := rfl
theorem tb15 (i : Nat) : Nat.testBit 15 i = decide (i < 4) := by
  have := Nat.testBit_two_pow_sub_one 4 i
  exact this
theorem dg_ref0 (f : Int64) (k : Nat) (hk : k < 60) (s : Int64) (hs : s.toBitVec.smod 64 = BitVec.ofNat 64 k) : ((f >>> s) &&& 15).toInt32 = nI (lF f / 2 ^ k % 16) := by
  apply Int32.toBitVec_inj.mp
  rw [nI_bv, Int64.toBitVec_toInt32, Int64.toBitVec_and, Int64.toBitVec_shiftRight, hs]
  apply BitVec.eq_of_getLsbD_eq
  intro i hi
  rw [BitVec.signExtend_eq_setWidth_of_le _ (by decide), BitVec.getLsbD_setWidth, BitVec.getLsbD_and, BitVec.sshiftRight_eq', BitVec.getLsbD_sshiftRight, BitVec.getLsbD_ofNat, show (16:Nat) = 2 ^ 4 from rfl, Nat.testBit_mod_two_pow, Nat.testBit_div_two_pow]
  rw [show (15 : Int64).toBitVec = BitVec.ofNat 64 15 from rfl, BitVec.getLsbD_ofNat, tb15]
  by_cases h4 : i < 4
  · have : (BitVec.ofNat 64 k).toNat = k := by rw [BitVec.toNat_ofNat]; omega
    rw [this, if_pos (by omega)]
    have h1 : i < 64 := by omega
    have h2 : ¬ 64 ≤ i := by omega
    simp [h4, hi, lF, BitVec.getLsbD, h1, h2, Nat.add_comm]
  · simp [h4]
example (f : Int64) : ((f >>> (((4:Int32) * nI 2).toInt64 &&& 63)) &&& 15).toInt32 = nI (lF f / 2 ^ 8 % 16) := dg_ref0 f 8 (by decide) _ (by decide)
theorem and15 (n : Nat) : nI n &&& 15 = nI (n % 16) := by
  apply Int32.toBitVec_inj.mp
  rw [nI_bv, Int32.toBitVec_and, nI_bv]
  apply BitVec.eq_of_getLsbD_eq
  intro i hi
  rw [show (15 : Int32).toBitVec = BitVec.ofNat 32 15 from rfl, BitVec.getLsbD_and, BitVec.getLsbD_ofNat, BitVec.getLsbD_ofNat, BitVec.getLsbD_ofNat, tb15, show (16:Nat) = 2 ^ 4 from rfl, Nat.testBit_mod_two_pow]
  simp [hi]
  rw [Bool.and_comm]
theorem ushr (n : Nat) (hn : n < 2 ^ 32) (s : UInt32) (k : Nat) (hk : s.toNat % 32 = k) : ((nI n).toUInt32 >>> s).toInt32 = nI (n / 2 ^ k) := by
  apply Int32.toBitVec_inj.mp
  rw [nI_bv]
  apply BitVec.eq_of_toNat_eq
  show ((nI n).toUInt32 >>> s).toNat = _
  rw [UInt32.toNat_shiftRight, hk, Nat.shiftRight_eq_div_pow, BitVec.toNat_ofNat, show (nI n).toUInt32.toNat = n % 2 ^ 32 from rfl, Nat.mod_eq_of_lt hn, Nat.mod_eq_of_lt]
  exact Nat.lt_of_le_of_lt (Nat.div_le_self _ _) hn
theorem q_digit (n : Nat) (hn : n < 2 ^ 31) (c : Nat) (hc : c < 6) (S : St) : f_KeyTree_digit (nI n) (nI c) S = nI (n / 2 ^ (4 * c) % 16) := by
  unfold f_KeyTree_digit
  rw [ushr n (by omega) _ (4 * c) ((by decide : ∀ c, c < 6 → (((4 : Int32) * nI c).toUInt32 &&& Int32.toUInt32 31).toNat % 32 = 4 * c) c hc), and15]
theorem low16 (f : Int64) : (f &&& (65535 : Int64)).toInt32 = nI (lF f % 65536) := by
  apply Int32.toBitVec_inj.mp
  rw [nI_bv, Int64.toBitVec_toInt32, Int64.toBitVec_and]
  apply BitVec.eq_of_getLsbD_eq
  intro i hi
  rw [BitVec.signExtend_eq_setWidth_of_le _ (by decide), BitVec.getLsbD_setWidth, BitVec.getLsbD_and, BitVec.getLsbD_ofNat, show (65536:Nat) = 2 ^ 16 from rfl, Nat.testBit_mod_two_pow]
  rw [show (65535 : Int64).toBitVec = BitVec.ofNat 64 (2 ^ 16 - 1) from rfl, BitVec.getLsbD_ofNat, Nat.testBit_two_pow_sub_one]
  by_cases h4 : i < 16
  · simp [h4, hi, lF, BitVec.getLsbD]
    omega
  · simp [h4]
theorem orsh (n k : Nat) (hn : n < 65536) (hk : k < 64) : nI n ||| (nI k <<< ((16 : Int32) &&& 31)) = nI (n + k * 65536) := by
  apply Int32.toBitVec_inj.mp
  rw [nI_bv, Int32.toBitVec_or, Int32.toBitVec_shiftLeft, nI_bv, nI_bv]
  apply BitVec.eq_of_toNat_eq
  rw [BitVec.toNat_or, BitVec.shiftLeft_eq', BitVec.toNat_shiftLeft, BitVec.toNat_ofNat, BitVec.toNat_ofNat, BitVec.toNat_ofNat, show ((((16:Int32) &&& 31).toBitVec.smod 32).toNat) = 16 from by decide, Nat.shiftLeft_eq, Nat.mod_eq_of_lt (by omega : n < 2 ^ 32), Nat.mod_eq_of_lt (by omega : k < 2 ^ 32), Nat.mod_eq_of_lt (by omega : k * 2 ^ 16 < 2 ^ 32), Nat.mod_eq_of_lt (by omega : n + k * 65536 < 2 ^ 32)]
  rw [Nat.or_comm, Nat.mul_comm, ← Nat.two_pow_add_eq_or_of_lt (by omega : n < 2 ^ 16)]
  omega
theorem nI_sub {a b : Nat} (h : b ≤ a) : nI a - nI b = nI (a - b) := by
  have e : nI a = nI (a - b) + nI b := by rw [nI_add, Nat.sub_add_cancel h]
  rw [e, Int32.add_sub_cancel]
def dSum (f : Int64) : Nat := lF f / 2 ^ 0 % 16 + lF f / 2 ^ 4 % 16 + lF f / 2 ^ 8 % 16 + lF f / 2 ^ 12 % 16
def dgt (f : Int64) (c : Nat) : Nat := if c < 4 then lF f / 2 ^ (4 * c) % 16 else if c = 4 then (60 - dSum f) % 16 else (60 - dSum f) / 16
theorem dSum_le (f : Int64) : dSum f ≤ 60 := by
  unfold dSum
  omega
theorem dgt_lt (f : Int64) (c : Nat) : dgt f c < 16 := by
  unfold dgt
  split
  · omega
  · split <;> omega
noncomputable def hD (m : Int64) : Int64 := hE (hA hS m)
theorem hD_lit (m : Int64) : hE (hA (-7046029254386353131) m) = hD m := by
  unfold hD hS
  rfl
theorem hD_e (m : Int64) : hE (hA hS m) = hD m := by
  unfold hD
  rfl
theorem q_digits_l (a : Int64) (S : St) (L : Nat) (hL : L < 65536) (n : Nat) : f_KeyTree_digitsOf_21 a (n + 5) S (nI L) 0 0 = nI L ||| (((60 : Int32) - nI (L / 2 ^ 0 % 16 + L / 2 ^ 4 % 16 + L / 2 ^ 8 % 16 + L / 2 ^ 12 % 16)) <<< ((16 : Int32) &&& 31)) ∧ ok_KeyTree_digitsOf_21 a (n + 5) S (nI L) 0 0 := by
  have e0 := q_digit L (by omega) 0 (by decide) S
  have e1 := q_digit L (by omega) 1 (by decide) S
  have e2 := q_digit L (by omega) 2 (by decide) S
  have e3 := q_digit L (by omega) 3 (by decide) S
  rw [show (0 : Int32) = nI 0 from rfl]
  constructor
  · rw [f_KeyTree_digitsOf_21, if_neg (by decide), lt, e0, nI_add, nI_1]
    rw [f_KeyTree_digitsOf_21, if_neg (by decide), lt, e1, nI_add, nI_1]
    rw [f_KeyTree_digitsOf_21, if_neg (by decide), lt, e2, nI_add, nI_1]
    rw [f_KeyTree_digitsOf_21, if_neg (by decide), lt, e3, nI_add, nI_1]
    rw [f_KeyTree_digitsOf_21, if_pos (by decide), Nat.zero_add]
  · rw [ok_KeyTree_digitsOf_21]
    refine ⟨fun q => trivial, fun _ => ?_⟩
    rw [lt, e0, nI_add, nI_1, ok_KeyTree_digitsOf_21]
    refine ⟨fun q => trivial, fun _ => ?_⟩
    rw [lt, e1, nI_add, nI_1, ok_KeyTree_digitsOf_21]
    refine ⟨fun q => trivial, fun _ => ?_⟩
    rw [lt, e2, nI_add, nI_1, ok_KeyTree_digitsOf_21]
    refine ⟨fun q => trivial, fun _ => ?_⟩
    rw [lt, e3, nI_add, nI_1, ok_KeyTree_digitsOf_21]
    exact ⟨fun q => trivial, fun q => absurd (by decide) q⟩
theorem q_digits (m : Int64) (S : St) : f_KeyTree_digitsOf m S = nI (lF (hD m) % 65536 + (60 - dSum (hD m)) * 65536) ∧ ok_KeyTree_digitsOf m S := by
  have hs := dSum_le (hD m)
  unfold f_KeyTree_digitsOf ok_KeyTree_digitsOf
  rw [lt, lt, lt, lt, q_absorb, q_finish, hD_lit, low16]
  generalize hD m = f at hs
  have a := q_digits_l m S (lF f % 65536) (by omega) 195
  refine ⟨a.1.trans ?_, a.2⟩
  have e : lF f % 65536 / 2 ^ 0 % 16 + lF f % 65536 / 2 ^ 4 % 16 + lF f % 65536 / 2 ^ 8 % 16 + lF f % 65536 / 2 ^ 12 % 16 = dSum f := by
    unfold dSum
    simp
    omega
  rw [e, show (60 : Int32) = nI 60 from rfl, nI_sub hs, orsh _ _ (by omega) (by omega)]
theorem q_dig (m : Int64) (c : Nat) (hc : c < 6) (S S' : St) : f_KeyTree_digit (f_KeyTree_digitsOf m S) (nI c) S' = nI (dgt (hD m) c) := by
  have hs := dSum_le (hD m)
  rw [(q_digits m S).1, q_digit _ (by omega) c hc]
  congr 1
  unfold dgt
  generalize lF (hD m) = n at *
  generalize dSum (hD m) = k at *
  rcases (by omega : c = 0 ∨ c = 1 ∨ c = 2 ∨ c = 3 ∨ c = 4 ∨ c = 5) with rfl | rfl | rfl | rfl | rfl | rfl <;> simp <;> omega
theorem si_rd (S : St) (k i j x : Nat) (v : Int32) : (si S k i j x v).1 k i j x = v := by
  rw [si_i, if_pos ⟨rfl, rfl, rfl, rfl⟩]
theorem d16 : ∀ k, k < 61 → nI k / (16 : Int32) = nI (k / 16) ∧ nI k - nI (k / 16) * (16 : Int32) = nI (k % 16) := by decide +kernel
/-- the reference's digits: state behind them -/
def digW (U : St) (f : Int64) : St := si (si (si (si (si (si U 36 0 0 0 (nI (dgt f 0))) 36 0 0 1 (nI (dgt f 1))) 36 0 0 2 (nI (dgt f 2))) 36 0 0 3 (nI (dgt f 3))) 36 0 0 4 (nI (dgt f 4))) 36 0 0 5 (nI (dgt f 5))
theorem m_dig_l (a f : Int64) (V : St) (n : Nat) : f_M_digitsOf_21 a (n + 5) V f 60 0 = digW V f ∧ ok_M_digitsOf_21 a (n + 5) V f 60 0 := by
  have hs := dSum_le f
  have r : ∀ c, c < 4 → ((f >>> (((4 : Int32) * nI c).toInt64 &&& 63)) &&& (15 : Int64)).toInt32 = nI (dgt f c) := by
    intro c hc
    unfold dgt
    rw [if_pos hc]
    rcases (by omega : c = 0 ∨ c = 1 ∨ c = 2 ∨ c = 3) with rfl | rfl | rfl | rfl
    · exact dg_ref0 f 0 (by decide) _ (by decide)
    · exact dg_ref0 f 4 (by decide) _ (by decide)
    · exact dg_ref0 f 8 (by decide) _ (by decide)
    · exact dg_ref0 f 12 (by decide) _ (by decide)
  have hd : dgt f 0 + dgt f 1 + dgt f 2 + dgt f 3 = dSum f := by
    unfold dgt dSum
    simp
  have l0 : (60 : Int32) - nI (dgt f 0) - nI (dgt f 1) - nI (dgt f 2) - nI (dgt f 3) = nI (60 - dSum f) := by
    rw [show (60 : Int32) = nI 60 from rfl, nI_sub (by omega), nI_sub (by omega), nI_sub (by omega), nI_sub (by omega)]
    congr 1
    omega
  have d4 := (d16 (60 - dSum f) (by omega))
  have g4 : nI ((60 - dSum f) % 16) = nI (dgt f 4) := by unfold dgt; simp
  have g5 : nI ((60 - dSum f) / 16) = nI (dgt f 5) := by unfold dgt; simp
  have r0 := r 0 (by decide)
  have r1 := r 1 (by decide)
  have r2 := r 2 (by decide)
  have r3 := r 3 (by decide)
  have q4 : ∀ c, c < 4 → vp_in (nI c) 6 := fun c hc => vp_in_nI (by omega) (by decide)
  rw [show (0 : Int32) = nI 0 from rfl]
  constructor
  · rw [f_M_digitsOf_21, if_neg (by decide), lt, nI_1, nI_clamp (by decide), si_rd, r0]
    rw [f_M_digitsOf_21, if_neg (by decide), lt, nI_1, nI_clamp (by decide), si_rd, r1]
    rw [f_M_digitsOf_21, if_neg (by decide), lt, nI_1, nI_clamp (by decide), si_rd, r2]
    rw [f_M_digitsOf_21, if_neg (by decide), lt, nI_1, nI_clamp (by decide), si_rd, r3]
    rw [f_M_digitsOf_21, if_pos (by decide), lt, lt, l0, d4.1, d4.2, g4, g5]
    rfl
  · rw [ok_M_digitsOf_21]
    refine ⟨fun q => trivial, fun _ => ⟨q4 0 (by decide), q4 0 (by decide), ?_⟩⟩
    rw [nI_1, ok_M_digitsOf_21]
    refine ⟨fun q => trivial, fun _ => ⟨q4 1 (by decide), q4 1 (by decide), ?_⟩⟩
    rw [nI_1, ok_M_digitsOf_21]
    refine ⟨fun q => trivial, fun _ => ⟨q4 2 (by decide), q4 2 (by decide), ?_⟩⟩
    rw [nI_1, ok_M_digitsOf_21]
    refine ⟨fun q => trivial, fun _ => ⟨q4 3 (by decide), q4 3 (by decide), ?_⟩⟩
    rw [nI_1, ok_M_digitsOf_21]
    exact ⟨fun q => trivial, fun q => absurd (by decide) q⟩
theorem m_dig (m : Int64) (U : St) : f_M_digitsOf m U = digW (fo U (hA hS m)) (hD m) ∧ ok_M_digitsOf m U := by
  unfold f_M_digitsOf ok_M_digitsOf
  rw [lt, lt, lt, lt, lt, lt, m_start, m_add_fo, m_end_fo, hD_e]
  exact m_dig_l m (hD m) (fo U (hA hS m)) 195
/-! Signing and checking: both sides as one function. -/
noncomputable def mean (k v b : Int32) : Int64 := if k = 3 then h3 3 v.toInt64 b.toInt64 else h2 k.toInt64 b.toInt64
theorem q_mean (i j : Nat) (S : St) : f_Message_meaning i j S = mean (S.1 14 i j 1) (S.1 14 i j 4) (S.1 14 i j 3) ∧ ok_Message_meaning i j S := by
  unfold f_Message_meaning ok_Message_meaning mean
  simp only [lt, f_Message_meaning_30, q_absorb, q_finish]
  constructor
  · by_cases h : S.1 14 i j 1 = 3
    · rw [if_pos h, if_pos h, h]
      unfold h3 hS
      rfl
    · rw [if_neg h, if_neg h]
      unfold h2 hS
      rfl
  · exact ⟨fun _ => trivial, fun _ => trivial⟩
theorem m_mean (k v b : Int32) (U : St) : ∃ z, f_M_meant k v b U = (mean k v b, fo U z) := by
  unfold f_M_meant mean
  by_cases h : k = 3
  · rw [if_pos h, if_pos h, lt, m_three]
    exact ⟨_, rfl⟩
  · rw [if_neg h, if_neg h, lt, m_two]
    exact ⟨_, rfl⟩
theorem m_after_ok_l (a0 : Int64) {k : Nat} (hk : k < 2 ^ 30) (n : Nat) : ∀ (j : Nat) (v : Int64) (U : St), j ≤ k → k - j < n → ok_M_after_6 a0 (nI k) n U v (nI j) := by
  induction n with
  | zero => exact fun j v U _ h => absurd h (Nat.not_lt_zero _)
  | succ n ih =>
    intro j v U hj h
    rw [ok_M_after_6]
    refine ⟨fun _ => trivial, fun q => ?_⟩
    have hjk : j < k := Nat.lt_of_not_le (fun z => q ((nI_leI (by omega) (by omega)).mpr z))
    rw [lt, nI_s]
    exact ih (j + 1) _ _ (by omega) (by omega)
theorem m_after_ok (v : Int64) (U : St) {k : Nat} (hk : k < 200) : ok_M_after v (nI k) U := m_after_ok_l v (by omega) 200 0 v U (Nat.zero_le _) (by omega)
def sib (n : Nat) : Nat := if n % 2 = 0 then n + 1 else n - 1
noncomputable def sigF (sd : Int64) (tr : Nat → Int64) (i u : Nat) (m : Int64) (l : Nat) : Int64 := if l < 6 then hIt (dgt (hD m) l) (hSec sd (nI i) (nI u) (nI l)) else tr (sib ((32 + u) / 2 ^ (l - 6)))
theorem sib_lt {n : Nat} (h : n < 64) : sib n < 64 := by
  unfold sib
  split <;> omega
theorem q_sib : ∀ n, n < 64 → (nI n ^^^ (1 : Int32)).toNatClampNeg = sib n ∧ ¬ (nI n ^^^ (1 : Int32)) < 0 ∧ nI n >>> ((1 : Int32) &&& 31) = nI (n / 2) ∧ nI n / (2 : Int32) = nI (n / 2) ∧ (nI n - nI (n / 2) * (2 : Int32) = 0 ↔ n % 2 = 0) ∧ (nI n &&& (1 : Int32) = 0 ↔ n % 2 = 0) := by decide +kernel
theorem lit6 (r : Nat) : (6 : Int32) + nI r = nI (6 + r) := nI_add 6 r
theorem lit32 (r : Nat) : (32 : Int32) + nI r = nI (32 + r) := nI_add 32 r
theorem lit15 {r : Nat} (h : r ≤ 15) : (15 : Int32) - nI r = nI (15 - r) := nI_sub h
/-- the class's longs: all but the two loose messages are kept -/
abbrev EqL (S V : St) : Prop := (V.1 = S.1) ∧ (V.2.2 = S.2.2) ∧ (∀ k i j x, ¬ (k = 15 ∧ i = 4 ∧ j = 0) → V.2.1 k i j x = S.2.1 k i j x)
theorem EqL.mk {S V : St} (i : V.1 = S.1) (p : V.2.2 = S.2.2) (l : ∀ k i j x, ¬ (k = 15 ∧ i = 4 ∧ j = 0) → V.2.1 k i j x = S.2.1 k i j x) : EqL S V := ⟨i, p, l⟩
theorem EqL.i {S V : St} (h : EqL S V) : V.1 = S.1 := h.1
theorem EqL.p {S V : St} (h : EqL S V) : V.2.2 = S.2.2 := h.2.1
theorem EqL.l {S V : St} (h : EqL S V) : ∀ k i j x, ¬ (k = 15 ∧ i = 4 ∧ j = 0) → V.2.1 k i j x = S.2.1 k i j x := h.2.2
theorem EqL.sl {S V : St} (h : EqL S V) (x : Nat) (v : Int64) : EqL S (sl V 15 4 0 x v) := ⟨h.i, h.p, fun k i j y a => by
  rw [sl_l, if_neg (fun q => a ⟨q.1, q.2.1, q.2.2.1⟩)]
  exact h.l k i j y a⟩
theorem q_sign90 (S : St) (i : Nat) (hi : i < 4) (A : Nat) (hA : A < 64) (g : Nat → Int64) (n : Nat) : ∀ (r : Nat) (V : St), r ≤ 5 → 5 - r < n → EqL S V → (∀ l, l < 6 + r → V.2.1 15 4 0 l = g l) → (∀ r, r < 5 → g (6 + r) = S.2.1 11 i 0 (sib (A / 2 ^ r))) → ∃ V', f_KeyTree_sign_90 i 4 0 n V (nI (A / 2 ^ r)) (nI r) = (1, V') ∧ EqL S V' ∧ (∀ l, l < 11 → V'.2.1 15 4 0 l = g l) ∧ ok_KeyTree_sign_90 i 4 0 n V (nI (A / 2 ^ r)) (nI r) := by
  induction n with
  | zero => exact fun r V _ h => absurd h (Nat.not_lt_zero _)
  | succ n ih =>
    intro r V hr hn hV hg hG
    rw [f_KeyTree_sign_90, ok_KeyTree_sign_90]
    by_cases h5 : r = 5
    · subst h5
      rw [if_pos (by decide)]
      exact ⟨V, rfl, hV, hg, fun _ => trivial, fun q => absurd (by decide) q⟩
    · have hr5 : r < 5 := by omega
      have c : ¬ (5 : Int32) ≤ nI r := fun q => by
        have := (nI_leI (a := 5) (b := r) (by omega) (by omega)).mp q
        omega
      have hlt : A / 2 ^ r < 64 := Nat.lt_of_le_of_lt (Nat.div_le_self _ _) hA
      have sb := q_sib _ hlt
      have sl6 := sib_lt hlt
      rw [if_neg c, lt, lit6, nI_clamp (by omega), sb.1, sb.2.2.1, nI_s, hV.l 11 i 0 _ (fun q => by omega), ← hG r hr5, Nat.div_div_eq_div_mul, ← Nat.pow_succ]
      obtain ⟨V', e, a, b, o⟩ := ih (r + 1) (sl V 15 4 0 (6 + r) (g (6 + r))) (by omega) (by omega) (hV.sl _ _) (fun l hl => by
        rw [sl_l]
        by_cases hx : l = 6 + r
        · rw [if_pos ⟨rfl, rfl, rfl, hx⟩, hx]
        · rw [if_neg (fun q => hx q.2.2.2)]
          exact hg l (by omega)) hG
      refine ⟨V', e, a, b, fun q => absurd q c, fun _ => ⟨?_, vp_in_nI (by omega) (by decide), o⟩⟩
      unfold vp_in
      rw [sb.1]
      intro q
      rcases q with q | q
      · exact sb.2.1 q
      · omega
theorem q_sign37 (S : St) (sd : Int32) (i u : Nat) (m : Int64) (D : Int32) (hi : i < 4) (hu : u < 32) (e1 : S.1 10 i 0 1 = sd) (e2 : S.1 10 i 0 2 = nI i) (e5 : S.1 14 4 0 5 = nI u) (hd : ∀ c S', c < 6 → f_KeyTree_digit D (nI c) S' = nI (dgt (hD m) c)) (n : Nat) : ∀ (c : Nat) (V : St), c ≤ 6 → 6 - c < n → EqL S V → (∀ l, l < c → V.2.1 15 4 0 l = sigF sd.toInt64 (S.2.1 11 i 0) i u m l) → ∃ V', f_KeyTree_sign_37 i 4 0 n V D (nI c) = (1, V') ∧ EqL S V' ∧ (∀ l, l < 11 → V'.2.1 15 4 0 l = sigF sd.toInt64 (S.2.1 11 i 0) i u m l) ∧ ok_KeyTree_sign_37 i 4 0 n V D (nI c) := by
  induction n with
  | zero => exact fun r V _ h => absurd h (Nat.not_lt_zero _)
  | succ n ih =>
    intro c V hc hn hV hg
    rw [f_KeyTree_sign_37, ok_KeyTree_sign_37]
    by_cases h6 : c = 6
    · subst h6
      rw [if_pos (by decide), hV.i, e5, lit32]
      obtain ⟨V', e, a, b, o⟩ := q_sign90 S i hi (32 + u) (by omega) (sigF sd.toInt64 (S.2.1 11 i 0) i u m) 200 0 V (by omega) (by omega) hV hg (fun r hr => by
        unfold sigF
        rw [if_neg (by omega), Nat.add_sub_cancel_left])
      rw [Nat.pow_zero, Nat.div_one] at e o
      exact ⟨V', e, a, b, fun _ => o, fun q => absurd (by decide) q⟩
    · have hc6 : c < 6 := by omega
      have cc : ¬ (6 : Int32) ≤ nI c := fun q => by
        have := (nI_leI (a := 6) (b := c) (by omega) (by omega)).mp q
        omega
      have dl := dgt_lt (hD m) c
      rw [if_neg cc, lt, lt, lt, lt, lt, lt, lt, lt, hd c V hc6, hV.i, e1, e2, e5, q_secret, q_after _ _ (by omega), nI_clamp (by omega), nI_s]
      obtain ⟨V', e, a, b, o⟩ := ih (c + 1) (sl V 15 4 0 c (hIt (dgt (hD m) c) (hSec sd.toInt64 (nI i) (nI u) (nI c)))) (by omega) (by omega) (hV.sl _ _) (fun l hl => by
        rw [sl_l]
        by_cases hx : l = c
        · rw [if_pos ⟨rfl, rfl, rfl, hx⟩, hx]
          unfold sigF
          rw [if_pos hc6]
        · rw [if_neg (fun q => hx q.2.2.2)]
          exact hg l (by omega))
      exact ⟨V', e, a, b, fun q => absurd q cc, fun _ => ⟨q_after_ok _ _ (by omega), vp_in_nI (by omega) (by decide), o⟩⟩
theorem q_sign (S : St) (sd : Int32) (i u : Nat) (hi : i < 4) (hu : u < 32) (e1 : S.1 10 i 0 1 = sd) (e2 : S.1 10 i 0 2 = nI i) (e3 : S.1 10 i 0 3 = nI u) : ∃ V, f_KeyTree_sign i 4 0 S = (1, V) ∧ EqL (si (si S 14 4 0 5 (nI u)) 10 i 0 3 (nI (u + 1))) V ∧ (∀ l, l < 11 → V.2.1 15 4 0 l = sigF sd.toInt64 (S.2.1 11 i 0) i u (mean (S.1 14 4 0 1) (S.1 14 4 0 4) (S.1 14 4 0 3)) l) ∧ ok_KeyTree_sign i 4 0 S := by
  have el : f_KeyTree_isLeft i S = 1 := by
    unfold f_KeyTree_isLeft
    rw [e3, if_neg (fun q => by
      have := (nI_leI (a := 32) (b := u) (by omega) (by omega)).mp q
      omega)]
  unfold f_KeyTree_sign ok_KeyTree_sign
  rw [lt, lt, el, if_neg (by decide), lt, lt, lt, lt, lt, lt, e3]
  have e4 : (si S 14 4 0 5 (nI u)).1 10 i 0 3 = nI u := by
    rw [si_i, if_neg (fun q => by omega), e3]
  rw [e4, nI_s]
  obtain ⟨W, hW⟩ : ∃ W, W = si (si S 14 4 0 5 (nI u)) 10 i 0 3 (nI (u + 1)) := ⟨_, rfl⟩
  rw [← hW]
  have m := q_mean 4 0 W
  have k : ∀ x, x ≠ 5 → W.1 14 4 0 x = S.1 14 4 0 x := fun x hx => by
    rw [hW, si_i, if_neg (fun q => by omega), si_i, if_neg (fun q => hx q.2.2.2)]
  rw [k 1 (by decide), k 4 (by decide), k 3 (by decide)] at m
  rw [lt, lt, m.1]
  have d := q_digits (mean (S.1 14 4 0 1) (S.1 14 4 0 4) (S.1 14 4 0 3)) W
  obtain ⟨V, e, a, b, o⟩ := q_sign37 W sd i u (mean (S.1 14 4 0 1) (S.1 14 4 0 4) (S.1 14 4 0 3)) _ hi hu (by rw [hW, si_i, if_neg (fun q => by omega), si_i, if_neg (fun q => by omega), e1]) (by rw [hW, si_i, if_neg (fun q => by omega), si_i, if_neg (fun q => by omega), e2]) (by rw [hW, si_i, if_neg (fun q => by omega), si_rd]) (fun c S' hc => q_dig _ c hc W S') 200 0 W (by omega) (by omega) ⟨rfl, rfl, fun _ _ _ _ _ => rfl⟩ (fun l hl => absurd hl (Nat.not_lt_zero _))
  refine ⟨V, e, a, ?_, fun q => absurd q (by decide), fun _ => ⟨m.2, d.2, o⟩⟩
  rw [hW] at b
  exact b
theorem digW_scr (U : St) (f : Int64) : Scr U (digW U f) := by
  unfold digW
  exact ((((((Scr.dg _ _ _).trans (Scr.dg _ _ _)).trans (Scr.dg _ _ _)).trans (Scr.dg _ _ _)).trans (Scr.dg _ _ _)).trans (Scr.dg _ _ _))
theorem digW_d (U : St) (f : Int64) (c : Nat) (hc : c < 6) : (digW U f).1 36 0 0 c = nI (dgt f c) := by
  unfold digW
  simp only [si_i]
  rcases (by omega : c = 0 ∨ c = 1 ∨ c = 2 ∨ c = 3 ∨ c = 4 ∨ c = 5) with rfl | rfl | rfl | rfl | rfl | rfl <;> simp
theorem digW_l (U : St) (f : Int64) : (digW U f).2 = U.2 := rfl
theorem digW_1 (U : St) (f : Int64) : (digW U f).1 1 = U.1 1 := rfl
theorem fo_l (U : St) (v : Int64) (k y : Nat) (h : ¬ (k = 1 ∧ y = 4)) : (fo U v).2.1 k 0 0 y = U.2.1 k 0 0 y := by
  unfold fo
  rw [sl_l, if_neg (fun q => h ⟨q.1, q.2.2.2⟩)]
theorem fo_1 (U : St) (v : Int64) : (fo U v).1 = U.1 := rfl
theorem ix64 (i n : Nat) : (64 : Int32) * nI i + nI n = nI (64 * i + n) := by
  rw [show (64 : Int32) = nI 64 from rfl, nI_m, nI_add]
theorem m_sign99 (U0 : St) (i u : Nat) (hi : i < 4) (a2 : Int64) (A : Nat) (hA : A < 64) (hA1 : 32 ≤ A) (g : Nat → Int64) (n : Nat) : ∀ (r : Nat) (V : St), r ≤ 5 → 5 - r < n → Scr U0 V → V.1 1 0 0 40 = nI u → (∀ l, l < 6 + r → V.2.1 35 0 0 l = g l) → (∀ r, r < 5 → g (6 + r) = U0.2.1 2 0 0 (64 * i + sib (A / 2 ^ r))) → ∃ V', f_M_signs_99 (nI i) a2 n V (nI (A / 2 ^ r)) (nI r) = (1, V') ∧ Scr U0 V' ∧ V'.1 1 0 0 40 = nI u ∧ (∀ l, l < 11 → V'.2.1 35 0 0 l = g l) ∧ ok_M_signs_99 (nI i) a2 n V (nI (A / 2 ^ r)) (nI r) := by
  induction n with
  | zero => exact fun r V _ h => absurd h (Nat.not_lt_zero _)
  | succ n ih =>
    intro r V hr hn hV hu hg hG
    rw [f_M_signs_99, ok_M_signs_99]
    by_cases h5 : r = 5
    · subst h5
      rw [if_pos (by decide)]
      exact ⟨V, rfl, hV, hu, hg, fun _ => trivial, fun q => absurd (by decide) q⟩
    · have hr5 : r < 5 := by omega
      have c : ¬ (5 : Int32) ≤ nI r := fun q => by
        have := (nI_leI (a := 5) (b := r) (by omega) (by omega)).mp q
        omega
      have hlt : A / 2 ^ r < 64 := Nat.lt_of_le_of_lt (Nat.div_le_self _ _) hA
      have h2 : 2 ≤ A / 2 ^ r := by
        rcases (by omega : r = 0 ∨ r = 1 ∨ r = 2 ∨ r = 3 ∨ r = 4) with rfl | rfl | rfl | rfl | rfl <;> simp <;> omega
      have sb := q_sib _ hlt
      have sl6 := sib_lt hlt
      have go := ih (r + 1) (sl V 35 0 0 (6 + r) (g (6 + r))) (by omega) (by omega) (hV.trans (Scr.sgl _ _ _)) hu (fun l hl => by
        rw [sl_l]
        by_cases hx : l = 6 + r
        · rw [if_pos ⟨rfl, rfl, rfl, hx⟩, hx]
        · rw [if_neg (fun q => hx q.2.2.2)]
          exact hg l (by omega)) hG
      rw [Nat.pow_succ, ← Nat.div_div_eq_div_mul] at go
      obtain ⟨V', e, a, b, d, o⟩ := go
      have gl : V.2.1 2 0 0 (64 * i + sib (A / 2 ^ r)) = g (6 + r) := by rw [hV.l 2 _ (fun q => by omega) (by decide), hG r hr5]
      have ie : vp_in (nI (6 + r)) 11 := vp_in_nI (by omega) (by decide)
      have it : vp_in (nI (64 * i + sib (A / 2 ^ r))) 256 := vp_in_nI (by omega) (by decide)
      rw [if_neg c, sb.2.2.2.1, lit6, nI_s r]
      by_cases hz : A / 2 ^ r % 2 = 0
      · have ez : sib (A / 2 ^ r) = A / 2 ^ r + 1 := by unfold sib; rw [if_pos hz]
        rw [if_pos (sb.2.2.2.2.1.mpr hz), lt, nI_s (A / 2 ^ r), ix64, ← ez, nI_clamp (by omega), nI_clamp (by omega), gl]
        exact ⟨V', e, a, b, d, fun q => absurd q c, fun _ => ⟨fun _ => ⟨it, ie, o⟩, fun q => absurd (sb.2.2.2.2.1.mpr hz) q⟩⟩
      · have ez : sib (A / 2 ^ r) = A / 2 ^ r - 1 := by unfold sib; rw [if_neg hz]
        have e1 : nI (A / 2 ^ r) - 1 = nI (sib (A / 2 ^ r)) := by
          rw [ez]
          exact nI_sub (b := 1) (by omega)
        rw [if_neg (fun q => hz (sb.2.2.2.2.1.mp q)), lt, e1, ix64, nI_clamp (by omega), nI_clamp (by omega), gl]
        exact ⟨V', e, a, b, d, fun q => absurd q c, fun _ => ⟨fun q => absurd (sb.2.2.2.2.1.mp q) hz, fun _ => ⟨it, ie, o⟩⟩⟩
theorem m_sign41 (U0 : St) (i u : Nat) (hi : i < 4) (hu : u < 32) (a2 m : Int64) (n : Nat) : ∀ (c : Nat) (V : St), c ≤ 6 → 6 - c < n → Scr U0 V → V.1 1 0 0 40 = nI u → (∀ c, c < 6 → V.1 36 0 0 c = nI (dgt (hD m) c)) → (∀ l, l < c → V.2.1 35 0 0 l = sigF (U0.2.1 1 0 0 0) (fun x => U0.2.1 2 0 0 (64 * i + x)) i u m l) → ∃ V', f_M_signs_41 (nI i) a2 n V (nI c) = (1, V') ∧ Scr U0 V' ∧ V'.1 1 0 0 40 = nI u ∧ (∀ l, l < 11 → V'.2.1 35 0 0 l = sigF (U0.2.1 1 0 0 0) (fun x => U0.2.1 2 0 0 (64 * i + x)) i u m l) ∧ ok_M_signs_41 (nI i) a2 n V (nI c) := by
  induction n with
  | zero => exact fun r V _ h => absurd h (Nat.not_lt_zero _)
  | succ n ih =>
    intro c V hc hn hV h40 hd hg
    rw [f_M_signs_41, ok_M_signs_41]
    by_cases h6 : c = 6
    · subst h6
      rw [if_pos (by decide), h40, lit32]
      obtain ⟨V', e, a, b, d, o⟩ := m_sign99 U0 i u hi a2 (32 + u) (by omega) (by omega) (sigF (U0.2.1 1 0 0 0) (fun x => U0.2.1 2 0 0 (64 * i + x)) i u m) 200 0 V (by omega) (by omega) hV h40 hg (fun r hr => by
        unfold sigF
        rw [if_neg (by omega), Nat.add_sub_cancel_left])
      rw [Nat.pow_zero, Nat.div_one] at e o
      exact ⟨V', e, a, b, d, fun _ => o, fun q => absurd (by decide) q⟩
    · have hc6 : c < 6 := by omega
      have cc : ¬ (6 : Int32) ≤ nI c := fun q => by
        have := (nI_leI (a := 6) (b := c) (by omega) (by omega)).mp q
        omega
      have dl := dgt_lt (hD m) c
      rw [if_neg cc, lt, lt, h40, m_secret]
      generalize hz : hA (hA (hA (hA hS (V.2.1 1 0 0 0)) (nI i).toInt64) (nI u).toInt64) (nI c).toInt64 = z
      obtain ⟨z2, e2⟩ := m_after (hSec (V.2.1 1 0 0 0) (nI i) (nI u) (nI c)) (fo V z) (k := dgt (hD m) c) (by omega)
      rw [lt, lt, lt, lt]
      rw [show ((hSec (V.2.1 1 0 0 0) (nI i) (nI u) (nI c), fo V z) : Int64 × St).2.1 36 0 0 (nI c).toNatClampNeg = nI (dgt (hD m) c) by
        rw [nI_clamp (by omega)]
        exact hd c hc6]
      rw [show f_M_after ((hSec (V.2.1 1 0 0 0) (nI i) (nI u) (nI c), fo V z) : Int64 × St).1 (nI (dgt (hD m) c)) ((hSec (V.2.1 1 0 0 0) (nI i) (nI u) (nI c), fo V z) : Int64 × St).2 = _ from e2, nI_clamp (by omega), nI_s, fo_fo]
      have e0 : V.2.1 1 0 0 0 = U0.2.1 1 0 0 0 := hV.l 1 0 (by decide) (by decide)
      obtain ⟨V', e, a, b, d, o⟩ := ih (c + 1) (sl (fo V z2) 35 0 0 c (hIt (dgt (hD m) c) (hSec (V.2.1 1 0 0 0) (nI i) (nI u) (nI c)))) (by omega) (by omega) (hV.trans ((Scr.ff _ _).trans (Scr.sgl _ _ _))) h40 hd (fun l hl => by
        rw [sl_l]
        by_cases hx : l = c
        · rw [if_pos ⟨rfl, rfl, rfl, hx⟩, hx]
          unfold sigF
          rw [if_pos hc6, e0]
        · rw [if_neg (fun q => hx q.2.2.2), fo_l _ _ _ _ (by omega)]
          exact hg l (by omega))
      exact ⟨V', e, a, b, d, fun q => absurd q cc, fun _ => ⟨vp_in_nI (by omega) (by decide), m_after_ok _ _ (by omega), vp_in_nI (by omega) (by decide), o⟩⟩
theorem m_sign (U : St) (i u : Nat) (hi : i < 4) (hu : u < 32) (m : Int64) (e3 : U.1 18 0 0 i = nI u) : ∃ V, f_M_signs (nI i) m U = (1, V) ∧ Scr (si U 18 0 0 i (nI (u + 1))) V ∧ V.1 1 0 0 40 = nI u ∧ (∀ l, l < 11 → V.2.1 35 0 0 l = sigF (U.2.1 1 0 0 0) (fun x => U.2.1 2 0 0 (64 * i + x)) i u m l) ∧ ok_M_signs (nI i) m U := by
  unfold f_M_signs ok_M_signs
  have i4 : vp_in (nI i) 4 := vp_in_nI hi (by decide)
  have c : ¬ nI u = (32 : Int32) := fun q => by
    have := (nI_eq (a := u) (b := 32) (by omega) (by omega)).mp q
    omega
  rw [nI_clamp (by omega), e3, if_neg c, lt, lt, lt, lt, lt, lt]
  have e4 : (si U 1 0 0 40 (nI u)).1 18 0 0 i = nI u := by rw [si_i, if_neg (fun q => by omega), e3]
  rw [e4, nI_s]
  have md := m_dig m (si (si U 1 0 0 40 (nI u)) 18 0 0 i (nI (u + 1)))
  rw [md.1]
  obtain ⟨V, e, a, b, d, o⟩ := m_sign41 (si U 18 0 0 i (nI (u + 1))) i u hi hu m m 200 0 (digW (fo (si (si U 1 0 0 40 (nI u)) 18 0 0 i (nI (u + 1))) (hA hS m)) (hD m)) (by omega) (by omega) (by
    refine Scr.trans ?_ ((Scr.ff _ _).trans (digW_scr _ _))
    refine ⟨fun k y h1 h2 => ?_, fun _ _ _ _ => rfl⟩
    rw [si_i, si_i, si_i, if_neg (c := k = 1 ∧ _) (fun q => h2 ⟨q.1, q.2.2.2⟩)]) (by
    rw [digW_1, fo_1, si_i, if_neg (fun q => by omega), si_rd]) (fun c hc => digW_d _ _ c hc) (fun l hl => absurd hl (Nat.not_lt_zero _))
  exact ⟨V, e, a, b, d, i4, fun q => absurd q c, fun _ => ⟨i4, i4, i4, md.2, o⟩⟩
theorem m_sign0 (U : St) (i : Nat) (hi : i < 4) (m : Int64) (e3 : U.1 18 0 0 i = nI 32) : f_M_signs (nI i) m U = (0, U) ∧ ok_M_signs (nI i) m U := by
  unfold f_M_signs ok_M_signs
  have i4 : vp_in (nI i) 4 := vp_in_nI hi (by decide)
  rw [nI_clamp (by omega), e3, if_pos (by decide)]
  exact ⟨rfl, i4, fun _ => trivial, fun q => absurd (by decide) q⟩
theorem q_sign0 (S : St) (i : Nat) (e3 : S.1 10 i 0 3 = nI 32) : f_KeyTree_sign i 4 0 S = (0, S) ∧ ok_KeyTree_sign i 4 0 S := by
  have el : f_KeyTree_isLeft i S = 0 := by
    unfold f_KeyTree_isLeft
    rw [e3, if_pos (by decide)]
  unfold f_KeyTree_sign ok_KeyTree_sign
  rw [lt, lt, el, if_pos rfl]
  exact ⟨rfl, fun _ => trivial, fun q => absurd rfl q⟩
noncomputable def endF (sig : Nat → Int64) (m : Int64) : Int64 := hE (hCh (fun c => hIt (15 - dgt (hD m) c) (sig c)) 6 0 hS)
noncomputable def upF (sig : Nat → Int64) (u : Nat) (n : Nat) : Nat → Int64 → Int64 := Nat.rec (fun _ v => v) (fun _ R r v => R (r + 1) (if (32 + u) / 2 ^ r % 2 = 0 then h2 v (sig (6 + r)) else h2 (sig (6 + r)) v)) n
theorem upF_0 (sig : Nat → Int64) (u r : Nat) (v : Int64) : upF sig u 0 r v = v := rfl
theorem upF_s (sig : Nat → Int64) (u n r : Nat) (v : Int64) : upF sig u (n + 1) r v = upF sig u n (r + 1) (if (32 + u) / 2 ^ r % 2 = 0 then h2 v (sig (6 + r)) else h2 (sig (6 + r)) v) := rfl
noncomputable def goodF (top : Int64) (sig : Nat → Int64) (u : Nat) (m : Int64) : Int32 := if lg_cmp (upF sig u 5 0 (endF sig m)) top = 0 then 1 else 0
theorem goodF_b (top : Int64) (sig : Nat → Int64) (u : Nat) (m : Int64) : goodF top sig u m = 0 ∨ goodF top sig u m = 1 := by
  unfold goodF
  split
  · exact Or.inr rfl
  · exact Or.inl rfl
theorem hCh_ext (f g : Nat → Int64) (n : Nat) : ∀ (c : Nat) (h : Int64), (∀ l, c ≤ l → l < c + n → f l = g l) → hCh f n c h = hCh g n c h := by
  induction n with
  | zero => exact fun c h _ => rfl
  | succ n ih =>
    intro c h e
    rw [hCh_s, hCh_s, e c (by omega) (by omega)]
    exact ih _ _ (fun l a b => e l (by omega) (by omega))
theorem upF_ext (f g : Nat → Int64) (u n : Nat) : ∀ (r : Nat) (v : Int64), (∀ l, 6 + r ≤ l → l < 6 + r + n → f l = g l) → upF f u n r v = upF g u n r v := by
  induction n with
  | zero => exact fun c h _ => rfl
  | succ n ih =>
    intro r v e
    rw [upF_s, upF_s, e (6 + r) (by omega) (by omega)]
    exact ih _ _ (fun l a b => e l (by omega) (by omega))
theorem goodF_ext (top : Int64) (f g : Nat → Int64) (u : Nat) (m : Int64) (e : ∀ l, l < 11 → f l = g l) : goodF top f u m = goodF top g u m := by
  unfold goodF endF
  rw [hCh_ext (fun c => hIt (15 - dgt (hD m) c) (f c)) (fun c => hIt (15 - dgt (hD m) c) (g c)) 6 0 hS (fun l _ b => by
    show hIt _ (f l) = hIt _ (g l)
    rw [e l (by omega)]), upF_ext f g u 5 0 _ (fun l _ b => e l (by omega))]
theorem q_good69 (i0 i1 j1 u : Nat) (S : St) (hu : u < 32) (n : Nat) : ∀ (r : Nat) (v : Int64), r ≤ 5 → 5 - r < n → f_KeyTree_isGood_69 i0 i1 j1 n S v (nI ((32 + u) / 2 ^ r)) (nI r) = (if lg_cmp (upF (S.2.1 15 i1 j1) u (5 - r) r v) (S.2.1 11 i0 0 1) = 0 then 1 else 0) ∧ ok_KeyTree_isGood_69 i0 i1 j1 n S v (nI ((32 + u) / 2 ^ r)) (nI r) := by
  induction n with
  | zero => exact fun r V _ h => absurd h (Nat.not_lt_zero _)
  | succ n ih =>
    intro r v hr hn
    rw [f_KeyTree_isGood_69, ok_KeyTree_isGood_69]
    by_cases h5 : r = 5
    · subst h5
      rw [if_pos (by decide), lt, f_KeyTree_top, Nat.sub_self, upF_0]
      exact ⟨rfl, fun _ => trivial, fun q => absurd (by decide) q⟩
    · have hr5 : r < 5 := by omega
      have c : ¬ (5 : Int32) ≤ nI r := fun q => by
        have := (nI_leI (a := 5) (b := r) (by omega) (by omega)).mp q
        omega
      have hlt : (32 + u) / 2 ^ r < 64 := Nat.lt_of_le_of_lt (Nat.div_le_self _ _) (by omega)
      have sb := q_sib _ hlt
      have ie : vp_in (nI (6 + r)) 11 := vp_in_nI (by omega) (by decide)
      rw [if_neg c, sb.2.2.1, lit6, nI_s, nI_clamp (by omega), show 5 - r = (5 - (r + 1)) + 1 by omega, upF_s]
      by_cases hz : (32 + u) / 2 ^ r % 2 = 0
      · have go := ih (r + 1) (h2 v (S.2.1 15 i1 j1 (6 + r))) (by omega) (by omega)
        rw [Nat.pow_succ, ← Nat.div_div_eq_div_mul] at go
        rw [if_pos (sb.2.2.2.2.2.mpr hz), if_pos hz, lt, q_pair]
        exact ⟨go.1, fun q => absurd q c, fun _ => ⟨ie, fun _ => go.2, fun q => absurd (sb.2.2.2.2.2.mpr hz) q⟩⟩
      · have go := ih (r + 1) (h2 (S.2.1 15 i1 j1 (6 + r)) v) (by omega) (by omega)
        rw [Nat.pow_succ, ← Nat.div_div_eq_div_mul] at go
        rw [if_neg (fun q => hz (sb.2.2.2.2.2.mp q)), if_neg hz, lt, q_pair]
        exact ⟨go.1, fun q => absurd q c, fun _ => ⟨ie, fun q => absurd (sb.2.2.2.2.2.mp q) hz, fun _ => go.2⟩⟩
theorem q_good15 (i0 i1 j1 u : Nat) (S : St) (m : Int64) (D : Int32) (hu : u < 32) (e5 : S.1 14 i1 j1 5 = nI u) (hd : ∀ c S', c < 6 → f_KeyTree_digit D (nI c) S' = nI (dgt (hD m) c)) (n : Nat) : ∀ (c : Nat) (h : Int64), c ≤ 6 → 6 - c < n → f_KeyTree_isGood_15 i0 i1 j1 n S D h (nI c) = (if lg_cmp (upF (S.2.1 15 i1 j1) u 5 0 (hE (hCh (fun c => hIt (15 - dgt (hD m) c) (S.2.1 15 i1 j1 c)) (6 - c) c h))) (S.2.1 11 i0 0 1) = 0 then 1 else 0) ∧ ok_KeyTree_isGood_15 i0 i1 j1 n S D h (nI c) := by
  induction n with
  | zero => exact fun r V _ h => absurd h (Nat.not_lt_zero _)
  | succ n ih =>
    intro c h hc hn
    rw [f_KeyTree_isGood_15, ok_KeyTree_isGood_15]
    by_cases h6 : c = 6
    · subst h6
      have go := q_good69 i0 i1 j1 u S hu 200 0 (hE h) (by omega) (by omega)
      rw [Nat.pow_zero, Nat.div_one] at go
      rw [if_pos (by decide), lt, lt, q_finish, e5, lit32, Nat.sub_self, hCh_0]
      exact ⟨go.1, fun _ => go.2, fun q => absurd (by decide) q⟩
    · have hc6 : c < 6 := by omega
      have cc : ¬ (6 : Int32) ≤ nI c := fun q => by
        have := (nI_leI (a := 6) (b := c) (by omega) (by omega)).mp q
        omega
      have dl := dgt_lt (hD m) c
      have go := ih (c + 1) (hA h (hIt (15 - dgt (hD m) c) (S.2.1 15 i1 j1 c))) (by omega) (by omega)
      rw [if_neg cc, lt, lt, lt, hd c S hc6, lt, lt, lt, nI_clamp (by omega), lit15 (by omega), q_after _ _ (by omega), q_absorb, nI_s, show 6 - c = (6 - (c + 1)) + 1 by omega, hCh_s]
      exact ⟨go.1, fun q => absurd q cc, fun _ => ⟨vp_in_nI (by omega) (by decide), q_after_ok _ _ (by omega), go.2⟩⟩
theorem q_good (i0 i1 j1 u : Nat) (S : St) (hu : u < 32) (e5 : S.1 14 i1 j1 5 = nI u) : f_KeyTree_isGood i0 i1 j1 S = goodF (S.2.1 11 i0 0 1) (S.2.1 15 i1 j1) u (mean (S.1 14 i1 j1 1) (S.1 14 i1 j1 4) (S.1 14 i1 j1 3)) ∧ ok_KeyTree_isGood i0 i1 j1 S := by
  have m := q_mean i1 j1 S
  have d := q_digits (mean (S.1 14 i1 j1 1) (S.1 14 i1 j1 4) (S.1 14 i1 j1 3)) S
  have go := q_good15 i0 i1 j1 u S (mean (S.1 14 i1 j1 1) (S.1 14 i1 j1 4) (S.1 14 i1 j1 3)) _ hu e5 (fun c S' hc => q_dig _ c hc S S') 200 0 hS (by omega) (by omega)
  unfold f_KeyTree_isGood ok_KeyTree_isGood
  rw [lt, lt, lt, m.1, lt]
  refine ⟨?_, m.2, d.2, go.2⟩
  unfold goodF endF
  exact go.1
theorem par5 : ∀ u, u < 32 → ∀ r, r < 5 → ((nI u >>> (nI r &&& 31)) &&& (1 : Int32) = 0 ↔ (32 + u) / 2 ^ r % 2 = 0) := by decide +kernel
theorem m_good62 (U0 : St) (i u : Nat) (hi : i < 4) (hu : u < 32) (a2 : Int64) (sig : Nat → Int64) (n : Nat) : ∀ (r : Nat) (v : Int64) (V : St), r ≤ 5 → 5 - r < n → Scr U0 V → V.1 1 0 0 40 = nI u → (∀ l, 6 ≤ l → l < 11 → V.2.1 35 0 0 l = sig l) → ∃ V', f_M_good_62 (nI i) a2 n V v (nI r) = (if lg_cmp (upF sig u (5 - r) r v) (U0.2.1 2 0 0 (64 * i + 1)) = 0 then 1 else 0, V') ∧ Scr U0 V' ∧ ok_M_good_62 (nI i) a2 n V v (nI r) := by
  induction n with
  | zero => exact fun r v V _ h => absurd h (Nat.not_lt_zero _)
  | succ n ih =>
    intro r v V hr hn hV h40 hg
    rw [f_M_good_62, ok_M_good_62]
    by_cases h5 : r = 5
    · subst h5
      rw [if_pos (by decide), show (1 : Int32) = nI 1 from rfl, ix64, nI_clamp (by omega), Nat.sub_self, upF_0, hV.l 2 _ (fun q => by omega) (by decide)]
      refine ⟨V, ?_, hV, fun _ => ⟨vp_in_nI (by omega) (by decide), trivial⟩, fun q => absurd (by decide) q⟩
      split <;> rfl
    · have hr5 : r < 5 := by omega
      have c : ¬ (5 : Int32) ≤ nI r := fun q => by
        have := (nI_leI (a := 5) (b := r) (by omega) (by omega)).mp q
        omega
      have ie : vp_in (nI (6 + r)) 11 := vp_in_nI (by omega) (by decide)
      have pp := par5 u hu r hr5
      have n10 : ¬ (1 : Int32) = 0 := by decide
      rw [if_neg c, h40, lit6, nI_s, nI_clamp (by omega), hg (6 + r) (by omega) (by omega), show 5 - r = (5 - (r + 1)) + 1 by omega, upF_s]
      by_cases hz : (32 + u) / 2 ^ r % 2 = 0
      · obtain ⟨V', e, a, o⟩ := ih (r + 1) (h2 v (sig (6 + r))) (fo V (hA (hA hS v) (sig (6 + r)))) (by omega) (by omega) (hV.trans (Scr.ff _ _)) h40 (fun l a b => by
          rw [fo_l _ _ _ _ (by omega)]
          exact hg l a b)
        rw [if_pos (pp.mpr hz), if_neg n10, if_pos hz, lt, m_two]
        refine ⟨V', e, a, fun q => absurd q c, fun _ => ⟨fun _ => ⟨fun q => absurd q n10, fun _ => ⟨ie, ?_⟩⟩, fun q => absurd (pp.mpr hz) q⟩⟩
        exact o
      · obtain ⟨V', e, a, o⟩ := ih (r + 1) (h2 (sig (6 + r)) v) (fo V (hA (hA hS (sig (6 + r))) v)) (by omega) (by omega) (hV.trans (Scr.ff _ _)) h40 (fun l a b => by
          rw [fo_l _ _ _ _ (by omega)]
          exact hg l a b)
        rw [if_neg (fun q => hz (pp.mp q)), if_pos rfl, if_neg hz, lt, m_two]
        refine ⟨V', e, a, fun q => absurd q c, fun _ => ⟨fun q => absurd (pp.mp q) hz, fun _ => ⟨fun _ => ⟨ie, ?_⟩, fun q => absurd rfl q⟩⟩⟩
        exact o
theorem m_leaf_l (U : St) (f : Nat → Int64) (hf : ∀ l, l < 6 → U.2.1 35 0 0 l = f l) (n : Nat) : ∀ (c : Nat) (h : Int64), c ≤ 6 → 6 - c < n → ∃ z, f_M_leaf_6 n (fo U h) (nI c) = (hE (hCh f (6 - c) c h), fo U z) ∧ ok_M_leaf_6 n (fo U h) (nI c) := by
  induction n with
  | zero => exact fun r V _ h => absurd h (Nat.not_lt_zero _)
  | succ n ih =>
    intro c h hc hn
    rw [f_M_leaf_6, ok_M_leaf_6]
    by_cases h6 : c = 6
    · subst h6
      rw [if_pos (by decide), lt, m_end_fo, Nat.sub_self, hCh_0]
      exact ⟨h, rfl, fun _ => trivial, fun q => absurd (by decide) q⟩
    · have hc6 : c < 6 := by omega
      have cc : ¬ (6 : Int32) ≤ nI c := fun q => by
        have := (nI_leI (a := 6) (b := c) (by omega) (by omega)).mp q
        omega
      obtain ⟨z, e, o⟩ := ih (c + 1) (hA h (f c)) (by omega) (by omega)
      rw [if_neg cc, lt, lt, nI_clamp (by omega), fo_l _ _ _ _ (by omega), hf c hc6, m_add_fo, nI_s, show 6 - c = (6 - (c + 1)) + 1 by omega, hCh_s]
      exact ⟨z, e, fun q => absurd q cc, fun _ => ⟨vp_in_nI (by omega) (by decide), o⟩⟩
theorem m_leaf (U : St) (f : Nat → Int64) (hf : ∀ l, l < 6 → U.2.1 35 0 0 l = f l) : ∃ z, f_M_leaf U = (hE (hCh f 6 0 hS), fo U z) ∧ ok_M_leaf U := by
  unfold f_M_leaf ok_M_leaf
  rw [lt, lt, m_start]
  exact m_leaf_l U f hf 200 0 hS (by omega) (by omega)
theorem m_good8 (U0 : St) (i u : Nat) (hi : i < 4) (hu : u < 32) (a2 m : Int64) (sig : Nat → Int64) (n : Nat) : ∀ (c : Nat) (V : St), c ≤ 6 → 6 - c < n → Scr U0 V → V.1 1 0 0 40 = nI u → (∀ c, c < 6 → V.1 36 0 0 c = nI (dgt (hD m) c)) → (∀ l, l < c → V.2.1 35 0 0 l = hIt (15 - dgt (hD m) l) (sig l)) → (∀ l, c ≤ l → l < 11 → V.2.1 35 0 0 l = sig l) → ∃ V', f_M_good_8 (nI i) a2 n V (nI c) = (goodF (U0.2.1 2 0 0 (64 * i + 1)) sig u m, V') ∧ Scr U0 V' ∧ ok_M_good_8 (nI i) a2 n V (nI c) := by
  induction n with
  | zero => exact fun r V _ h => absurd h (Nat.not_lt_zero _)
  | succ n ih =>
    intro c V hc hn hV h40 hd hl hg
    rw [f_M_good_8, ok_M_good_8]
    by_cases h6 : c = 6
    · subst h6
      obtain ⟨z, e, o⟩ := m_leaf V (fun c => hIt (15 - dgt (hD m) c) (sig c)) hl
      obtain ⟨V', e2, a2', o2⟩ := m_good62 U0 i u hi hu a2 sig 200 0 (endF sig m) (fo V z) (by omega) (by omega) (hV.trans (Scr.ff _ _)) h40 (fun l x y => by
        rw [fo_l _ _ _ _ (by omega)]
        exact hg l x y)
      rw [if_pos (by decide), lt, lt, e]
      exact ⟨V', e2, a2', fun _ => ⟨o, o2⟩, fun q => absurd (by decide) q⟩
    · have hc6 : c < 6 := by omega
      have cc : ¬ (6 : Int32) ≤ nI c := fun q => by
        have := (nI_leI (a := 6) (b := c) (by omega) (by omega)).mp q
        omega
      have dl := dgt_lt (hD m) c
      obtain ⟨z, e⟩ := m_after (sig c) V (k := 15 - dgt (hD m) c) (by omega)
      obtain ⟨V', e2, a, o⟩ := ih (c + 1) (sl (fo V z) 35 0 0 c (hIt (15 - dgt (hD m) c) (sig c))) (by omega) (by omega) (hV.trans ((Scr.ff _ _).trans (Scr.sgl _ _ _))) h40 hd (fun l hl' => by
        rw [sl_l]
        by_cases hx : l = c
        · rw [if_pos ⟨rfl, rfl, rfl, hx⟩, hx]
        · rw [if_neg (fun q => hx q.2.2.2), fo_l _ _ _ _ (by omega)]
          exact hl l (by omega)) (fun l h1 h2 => by
        rw [sl_l, if_neg (fun q => by omega), fo_l _ _ _ _ (by omega)]
        exact hg l (by omega) h2)
      rw [if_neg cc, lt, lt, lt, nI_clamp (by omega), hg c (by omega) (by omega), hd c hc6, lit15 (by omega), e, nI_s]
      exact ⟨V', e2, a, fun q => absurd q cc, fun _ => ⟨vp_in_nI (by omega) (by decide), vp_in_nI (by omega) (by decide), m_after_ok _ _ (by omega), vp_in_nI (by omega) (by decide), o⟩⟩
theorem m_good (U : St) (i u : Nat) (hi : i < 4) (hu : u < 32) (m : Int64) (h40 : U.1 1 0 0 40 = nI u) : ∃ V, f_M_good (nI i) m U = (goodF (U.2.1 2 0 0 (64 * i + 1)) (U.2.1 35 0 0) u m, V) ∧ Scr U V ∧ ok_M_good (nI i) m U := by
  have md := m_dig m U
  obtain ⟨V, e, a, o⟩ := m_good8 U i u hi hu m m (U.2.1 35 0 0) 200 0 (digW (fo U (hA hS m)) (hD m)) (by omega) (by omega) ((Scr.ff _ _).trans (digW_scr _ _)) h40 (fun c hc => digW_d _ _ c hc) (fun l hl => absurd hl (Nat.not_lt_zero _)) (fun l _ _ => by
    rw [digW_l, fo_l _ _ _ _ (by omega)])
  unfold f_M_good ok_M_good
  rw [lt, lt, md.1]
  exact ⟨V, e, a, md.2, o⟩
