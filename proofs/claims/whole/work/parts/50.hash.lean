/-! Pure rows: memory, the digests. -/
theorem si_i (S : St) (k i j x : Nat) (v : Int32) (a b d y : Nat) : (si S k i j x v).1 a b d y = if a = k ∧ b = i ∧ d = j ∧ y = x then v else S.1 a b d y := by
  unfold si wi
  by_cases h : a = k ∧ b = i ∧ d = j
  · obtain ⟨rfl, rfl, rfl⟩ := h
    by_cases hy : y = x <;> simp [upd, hy]
  · rw [if_neg (fun q => h ⟨q.1, q.2.1, q.2.2.1⟩)]
    show (if a = k ∧ b = i ∧ d = j then _ else S.1 a b d) y = _
    rw [if_neg h]
theorem si_2 (S : St) (k i j x : Nat) (v : Int32) : (si S k i j x v).2 = S.2 := rfl
theorem sl_l (S : St) (k i j x : Nat) (v : Int64) (a b d y : Nat) : (sl S k i j x v).2.1 a b d y = if a = k ∧ b = i ∧ d = j ∧ y = x then v else S.2.1 a b d y := by
  unfold sl wl
  by_cases h : a = k ∧ b = i ∧ d = j
  · obtain ⟨rfl, rfl, rfl⟩ := h
    by_cases hy : y = x <;> simp [vp_updL, hy]
  · rw [if_neg (fun q => h ⟨q.1, q.2.1, q.2.2.1⟩)]
    show (if a = k ∧ b = i ∧ d = j then _ else S.2.1 a b d) y = _
    rw [if_neg h]
theorem sl_1 (S : St) (k i j x : Nat) (v : Int64) : (sl S k i j x v).1 = S.1 := rfl
theorem sl_3 (S : St) (k i j x : Nat) (v : Int64) : (sl S k i j x v).2.2 = S.2.2 := rfl
theorem sp_p (S : St) (k i j x : Nat) (v : Nat) (a b d y : Nat) : (sp S k i j x v).2.2 a b d y = if a = k ∧ b = i ∧ d = j ∧ y = x then v else S.2.2 a b d y := by
  unfold sp wp
  by_cases h : a = k ∧ b = i ∧ d = j
  · obtain ⟨rfl, rfl, rfl⟩ := h
    by_cases hy : y = x <;> simp [va_up, hy]
  · rw [if_neg (fun q => h ⟨q.1, q.2.1, q.2.2.1⟩)]
    show (if a = k ∧ b = i ∧ d = j then _ else S.2.2 a b d) y = _
    rw [if_neg h]
theorem sp_1 (S : St) (k i j x : Nat) (v : Nat) : (sp S k i j x v).1 = S.1 := rfl
theorem sp_2 (S : St) (k i j x : Nat) (v : Nat) : (sp S k i j x v).2.1 = S.2.1 := rfl
theorem st_ext {S U : St} (h1 : ∀ a b d y, S.1 a b d y = U.1 a b d y) (h2 : ∀ a b d y, S.2.1 a b d y = U.2.1 a b d y) (h3 : ∀ a b d y, S.2.2 a b d y = U.2.2 a b d y) : S = U := by
  obtain ⟨s1, s2, s3⟩ := S
  obtain ⟨u1, u2, u3⟩ := U
  have e1 : s1 = u1 := funext fun a => funext fun b => funext fun d => funext fun y => h1 a b d y
  have e2 : s2 = u2 := funext fun a => funext fun b => funext fun d => funext fun y => h2 a b d y
  have e3 : s3 = u3 := funext fun a => funext fun b => funext fun d => funext fun y => h3 a b d y
  rw [e1, e2, e3]
theorem sl_sl (S : St) (k i j x : Nat) (v w : Int64) : sl (sl S k i j x v) k i j x w = sl S k i j x w := by
  refine st_ext (fun _ _ _ _ => rfl) (fun a b d y => ?_) (fun _ _ _ _ => rfl)
  rw [sl_l, sl_l, sl_l]
  by_cases h : a = k ∧ b = i ∧ d = j ∧ y = x
  · rw [if_pos h, if_pos h]
  · rw [if_neg h, if_neg h, if_neg h]
theorem sl_same (S : St) (k i j x : Nat) : sl S k i j x (S.2.1 k i j x) = S := by
  refine st_ext (fun _ _ _ _ => rfl) (fun a b d y => ?_) (fun _ _ _ _ => rfl)
  rw [sl_l]
  by_cases h : a = k ∧ b = i ∧ d = j ∧ y = x
  · rw [if_pos h]
    obtain ⟨rfl, rfl, rfl, rfl⟩ := h
    rfl
  · rw [if_neg h]
theorem sl_rd (S : St) (k i j x : Nat) (v : Int64) : (sl S k i j x v).2.1 k i j x = v := by
  rw [sl_l, if_pos ⟨rfl, rfl, rfl, rfl⟩]
def hS : Int64 := -7046029254386353131
def hA (h v : Int64) : Int64 := ((h ^^^ v) * (-4417276706812531889 : Int64)) ^^^ ((((h ^^^ v) * (-4417276706812531889 : Int64)).toUInt64 >>> ((29 : Int32).toInt64.toUInt64 &&& Int64.toUInt64 63)).toInt64)
def hE (h : Int64) : Int64 := (h * (1609587929392839161 : Int64)) ^^^ (((h * (1609587929392839161 : Int64)).toUInt64 >>> ((32 : Int32).toInt64.toUInt64 &&& Int64.toUInt64 63)).toInt64)
def h2 (a b : Int64) : Int64 := hE (hA (hA hS a) b)
def h3 (a b c : Int64) : Int64 := hE (hA (hA (hA hS a) b) c)
noncomputable def hIt (n : Nat) (v : Int64) : Int64 := Nat.rec v (fun _ r => h2 r 77) n
def hSec (s : Int64) (i k c : Int32) : Int64 := hE (hA (hA (hA (hA hS s) i.toInt64) k.toInt64) c.toInt64)
theorem q_absorb (a b : Int64) (S : St) : f_Fold_absorb a b S = hA a b := rfl
theorem q_finish (a : Int64) (S : St) : f_Fold_finish a S = hE a := rfl
theorem q_pair (a b : Int64) (S : St) : f_Fold_pair a b S = h2 a b := rfl
theorem q_secret (s i k c : Int32) (S : St) : f_KeyTree_secretOf s i k c S = hSec s.toInt64 i k c := rfl
theorem hIt_0 (v : Int64) : hIt 0 v = v := rfl
theorem hIt_e (n : Nat) (v : Int64) : hIt (n + 1) v = h2 (hIt n v) 77 := rfl
theorem hIt_s (n : Nat) (v : Int64) : hIt (n + 1) v = hIt n (h2 v 77) := by
  induction n with
  | zero => rw [hIt_e, hIt_0, hIt_0]
  | succ n ih => rw [hIt_e, ih, hIt_e]
theorem h2_lit (a b : Int64) : hE (hA (hA (-7046029254386353131 : Int64) a) b) = h2 a b := rfl
theorem nI_s (j : Nat) : nI j + (1 : Int32) = nI (j + 1) := nI_1 j
theorem q_after_l (a0 : Int64) (S : St) {k : Nat} (hk : k < 2 ^ 30) (n : Nat) : ∀ (j : Nat) (v : Int64), j ≤ k → k - j < n → f_Fold_afterSteps_5 a0 (nI k) n S v (nI j) = hIt (k - j) v := by
  induction n with
  | zero => exact fun j v _ h => absurd h (Nat.not_lt_zero _)
  | succ n ih =>
    intro j v hj h
    rw [f_Fold_afterSteps_5]
    by_cases hjk : k = j
    · subst hjk
      rw [if_pos ((nI_leI (by omega) (by omega)).mpr (Nat.le_refl _)), Nat.sub_self, hIt_0]
    · rw [if_neg (fun q => hjk (Nat.le_antisymm ((nI_leI (by omega) (by omega)).mp q) hj))]
      simp only [lt, q_absorb, q_finish, h2_lit, nI_s]
      rw [ih (j + 1) _ (by omega) (by omega), show k - j = (k - (j + 1)) + 1 by omega, hIt_s]
theorem q_after (v : Int64) (S : St) {k : Nat} (hk : k < 200) : f_Fold_afterSteps v (nI k) S = hIt k v := by
  unfold f_Fold_afterSteps
  exact q_after_l v S (by omega) 200 0 v (Nat.zero_le _) (by omega)
theorem q_after_ok_l (a0 : Int64) (S : St) {k : Nat} (hk : k < 2 ^ 30) (n : Nat) : ∀ (j : Nat) (v : Int64), j ≤ k → k - j < n → ok_Fold_afterSteps_5 a0 (nI k) n S v (nI j) := by
  induction n with
  | zero => exact fun j v _ h => absurd h (Nat.not_lt_zero _)
  | succ n ih =>
    intro j v hj h
    rw [ok_Fold_afterSteps_5]
    refine ⟨fun _ => trivial, fun q => ?_⟩
    have hjk : j < k := Nat.lt_of_not_le (fun z => q ((nI_leI (by omega) (by omega)).mpr z))
    simp only [lt, nI_s]
    exact ih (j + 1) _ (by omega) (by omega)
theorem q_after_ok (v : Int64) (S : St) {k : Nat} (hk : k < 200) : ok_Fold_afterSteps v (nI k) S := q_after_ok_l v S (by omega) 200 0 v (Nat.zero_le _) (by omega)
/-- the reference's scratch: what was folded last -/
def fo (U : St) (v : Int64) : St := sl U 1 0 0 4 v
theorem fo_fo (U : St) (v w : Int64) : fo (fo U v) w = fo U w := sl_sl U 1 0 0 4 v w
theorem m_start (U : St) : f_M_start U = fo U hS := rfl
theorem m_add (a : Int64) (U : St) : f_M_add a U = fo U (hA (U.2.1 1 0 0 4) a) := by
  unfold f_M_add
  simp only [lt]
  rw [sl_sl, sl_rd]
  rfl
theorem m_add_fo (a v : Int64) (U : St) : f_M_add a (fo U v) = fo U (hA v a) := by
  rw [m_add, fo_fo]
  unfold fo
  rw [sl_rd]
theorem m_end_fo (v : Int64) (U : St) : f_M_end (fo U v) = hE v := by
  unfold f_M_end fo
  rw [sl_rd]
  rfl
theorem m_two (a b : Int64) (U : St) : f_M_two a b U = (h2 a b, fo U (hA (hA hS a) b)) := by
  unfold f_M_two
  simp only [lt, m_start, m_add_fo, m_end_fo]
  rfl
theorem m_three (a b c : Int64) (U : St) : f_M_three a b c U = (h3 a b c, fo U (hA (hA (hA hS a) b) c)) := by
  unfold f_M_three
  simp only [lt, m_start, m_add_fo, m_end_fo]
  rfl
theorem m_secret (i k c : Int32) (U : St) : f_M_secret i k c U = (hSec (U.2.1 1 0 0 0) i k c, fo U (hA (hA (hA (hA hS (U.2.1 1 0 0 0)) i.toInt64) k.toInt64) c.toInt64)) := by
  unfold f_M_secret
  have e : (fo U hS).2.1 1 0 0 0 = U.2.1 1 0 0 0 := by
    unfold fo
    rw [sl_l, if_neg (by decide)]
  simp only [lt, m_start, e, m_add_fo, m_end_fo]
  rfl
theorem m_after_l (a0 : Int64) {k : Nat} (hk : k < 2 ^ 30) (n : Nat) : ∀ (j : Nat) (v w : Int64) (U : St), j ≤ k → k - j < n → ∃ z, f_M_after_6 a0 (nI k) n (fo U w) v (nI j) = (hIt (k - j) v, fo U z) := by
  induction n with
  | zero => exact fun j v w U _ h => absurd h (Nat.not_lt_zero _)
  | succ n ih =>
    intro j v w U hj h
    rw [f_M_after_6]
    by_cases hjk : k = j
    · subst hjk
      rw [if_pos ((nI_leI (by omega) (by omega)).mpr (Nat.le_refl _)), Nat.sub_self, hIt_0]
      exact ⟨w, rfl⟩
    · rw [if_neg (fun q => hjk (Nat.le_antisymm ((nI_leI (by omega) (by omega)).mp q) hj))]
      simp only [lt, m_two, fo_fo, nI_s]
      obtain ⟨z, hz⟩ := ih (j + 1) (h2 v 77) (hA (hA hS v) 77) U (by omega) (by omega)
      refine ⟨z, ?_⟩
      rw [hz, show k - j = (k - (j + 1)) + 1 by omega, hIt_s]
theorem m_after (v : Int64) (U : St) {k : Nat} (hk : k < 200) : ∃ z, f_M_after v (nI k) U = (hIt k v, fo U z) := by
  unfold f_M_after
  obtain ⟨z, hz⟩ := m_after_l v (k := k) (by omega) 200 0 v (U.2.1 1 0 0 4) U (Nat.zero_le _) (by omega)
  rw [show fo U (U.2.1 1 0 0 4) = U from sl_same U 1 0 0 4] at hz
  exact ⟨z, hz⟩
