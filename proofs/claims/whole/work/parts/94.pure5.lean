/-! The calls, one by one. -/
theorem acc_or (a : Int32) : (∀ S, f_QC_isAccount a S = 0 ∧ f_M_isNode a S = 0) ∨ ∃ i, i < 4 ∧ a = nI i := by
  rcases nd_or a with n | n
  · refine Or.inl (fun S => ⟨?_, (n S).2⟩)
    have := (n S).1
    unfold f_QC_isNode at this
    unfold f_QC_isAccount
    exact this
  · exact Or.inr n
theorem Ivt.newT {sg : Nat → Nat} {B T : Nat} {U : St} (h : Ivt sg B T U) {a1 a2 : Nat} {a3 a4 : Int32} (h1 : a1 < 4) (h2 : a2 < 4) (hT : T < 40) : Ivt sg B (T + 1) (si (si (si (si (si U 3 0 0 T (nI a1)) 4 0 0 T (nI a2)) 5 0 0 T a3) 6 0 0 T a4) 1 0 0 6 (nI (T + 1))) := by
  exact (Ivt.mk (hB := h.hB) (hB1 := h.hB1) (hB2 := h.hB2) (hT := si_rd _ _ _ _ _ _) (hT2 := by omega) (par0 := h.par0) (par := h.par) (vw0 := h.vw0) (vw := h.vw) (car := fun b hb => by
      rcases h.car b hb with q | ⟨t, ht, q⟩
      · exact Or.inl q
      · exact Or.inr ⟨t, by omega, q⟩) (fr := fun t ht => by
      show ∃ a, a < 4 ∧ (si U 3 0 0 T (nI a1)).1 3 0 0 t = nI a
      rw [si_i]
      by_cases c : t = T
      · rw [if_pos ⟨rfl, rfl, rfl, c⟩]
        exact ⟨a1, h1, rfl⟩
      · rw [if_neg (fun q => c q.2.2.2)]
        exact h.fr t (by omega)) (to := fun t ht => by
      show ∃ a, a < 4 ∧ (si (si U 3 0 0 T (nI a1)) 4 0 0 T (nI a2)).1 4 0 0 t = nI a
      rw [si_i]
      by_cases c : t = T
      · rw [if_pos ⟨rfl, rfl, rfl, c⟩]
        exact ⟨a2, h2, rfl⟩
      · rw [if_neg (fun q => c q.2.2.2)]
        exact h.to t (by omega)) (view := h.view) (span := h.span) (high := h.high) (locked := h.locked) (voted := h.voted) (used := h.used) (has0 := h.has0) (hasB := h.hasB) (hasV := h.hasV) (votes := h.votes) (votesB := h.votesB) (votesM := h.votesM) (touts := h.touts) (toutsM := h.toutsM) (pooled := h.pooled) (pool := fun i hi k hk hf => by
      obtain ⟨t, ht, q⟩ := h.pool i hi k hk hf
      exact ⟨t, by omega, q⟩) (poolD := h.poolD) (logged := h.logged) (log0 := h.log0) (log := h.log) (logP := h.logP) (fly := h.fly) (msgs := h.msgs))
theorem b_transaction {sd : Int32} {S U : St} (h : JB sd S U) (a1 a2 a3 a4 : Int32) : ∃ k r S' r' U', f_QC_transaction a1 a2 a3 a4 S = (k, r, S') ∧ f_M_transaction a1 a2 a3 a4 U = (r', U') ∧ U'.1 1 0 0 1 = nI k ∧ (k = 0 → r = r') ∧ (k ≤ 2 ∧ (k ≠ 0 → S' = S)) ∧ JB sd S' U' ∧ ok_QC_transaction a1 a2 a3 a4 S ∧ ok_M_transaction a1 a2 a3 a4 U := by
  have e39 : f_M_transaction_39 a1 a2 a3 a4 U = (0, si U 1 0 0 1 1) ∧ ok_M_transaction_39 a1 a2 a3 a4 U := by
    unfold f_M_transaction_39 ok_M_transaction_39 f_M_transaction_57 ok_M_transaction_57
    constructor
    · rw [lt, thr_le, if_neg (by decide)]
    · rw [lt, thr_le]
      exact ⟨fun q => absurd q (by decide), fun _ => trivial⟩
  have bad : ∀ (_ : f_QC_transaction a1 a2 a3 a4 S = (1, 0, S)) (_ : f_M_transaction a1 a2 a3 a4 U = (0, si U 1 0 0 1 1)) (_ : ok_QC_transaction a1 a2 a3 a4 S) (_ : ok_M_transaction a1 a2 a3 a4 U), ∃ k r S' r' U', f_QC_transaction a1 a2 a3 a4 S = (k, r, S') ∧ f_M_transaction a1 a2 a3 a4 U = (r', U') ∧ U'.1 1 0 0 1 = nI k ∧ (k = 0 → r = r') ∧ (k ≤ 2 ∧ (k ≠ 0 → S' = S)) ∧ JB sd S' U' ∧ ok_QC_transaction a1 a2 a3 a4 S ∧ ok_M_transaction a1 a2 a3 a4 U := fun p q o1 o2 => ⟨1, 0, S, 0, si U 1 0 0 1 1, p, q, thr_le 1, fun z => absurd z (by decide), ⟨by decide, fun _ => rfl⟩, h.thr 1, o1, o2⟩
  rcases acc_or a1 with n | ⟨x, hx, rfl⟩
  · apply bad
    · unfold f_QC_transaction
      rw [lt, (n S).1, if_pos rfl]
    · unfold f_M_transaction
      rw [lt, (n U).2, if_pos rfl]
      exact e39.1
    · unfold ok_QC_transaction
      rw [lt, (n S).1]
      exact ⟨fun _ => trivial, fun q => absurd rfl q⟩
    · unfold ok_M_transaction
      rw [lt, (n U).2]
      exact ⟨fun _ => e39.2, fun q => absurd rfl q⟩
  · rcases acc_or a2 with n | ⟨y, hy, rfl⟩
    · apply bad
      · unfold f_QC_transaction
        rw [lt, q_isAcc hx, if_neg (by decide), lt, (n S).1, if_pos rfl]
      · unfold f_M_transaction
        rw [lt, m_isNode hx, if_neg (by decide), lt, (n U).2, if_pos rfl]
        exact e39.1
      · unfold ok_QC_transaction
        rw [lt, q_isAcc hx, lt, (n S).1]
        exact ⟨fun q => absurd q (by decide), fun _ => ⟨fun _ => trivial, fun q => absurd rfl q⟩⟩
      · unfold ok_M_transaction
        rw [lt, m_isNode hx, lt, (n U).2]
        exact ⟨fun q => absurd q (by decide), fun _ => ⟨fun _ => e39.2, fun q => absurd rfl q⟩⟩
    · obtain ⟨sg, B, T, h1⟩ := h.go
      have hT2 := h1.v.hT2
      have eT : U.1 1 0 0 6 = nI T := h1.v.hT
      have eTS : S.1 24 0 0 4 = nI T := (h1.e Mp.txs).trans h1.v.hT
      have eQ : f_QC_transaction (nI x) (nI y) a3 a4 S = if a3 < 0 then (1, 0, S) else if (1000 : Int32) < a3 then (1, 0, S) else if a4 < 0 then (1, 0, S) else if a4 ≤ (1000 : Int32) then if nI T < (40 : Int32) then (0, (f_Transactions_add (nI x) (nI y) a3 a4 S).1, (f_Transactions_add (nI x) (nI y) a3 a4 S).2) else (2, 0, S) else (1, 0, S) := by
        unfold f_QC_transaction
        rw [lt, q_isAcc hx, if_neg (by decide), lt, q_isAcc hy, if_neg (by decide), eTS, lt]
      have eM : f_M_transaction (nI x) (nI y) a3 a4 U = if a3 < 0 then (0, si U 1 0 0 1 1) else if (1000 : Int32) < a3 then (0, si U 1 0 0 1 1) else if a4 < 0 then (0, si U 1 0 0 1 1) else if a4 ≤ (1000 : Int32) then if nI T = (40 : Int32) then f_M_transaction_57 (nI x) (nI y) a3 a4 U 2 else f_M_transaction_57 (nI x) (nI y) a3 a4 U 0 else (0, si U 1 0 0 1 1) := by
        unfold f_M_transaction
        rw [lt, m_isNode hx, if_neg (by decide), lt, m_isNode hy, if_neg (by decide), eT, e39.1]
      have oQ : (nI T < (40 : Int32) → ok_Transactions_add (nI x) (nI y) a3 a4 S) → ok_QC_transaction (nI x) (nI y) a3 a4 S := fun o => by
        unfold ok_QC_transaction
        rw [lt, q_isAcc hx, lt, q_isAcc hy, eTS]
        exact ⟨fun q => absurd q (by decide), fun _ => ⟨fun q => absurd q (by decide), fun _ => ⟨fun _ => trivial, fun _ => ⟨fun _ => trivial, fun _ => ⟨fun _ => trivial, fun _ => ⟨fun _ => ⟨fun z => ⟨o z, trivial⟩, fun _ => trivial⟩, fun _ => trivial⟩⟩⟩⟩⟩⟩
      have oM : (nI T = (40 : Int32) → ok_M_transaction_57 (nI x) (nI y) a3 a4 U 2) → (¬ nI T = (40 : Int32) → ok_M_transaction_57 (nI x) (nI y) a3 a4 U 0) → ok_M_transaction (nI x) (nI y) a3 a4 U := fun o1 o2 => by
        unfold ok_M_transaction
        rw [lt, m_isNode hx, lt, m_isNode hy, eT]
        exact ⟨fun q => absurd q (by decide), fun _ => ⟨fun q => absurd q (by decide), fun _ => ⟨fun _ => e39.2, fun _ => ⟨fun _ => e39.2, fun _ => ⟨fun _ => e39.2, fun _ => ⟨fun _ => ⟨o1, o2⟩, fun _ => e39.2⟩⟩⟩⟩⟩⟩
      have o57 : ok_M_transaction_57 (nI x) (nI y) a3 a4 U 2 := by
        unfold ok_M_transaction_57
        rw [lt, thr_le]
        exact ⟨fun q => absurd q (by decide), fun _ => trivial⟩
      have okA : ok_QC_transaction (nI x) (nI y) a3 a4 S := oQ (fun hl => by
        have hT : T < 40 := (nI_ltI (a := T) (b := 40) (by omega) (by omega)).mp hl
        have t40 : vp_in (nI T) 40 := vp_in_nI hT (by decide)
        unfold ok_Transactions_add
        rw [eTS]
        have q1 : ∀ (z : Nat) (a : Int32), (si S 25 0 0 z a).1 24 0 0 4 = nI T := fun _ _ => eTS
        have q2 : ∀ (z w : Nat) (a b : Int32), (si (si S 25 0 0 z a) 26 0 0 w b).1 24 0 0 4 = nI T := fun _ _ _ _ => eTS
        have q3 : ∀ (z w u : Nat) (a b c : Int32), (si (si (si S 25 0 0 z a) 26 0 0 w b) 27 0 0 u c).1 24 0 0 4 = nI T := fun _ _ _ _ _ _ => eTS
        rw [lt, q1, lt, q2, lt, q3]
        exact ⟨fun _ => ⟨t40, t40, t40, t40, trivial⟩, fun q => absurd hl q⟩)
      have okB : ok_M_transaction (nI x) (nI y) a3 a4 U := oM (fun _ => o57) (fun hne => by
        have hT : T < 40 := by
          rcases Nat.lt_or_ge T 40 with z | z
          · exact z
          · exact absurd (by rw [show T = 40 by omega]; decide) hne
        have t40 : vp_in (nI T) 40 := vp_in_nI hT (by decide)
        unfold ok_M_transaction_57
        rw [lt, thr_le]
        refine ⟨fun _ => ?_, fun q => absurd (by decide) q⟩
        have q0 : (si U 1 0 0 1 0).1 1 0 0 6 = nI T := eT
        rw [q0]
        have q1 : ∀ (z : Nat) (a : Int32), (si (si U 1 0 0 1 0) 3 0 0 z a).1 1 0 0 6 = nI T := fun _ _ => eT
        have q2 : ∀ (z w : Nat) (a b : Int32), (si (si (si U 1 0 0 1 0) 3 0 0 z a) 4 0 0 w b).1 1 0 0 6 = nI T := fun _ _ _ _ => eT
        have q3 : ∀ (z w u : Nat) (a b c : Int32), (si (si (si (si U 1 0 0 1 0) 3 0 0 z a) 4 0 0 w b) 5 0 0 u c).1 1 0 0 6 = nI T := fun _ _ _ _ _ _ => eT
        rw [lt, q1, lt, q2, lt, q3]
        exact ⟨t40, t40, t40, t40, trivial⟩)
      rw [eQ] at bad ⊢
      rw [eM] at bad ⊢
      by_cases c1 : a3 < 0
      · rw [if_pos c1, if_pos c1] at bad ⊢
        exact bad rfl rfl okA okB
      · rw [if_neg c1, if_neg c1] at bad ⊢
        by_cases c2 : (1000 : Int32) < a3
        · rw [if_pos c2, if_pos c2] at bad ⊢
          exact bad rfl rfl okA okB
        · rw [if_neg c2, if_neg c2] at bad ⊢
          by_cases c3 : a4 < 0
          · rw [if_pos c3, if_pos c3] at bad ⊢
            exact bad rfl rfl okA okB
          · rw [if_neg c3, if_neg c3] at bad ⊢
            by_cases c4 : a4 ≤ (1000 : Int32)
            · rw [if_pos c4, if_pos c4]
              clear bad
              by_cases c5 : T = 40
              · subst c5
                rw [if_neg (by decide), if_pos (by decide)]
                refine ⟨2, 0, S, 0, si U 1 0 0 1 2, rfl, ?_, thr_le 2, fun q => absurd q (by decide), ⟨by decide, fun _ => rfl⟩, h.thr 2, okA, okB⟩
                unfold f_M_transaction_57
                rw [lt, thr_le, if_neg (by decide)]
              · have hT : T < 40 := by omega
                have l1 : nI T < (40 : Int32) := (nI_ltI (a := T) (b := 40) (by omega) (by omega)).mpr hT
                have l2 : ¬ nI T = (40 : Int32) := fun q => c5 ((nI_eq (a := T) (b := 40) (by omega) (by omega)).mp q)
                have r1 := h1.r.w (Mp.fr hT) (by decide) (by decide) (nI x)
                have r2 := r1.w (Mp.to hT) (by decide) (by decide) (nI y)
                have r3 := r2.w (Mp.am hT) (by decide) (by decide) a3
                have r4 := r3.w (Mp.no hT) (by decide) (by decide) a4
                have r5 := r4.w Mp.txs (by decide) (by decide) (nI (T + 1))
                have iv := h1.v.newT (a3 := a3) (a4 := a4) hx hy hT
                have ea : f_Transactions_add (nI x) (nI y) a3 a4 S = (nI T, si (si (si (si (si S 25 0 0 T (nI x)) 26 0 0 T (nI y)) 27 0 0 T a3) 28 0 0 T a4) 24 0 0 4 (nI (T + 1))) := by
                  unfold f_Transactions_add
                  repeat rw [lt]
                  have q1 : (si S 25 0 0 T (nI x)).1 24 0 0 4 = nI T := eTS
                  have q2 : (si (si S 25 0 0 T (nI x)) 26 0 0 T (nI y)).1 24 0 0 4 = nI T := eTS
                  have q3 : (si (si (si S 25 0 0 T (nI x)) 26 0 0 T (nI y)) 27 0 0 T a3).1 24 0 0 4 = nI T := eTS
                  have q4 : (si (si (si (si S 25 0 0 T (nI x)) 26 0 0 T (nI y)) 27 0 0 T a3) 28 0 0 T a4).1 24 0 0 4 = nI T := eTS
                  rw [eTS, if_pos l1, nI_clamp (by omega), q1, nI_clamp (by omega), q2, nI_clamp (by omega), q3, nI_clamp (by omega), q4, nI_s, si_rd, nI_pred]
                have eb : f_M_transaction_57 (nI x) (nI y) a3 a4 U 0 = (nI T, si (si (si (si (si (si U 1 0 0 1 0) 3 0 0 T (nI x)) 4 0 0 T (nI y)) 5 0 0 T a3) 6 0 0 T a4) 1 0 0 6 (nI (T + 1))) := by
                  unfold f_M_transaction_57
                  repeat rw [lt]
                  obtain ⟨W, hW⟩ : ∃ z, z = si U 1 0 0 1 0 := ⟨_, rfl⟩
                  have w1 : W.1 1 0 0 1 = 0 := by rw [hW]; exact thr_le 0
                  have q0 : W.1 1 0 0 6 = nI T := by rw [hW]; exact eT
                  rw [← hW]
                  have q1 : (si W 3 0 0 T (nI x)).1 1 0 0 6 = nI T := q0
                  have q2 : (si (si W 3 0 0 T (nI x)) 4 0 0 T (nI y)).1 1 0 0 6 = nI T := q0
                  have q3 : (si (si (si W 3 0 0 T (nI x)) 4 0 0 T (nI y)) 5 0 0 T a3).1 1 0 0 6 = nI T := q0
                  have q4 : (si (si (si (si W 3 0 0 T (nI x)) 4 0 0 T (nI y)) 5 0 0 T a3) 6 0 0 T a4).1 1 0 0 6 = nI T := q0
                  rw [w1, if_pos (by decide), q0, nI_clamp (by omega), q1, nI_clamp (by omega), q2, nI_clamp (by omega), q3, nI_clamp (by omega), q4, nI_s, si_rd, nI_pred]
                rw [if_pos l1, if_neg l2, ea, eb]
                exact ⟨0, nI T, _, nI T, _, rfl, rfl, h1.t, fun _ => rfl, ⟨by decide, fun z => absurd rfl z⟩, ⟨sg, B, T + 1, r5, iv⟩, okA, okB⟩
            · rw [if_neg c4, if_neg c4] at bad ⊢
              exact bad rfl rfl okA okB
/-- a number of places no larger than what lies in them -/
theorem php (f : Nat → Nat) (T : Nat) (P : Nat) (h1 : ∀ k, k < P → f k < T) (h2 : ∀ k, k < P → ∀ j, j < k → f j ≠ f k) : P ≤ T := by
  have key : ∀ k, k ≤ P → k ≤ cQn (fun x => ∃ j, j < k ∧ f j = x) T := by
    intro k
    induction k with
    | zero => exact fun _ => Nat.zero_le _
    | succ k ih =>
      intro hk
      have a := ih (by omega)
      have e := cQn_or (fun x => ∃ j, j < k ∧ f j = x) (fun x => f k = x) (fun x => ∃ j, j < k + 1 ∧ f j = x) (fun x => by
        constructor
        · rintro ⟨j, hj, e⟩
          by_cases c : j = k
          · subst c
            exact Or.inr e
          · exact Or.inl ⟨j, by omega, e⟩
        · rintro (⟨j, hj, e⟩ | e)
          · exact ⟨j, by omega, e⟩
          · exact ⟨k, by omega, e⟩) (fun x => by
        rintro ⟨j, hj, e⟩ q
        exact h2 k (by omega) j hj (e.trans q.symm)) T
      have p := cQn_hit (fun x => f k = x) (h1 k (by omega)) rfl
      rw [e]
      omega
  have := key P (Nat.le_refl _)
  have := cQn_le (fun x => ∃ j, j < P ∧ f j = x) T
  omega
section
variable {sd : Int32} {sg : Nat → Nat} {B T : Nat} {ak : Int32} {S U : St}
theorem j_pool (h : J sd sg B T ak S U) {i P t : Nat} (hi : i < 4) (hP : P ≤ 40) (e : U.1 22 0 0 i = nI P) (n : Nat) : ∀ (m k : Nat), k ≤ P → P - k < n → P - k < m → (∃ j, k ≤ j ∧ j < P ∧ U.1 23 0 0 (40 * i + j) = nI t) ∧ f_Node_addToPool_2 i (nI t) n S (nI k) = (0, S) ∧ f_M_submit_53 (nI i) (nI t) m U 0 (nI k) = f_M_submit_103 (nI i) (nI t) U 1 ∧ ok_Node_addToPool_2 i (nI t) n S (nI k) ∧ (ok_M_submit_103 (nI i) (nI t) U 1 → ok_M_submit_53 (nI i) (nI t) m U 0 (nI k)) ∨ (∀ j, k ≤ j → j < P → U.1 23 0 0 (40 * i + j) ≠ nI t) ∧ f_Node_addToPool_2 i (nI t) n S (nI k) = (if nI P < (40 : Int32) then (1, si (si S 18 i 0 P (nI t)) 3 i 0 6 (nI (P + 1))) else (0, S)) ∧ f_M_submit_53 (nI i) (nI t) m U 0 (nI k) = f_M_submit_103 (nI i) (nI t) U 0 ∧ (nI P < (40 : Int32) → ok_Node_addToPool_2 i (nI t) n S (nI k)) ∧ (ok_M_submit_103 (nI i) (nI t) U 0 → ok_M_submit_53 (nI i) (nI t) m U 0 (nI k)) := by
  have i4 : vp_in (nI i) 4 := vp_in_nI hi (by decide)
  have eS : S.1 3 i 0 6 = nI P := (h.e (Mp.pooled hi)).trans e
  have one : ∀ (m k : Nat), k ≤ P → P - k < m → f_M_submit_53 (nI i) (nI t) m U 1 (nI k) = f_M_submit_103 (nI i) (nI t) U 1 ∧ (ok_M_submit_103 (nI i) (nI t) U 1 → ok_M_submit_53 (nI i) (nI t) m U 1 (nI k)) := by
    intro m
    induction m with
    | zero => exact fun k _ h => absurd h (Nat.not_lt_zero _)
    | succ m ih =>
      intro k hk hm
      rw [f_M_submit_53, ok_M_submit_53, h.t, if_pos rfl, nI_clamp (by omega), e]
      by_cases c : k = P
      · subst c
        rw [if_pos (Int32.le_refl _)]
        exact ⟨rfl, fun o => ⟨fun _ => ⟨i4, fun _ => o, fun q => absurd (Int32.le_refl _) q⟩, fun q => absurd rfl q⟩⟩
      · have cc : ¬ nI P ≤ nI k := fun q => by
          have := (nI_leI (a := P) (b := k) (by omega) (by omega)).mp q
          omega
        have g := ih (k + 1) (by omega) (by omega)
        rw [if_neg cc, if_neg (by decide), nI_s]
        exact ⟨g.1, fun o => ⟨fun _ => ⟨i4, fun q => absurd q cc, fun _ => ⟨fun q => absurd q (by decide), fun _ => g.2 o⟩⟩, fun q => absurd rfl q⟩⟩
  induction n with
  | zero => exact fun m k _ h => absurd h (Nat.not_lt_zero _)
  | succ n ih =>
    intro m k hk hn hm
    obtain ⟨m, rfl⟩ : ∃ n', m = n' + 1 := ⟨m - 1, by omega⟩
    rw [f_Node_addToPool_2, f_M_submit_53, ok_Node_addToPool_2, ok_M_submit_53, eS, h.t, if_pos rfl, nI_clamp (by omega : i < 2 ^ 31), e]
    by_cases c : k = P
    · subst c
      refine Or.inr ⟨fun j a b => by omega, ?_, ?_, fun l => ⟨fun _ => ⟨fun _ => ⟨vp_in_nI ((nI_ltI (a := k) (b := 40) (by omega) (by omega)).mp l) (by decide), trivial⟩, fun _ => trivial⟩, fun q => absurd (Int32.le_refl _) q⟩, fun o => ⟨fun _ => ⟨i4, fun _ => o, fun q => absurd (Int32.le_refl _) q⟩, fun q => absurd rfl q⟩⟩
      · rw [if_pos (Int32.le_refl _), lt, lt, nI_clamp (by omega)]
        have e6 : (si S 18 i 0 k (nI t)).1 3 i 0 6 = nI k := by rw [si_i, if_neg (fun q => by omega), eS]
        rw [e6, nI_s]
      · rw [if_pos (Int32.le_refl _)]
    · have cc : ¬ nI P ≤ nI k := fun q => by
        have := (nI_leI (a := P) (b := k) (by omega) (by omega)).mp q
        omega
      have ep := h.e (Mp.pool hi (b := k) (by omega))
      have k40 : vp_in (nI k) 40 := vp_in_nI (by omega) (by decide)
      have p160 : vp_in (nI (40 * i + k)) 160 := vp_in_nI (by omega) (by decide)
      rw [if_neg cc, if_neg cc, if_pos rfl, ix40, nI_clamp (by omega : k < 2 ^ 31), nI_clamp (by omega : 40 * i + k < 2 ^ 31), ep, nI_s]
      by_cases ct : U.1 23 0 0 (40 * i + k) = nI t
      · have o := one m (k + 1) (by omega) (by omega)
        rw [if_pos ct, if_pos ct]
        exact Or.inl ⟨⟨k, Nat.le_refl _, by omega, ct⟩, rfl, o.1, ⟨fun q => absurd q cc, fun _ => ⟨k40, fun _ => trivial, fun q => absurd ct q⟩⟩, fun z => ⟨fun _ => ⟨i4, fun q => absurd q cc, fun _ => ⟨fun _ => ⟨p160, fun _ => o.2 z, fun q => absurd ct q⟩, fun q => absurd rfl q⟩⟩, fun q => absurd rfl q⟩⟩
      · rw [if_neg ct, if_neg ct]
        rcases ih m (k + 1) (by omega) (by omega) (by omega) with ⟨⟨j, j1, j2, j3⟩, a, b, o1, o2⟩ | ⟨z, a, b, o1, o2⟩
        · exact Or.inl ⟨⟨j, by omega, j2, j3⟩, a, b, ⟨fun q => absurd q cc, fun _ => ⟨k40, fun q => absurd q ct, fun _ => o1⟩⟩, fun z => ⟨fun _ => ⟨i4, fun q => absurd q cc, fun _ => ⟨fun _ => ⟨p160, fun q => absurd q ct, fun _ => o2 z⟩, fun q => absurd rfl q⟩⟩, fun q => absurd rfl q⟩⟩
        · refine Or.inr ⟨fun j j1 j2 => ?_, a, b, fun l => ⟨fun q => absurd q cc, fun _ => ⟨k40, fun q => absurd q ct, fun _ => o1 l⟩⟩, fun z => ⟨fun _ => ⟨i4, fun q => absurd q cc, fun _ => ⟨fun _ => ⟨p160, fun q => absurd q ct, fun _ => o2 z⟩, fun q => absurd rfl q⟩⟩, fun q => absurd rfl q⟩⟩
          by_cases cj : j = k
          · subst cj
            exact ct
          · exact z j (by omega) j2
theorem Ivt.addP (h : Ivt sg B T U) {i P t : Nat} (hi : i < 4) (hP : P < 40) (e : U.1 22 0 0 i = nI P) (ht : t < T) (hn : ∀ j, j < P → U.1 23 0 0 (40 * i + j) ≠ nI t) : Ivt sg B T (si (si U 23 0 0 (40 * i + P) (nI t)) 22 0 0 i (nI (P + 1))) := by
  have eP : (U.1 22 0 0 i).toNatClampNeg = P := by rw [e, nI_clamp (by omega)]
  have e23 : ∀ y, (si (si U 23 0 0 (40 * i + P) (nI t)) 22 0 0 i (nI (P + 1))).1 23 0 0 y = if y = 40 * i + P then nI t else U.1 23 0 0 y := fun y => by
    show (si U 23 0 0 (40 * i + P) (nI t)).1 23 0 0 y = _
    rw [si_i]
    by_cases c : y = 40 * i + P
    · rw [if_pos ⟨rfl, rfl, rfl, c⟩, if_pos c]
    · rw [if_neg (fun q => c q.2.2.2), if_neg c]
  have e22 : ∀ y, (si (si U 23 0 0 (40 * i + P) (nI t)) 22 0 0 i (nI (P + 1))).1 22 0 0 y = if y = i then nI (P + 1) else U.1 22 0 0 y := fun y => by
    rw [si_i]
    by_cases c : y = i
    · rw [if_pos ⟨rfl, rfl, rfl, c⟩, if_pos c]
    · rw [if_neg (fun q => c q.2.2.2), if_neg c]
      rfl
  exact Ivt.mk (hB := h.hB) (hB1 := h.hB1) (hB2 := h.hB2) (hT := h.hT) (hT2 := h.hT2) (par0 := h.par0) (par := h.par) (vw0 := h.vw0) (vw := h.vw) (car := h.car) (fr := h.fr) (to := h.to) (view := h.view) (span := h.span) (high := h.high) (locked := h.locked) (voted := h.voted) (used := h.used) (has0 := h.has0) (hasB := h.hasB) (hasV := h.hasV) (votes := h.votes) (votesB := h.votesB) (votesM := h.votesM) (touts := h.touts) (toutsM := h.toutsM)
    (pooled := fun i' hi' => by
      rw [e22]
      by_cases c : i' = i
      · rw [if_pos c]
        exact ⟨P + 1, by omega, rfl⟩
      · rw [if_neg c]
        exact h.pooled i' hi')
    (pool := fun i' hi' k hk hf => by
      rw [e22] at hf
      rw [e23]
      by_cases c : i' = i
      · subst c
        rw [if_pos rfl, nI_clamp (by omega)] at hf
        by_cases ck : k = P
        · subst ck
          rw [if_pos rfl]
          exact ⟨t, ht, rfl⟩
        · rw [if_neg (by omega)]
          exact h.pool i' hi' k hk (by rw [eP]; omega)
      · rw [if_neg c] at hf
        rw [if_neg (by omega)]
        exact h.pool i' hi' k hk hf)
    (poolD := fun i' hi' k hk hf k' hk' => by
      rw [e22] at hf
      rw [e23, e23]
      by_cases c : i' = i
      · subst c
        rw [if_pos rfl, nI_clamp (by omega)] at hf
        rw [if_neg (by omega)]
        by_cases ck : k = P
        · subst ck
          rw [if_pos rfl]
          exact hn k' hk'
        · rw [if_neg (by omega)]
          exact h.poolD i' hi' k hk (by rw [eP]; omega) k' hk'
      · rw [if_neg c] at hf
        rw [if_neg (by omega), if_neg (by omega)]
        exact h.poolD i' hi' k hk hf k' hk')
    (logged := h.logged) (log0 := h.log0) (log := h.log) (logP := h.logP) (fly := h.fly) (msgs := h.msgs)
end
theorem tx_or {sd : Int32} {sg : Nat → Nat} {B T : Nat} {ak : Int32} {S U : St} (h : J sd sg B T ak S U) (a : Int32) : (f_Transactions_exists a S = 0 ∧ f_M_isTransaction a U = 0) ∨ ∃ t, t < T ∧ a = nI t ∧ f_Transactions_exists a S = 1 ∧ f_M_isTransaction a U = 1 := by
  have hT2 := h.v.hT2
  have eTS : S.1 24 0 0 4 = nI T := (h.e Mp.txs).trans h.v.hT
  unfold f_Transactions_exists f_M_isTransaction
  rw [eTS, h.v.hT]
  by_cases c : a < 0
  · rw [if_pos c]
    exact Or.inl ⟨rfl, rfl⟩
  · obtain ⟨j, hj, rfl⟩ := nI_of c
    rw [if_neg c]
    by_cases l : j < T
    · have n : ¬ nI T ≤ nI j := fun q => by
        have := (nI_leI (a := T) (b := j) (by omega) (by omega)).mp q
        omega
      rw [if_neg n]
      exact Or.inr ⟨j, l, rfl, rfl, rfl⟩
    · have n : nI T ≤ nI j := (nI_leI (a := T) (b := j) (by omega) (by omega)).mpr (by omega)
      rw [if_pos n]
      exact Or.inl ⟨rfl, rfl⟩
theorem blk_or {sd : Int32} {sg : Nat → Nat} {B T : Nat} {ak : Int32} {S U : St} (h : J sd sg B T ak S U) (a : Int32) : (f_Blocks_exists a S = 0 ∧ f_M_isBlock a U = 0) ∨ ∃ b, b < B ∧ a = nI b ∧ f_Blocks_exists a S = 1 ∧ f_M_isBlock a U = 1 := by
  have hB2 := h.v.hB2
  unfold f_Blocks_exists f_M_isBlock
  rw [h.eB, h.v.hB]
  by_cases c : a < 0
  · rw [if_pos c]
    exact Or.inl ⟨rfl, rfl⟩
  · obtain ⟨j, hj, rfl⟩ := nI_of c
    rw [if_neg c]
    by_cases l : j < B
    · have n : ¬ nI B ≤ nI j := fun q => by
        have := (nI_leI (a := B) (b := j) (by omega) (by omega)).mp q
        omega
      rw [if_neg n]
      exact Or.inr ⟨j, l, rfl, rfl, rfl⟩
    · have n : nI B ≤ nI j := (nI_leI (a := B) (b := j) (by omega) (by omega)).mpr (by omega)
      rw [if_pos n]
      exact Or.inl ⟨rfl, rfl⟩
theorem b_submit {sd : Int32} {S U : St} (h : JB sd S U) (a1 a2 : Int32) : ∃ k r S' r' U', f_QC_submit a1 a2 S = (k, r, S') ∧ f_M_submit a1 a2 U = (r', U') ∧ U'.1 1 0 0 1 = nI k ∧ (k = 0 → r = r') ∧ (k ≤ 2 ∧ (k ≠ 0 → S' = S)) ∧ JB sd S' U' ∧ ok_QC_submit a1 a2 S ∧ ok_M_submit a1 a2 U := by
  have e34 : ∀ t : Int32, ¬ t ≤ 0 → ¬ t = 0 → f_M_submit_34 a1 a2 U t = (0, si U 1 0 0 1 t) ∧ ok_M_submit_34 a1 a2 U t := fun t p q => by
    unfold f_M_submit_34 ok_M_submit_34
    rw [lt, lt, thr_le, if_neg p]
    unfold f_M_submit_49 ok_M_submit_49
    have e5 : f_M_submit_53 a1 a2 200 (si U 1 0 0 1 t) 1 0 = (0, si U 1 0 0 1 t) := by
      rw [f_M_submit_53, thr_le, if_neg q, f_M_submit_103, if_neg (by decide), if_neg (by decide)]
    have o5 : ok_M_submit_53 a1 a2 200 (si U 1 0 0 1 t) 1 0 := by
      rw [ok_M_submit_53, thr_le]
      refine ⟨fun z => absurd z q, fun _ => ?_⟩
      unfold ok_M_submit_103
      exact ⟨fun z => absurd z (by decide), fun _ => trivial⟩
    exact ⟨e5, fun z => absurd z p, fun _ => o5⟩
  have e16 : f_M_submit_16 a1 a2 U = (0, si U 1 0 0 1 1) ∧ ok_M_submit_16 a1 a2 U := e34 1 (by decide) (by decide)
  obtain ⟨sg, B, T, h1⟩ := h.go
  have bad : ∀ (_ : f_QC_submit a1 a2 S = (1, 0, S)) (_ : f_M_submit a1 a2 U = (0, si U 1 0 0 1 1)) (_ : ok_QC_submit a1 a2 S) (_ : ok_M_submit a1 a2 U), ∃ k r S' r' U', f_QC_submit a1 a2 S = (k, r, S') ∧ f_M_submit a1 a2 U = (r', U') ∧ U'.1 1 0 0 1 = nI k ∧ (k = 0 → r = r') ∧ (k ≤ 2 ∧ (k ≠ 0 → S' = S)) ∧ JB sd S' U' ∧ ok_QC_submit a1 a2 S ∧ ok_M_submit a1 a2 U := fun p q o1 o2 => ⟨1, 0, S, 0, si U 1 0 0 1 1, p, q, thr_le 1, fun z => absurd z (by decide), ⟨by decide, fun _ => rfl⟩, h.thr 1, o1, o2⟩
  rcases nd_or a1 with n | ⟨i, hi, rfl⟩
  · apply bad
    · unfold f_QC_submit
      rw [lt, (n S).1, if_pos rfl]
    · unfold f_M_submit
      rw [lt, (n U).2, if_pos rfl]
      exact e16.1
    · unfold ok_QC_submit
      rw [lt, (n S).1]
      exact ⟨fun _ => trivial, fun q => absurd rfl q⟩
    · unfold ok_M_submit
      rw [lt, (n U).2]
      exact ⟨fun _ => e16.2, fun q => absurd rfl q⟩
  · have i4 : vp_in (nI i) 4 := vp_in_nI hi (by decide)
    rcases tx_or h1 a2 with ⟨n1, n2⟩ | ⟨t, ht, rfl, n1, n2⟩
    · have n2' : f_M_isTransaction a2 U = 0 := n2
      apply bad
      · unfold f_QC_submit
        rw [lt, q_isNode hi, if_neg (by decide), lt, n1, if_pos rfl]
      · unfold f_M_submit
        rw [lt, m_isNode hi, if_neg (by decide), lt, n2', if_pos rfl]
        exact e16.1
      · unfold ok_QC_submit
        rw [lt, q_isNode hi, lt, n1]
        exact ⟨fun q => absurd q (by decide), fun _ => ⟨fun _ => trivial, fun q => absurd rfl q⟩⟩
      · unfold ok_M_submit
        rw [lt, m_isNode hi, lt, n2']
        exact ⟨fun q => absurd q (by decide), fun _ => ⟨fun _ => e16.2, fun q => absurd rfl q⟩⟩
    · have n2' : f_M_isTransaction (nI t) U = 1 := n2
      clear bad
      have hT2 := h1.v.hT2
      have eu := h1.e (Mp.up hi)
      have eu' : S.1 3 i 0 7 = U.1 11 0 0 i := eu
      by_cases cu : U.1 11 0 0 i = 0
      · have e2 := e34 2 (by decide) (by decide)
        refine ⟨2, 0, S, 0, si U 1 0 0 1 2, ?_, ?_, thr_le 2, fun z => absurd z (by decide), ⟨by decide, fun _ => rfl⟩, h.thr 2, ?_, ?_⟩
        · unfold f_QC_submit
          rw [lt, q_isNode hi, if_neg (by decide), lt, n1, if_neg (by decide), nI_clamp (by omega), eu', if_pos cu]
        · unfold f_M_submit
          rw [lt, m_isNode hi, if_neg (by decide), lt, n2', if_neg (by decide), nI_clamp (by omega), if_pos cu]
          exact e2.1
        · unfold ok_QC_submit
          rw [lt, q_isNode hi, lt, n1, nI_clamp (by omega), eu']
          exact ⟨fun q => absurd q (by decide), fun _ => ⟨fun q => absurd q (by decide), fun _ => ⟨i4, fun _ => trivial, fun q => absurd cu q⟩⟩⟩
        · unfold ok_M_submit
          rw [lt, m_isNode hi, lt, n2', nI_clamp (by omega)]
          exact ⟨fun q => absurd q (by decide), fun _ => ⟨fun q => absurd q (by decide), fun _ => ⟨i4, fun _ => e2.2, fun q => absurd cu q⟩⟩⟩
      · obtain ⟨P, hP, eP⟩ := h1.v.pooled i hi
        have okM : ok_M_submit_53 (nI i) (nI t) 200 (si U 1 0 0 1 0) 0 0 → ok_M_submit (nI i) (nI t) U := fun o => by
          unfold ok_M_submit
          rw [lt, m_isNode hi, lt, n2', nI_clamp (by omega)]
          refine ⟨fun q => absurd q (by decide), fun _ => ⟨fun q => absurd q (by decide), fun _ => ⟨i4, fun q => absurd q cu, fun _ => ?_⟩⟩⟩
          unfold ok_M_submit_34
          rw [lt, thr_le]
          exact ⟨fun _ => o, fun q => absurd (by decide) q⟩
        have eM : f_M_submit (nI i) (nI t) U = f_M_submit_53 (nI i) (nI t) 200 (si U 1 0 0 1 0) 0 0 := by
          unfold f_M_submit
          rw [lt, m_isNode hi, if_neg (by decide), lt, n2', if_neg (by decide), nI_clamp (by omega), if_neg cu]
          unfold f_M_submit_34
          rw [lt, thr_le, if_pos (by decide)]
          unfold f_M_submit_49
          rfl
        have eQ : f_QC_submit (nI i) (nI t) S = (0, (f_Node_addToPool i (nI t) S).1, (f_Node_addToPool i (nI t) S).2) := by
          unfold f_QC_submit
          rw [lt, q_isNode hi, if_neg (by decide), lt, n1, if_neg (by decide), nI_clamp (by omega), eu', if_neg cu, lt]
        have okQ : ok_Node_addToPool i (nI t) S → narrow .boolean (.int (f_Node_addToPool i (nI t) S).1) = .int (f_Node_addToPool i (nI t) S).1 → ok_QC_submit (nI i) (nI t) S := fun o o' => by
          unfold ok_QC_submit
          rw [lt, q_isNode hi, lt, n1, nI_clamp (by omega), eu', lt]
          exact ⟨fun q => absurd q (by decide), fun _ => ⟨fun q => absurd q (by decide), fun _ => ⟨i4, fun q => absurd q cu, fun _ => ⟨i4, o, o', trivial⟩⟩⟩⟩
        have eA : f_Node_addToPool i (nI t) S = f_Node_addToPool_2 i (nI t) 200 S (nI 0) := by
          unfold f_Node_addToPool
          rfl
        have oA : ok_Node_addToPool_2 i (nI t) 200 S (nI 0) → ok_Node_addToPool i (nI t) S := fun o => by
          unfold ok_Node_addToPool
          exact o
        rw [show (0 : Int32) = nI 0 from rfl] at okM eM
        rw [show (nI 0 : Int32) = (0 : Int32) from rfl] at okM eM
        rcases j_pool h1 hi hP eP (t := t) 200 200 0 (by omega) (by omega) (by omega) with ⟨_, a, b, o1, o2⟩ | ⟨z, a, b, o1, o2⟩
        · have b' : f_M_submit_53 (nI i) (nI t) 200 (si U 1 0 0 1 0) 0 0 = (0, si U 1 0 0 1 0) := by
            refine Eq.trans b ?_
            unfold f_M_submit_103
            rw [if_neg (by decide), if_neg (by decide)]
          have o3 : ok_M_submit_103 (nI i) (nI t) (si U 1 0 0 1 0) 1 := by
            unfold ok_M_submit_103
            exact ⟨fun z => absurd z (by decide), fun _ => trivial⟩
          rw [eQ, eM, b']
          rw [eA, a] at okQ ⊢
          refine ⟨0, 0, S, 0, si U 1 0 0 1 0, rfl, rfl, h1.t, fun _ => rfl, ⟨by decide, fun z => absurd rfl z⟩, h1.b, okQ (by unfold ok_Node_addToPool; exact o1) nrw_0, okM (o2 o3)⟩
        · have hlt : P < 40 := by
            have pf : ∀ k, k < P → ∃ x, x < T ∧ (si U 1 0 0 1 0).1 23 0 0 (40 * i + k) = nI x := fun k hk => h1.v.pool i hi k (by omega) (by rw [eP, nI_clamp (by omega)]; exact hk)
            have := php (fun k => if k < P then ((si U 1 0 0 1 0).1 23 0 0 (40 * i + k)).toNatClampNeg else t) T (P + 1) (fun k hk => by
              show (if k < P then ((si U 1 0 0 1 0).1 23 0 0 (40 * i + k)).toNatClampNeg else t) < T
              by_cases c : k < P
              · obtain ⟨x, hx, ex⟩ := pf k c
                rw [if_pos c, ex, nI_clamp (by omega)]
                exact hx
              · rw [if_neg c]
                exact ht) (fun k hk j hj => by
              show (if j < P then ((si U 1 0 0 1 0).1 23 0 0 (40 * i + j)).toNatClampNeg else t) ≠ (if k < P then ((si U 1 0 0 1 0).1 23 0 0 (40 * i + k)).toNatClampNeg else t)
              obtain ⟨y, hy, ey⟩ := pf j (by omega)
              rw [if_pos (by omega), ey, nI_clamp (by omega)]
              by_cases c : k < P
              · obtain ⟨x, hx, ex⟩ := pf k c
                rw [if_pos c, ex, nI_clamp (by omega)]
                intro q
                have d := h1.v.poolD i hi k (by omega) (by rw [eP, nI_clamp (by omega)]; exact c) j hj
                rw [ex, ey, q] at d
                exact d rfl
              · rw [if_neg c]
                intro q
                have d := z j (by omega) (by omega)
                rw [ey, q] at d
                exact d rfl)
            omega
          have l : nI P < (40 : Int32) := (nI_ltI (a := P) (b := 40) (by omega) (by omega)).mpr hlt
          have r1 := h1.r.w (Mp.pool hi hlt) (by decide) (by decide) (nI t)
          have r2 := r1.w (Mp.pooled hi) (by decide) (by decide) (nI (P + 1))
          have iv := h1.v.addP hi hlt eP ht (fun j hj => z j (by omega) hj)
          have b' : f_M_submit_53 (nI i) (nI t) 200 (si U 1 0 0 1 0) 0 0 = (1, si (si (si U 1 0 0 1 0) 23 0 0 (40 * i + P) (nI t)) 22 0 0 i (nI (P + 1))) := by
            refine Eq.trans b ?_
            unfold f_M_submit_103
            have e6 : (si (si U 1 0 0 1 0) 23 0 0 (40 * i + P) (nI t)).1 22 0 0 i = nI P := eP
            rw [if_pos rfl, lt, lt, nI_clamp (by omega : i < 2 ^ 31), eP, ix40, nI_clamp (by omega), e6, nI_s, if_pos rfl]
          have o3 : ok_M_submit_103 (nI i) (nI t) (si U 1 0 0 1 0) 0 := by
            unfold ok_M_submit_103
            rw [lt, nI_clamp (by omega : i < 2 ^ 31), eP, ix40]
            exact ⟨fun _ => ⟨i4, vp_in_nI (by omega) (by decide), i4, i4, trivial⟩, fun q => absurd rfl q⟩
          rw [eQ, eM, b']
          rw [if_pos l] at a
          rw [eA, a] at okQ ⊢
          exact ⟨0, 1, _, 1, _, rfl, rfl, h1.t, fun _ => rfl, ⟨by decide, fun z => absurd rfl z⟩, ⟨sg, B, T, r2, iv⟩, okQ (by unfold ok_Node_addToPool; exact o1 l) nrw_1, okM (o2 o3)⟩
theorem b_begin {sd : Int32} {S U : St} (h : JB sd S U) : ∃ k r S' r' U', f_QC_begin S = (k, r, S') ∧ f_M_begin U = (r', U') ∧ U'.1 1 0 0 1 = (if k = 0 then 0 else 1) ∧ (k = 0 ∨ k = 2) ∧ (k = 0 → r = r') ∧ (k ≤ 2 ∧ (k ≠ 0 → S' = S)) ∧ JB sd S' U' ∧ ok_QC_begin S ∧ ok_M_begin U := by
  have e27 : f_M_begin_27 U = (0, si U 1 0 0 1 1) ∧ ok_M_begin_27 U := by
    unfold f_M_begin_27 ok_M_begin_27 f_M_begin_32 ok_M_begin_32
    constructor
    · rw [lt, thr_le, if_neg (by decide)]
    · rw [lt, thr_le]
      exact ⟨fun q => absurd q (by decide), fun _ => trivial⟩
  obtain ⟨sg, B, T, h1⟩ := h.go
  have eb : S.1 1 0 0 6 = U.1 1 0 0 3 := h1.e Mp.begun
  have eu : S.1 3 0 0 7 = U.1 11 0 0 0 := h1.e (Mp.up (i := 0) (by decide))
  have ev : S.1 3 0 0 8 = U.1 12 0 0 0 := h1.e (Mp.view (i := 0) (by decide))
  have h2 := h1.w Mp.begun 1 (h1.v.w1b 1)
  obtain ⟨sg', B', j, o1, o2⟩ := j_propose h2 (i := 0) (by decide)
  have okQ : ok_QC_begin S := by
    unfold ok_QC_begin
    rw [lt]
    exact ⟨fun _ => ⟨fun _ => trivial, fun _ => ⟨fun _ => ⟨o1, trivial⟩, fun _ => trivial⟩⟩, fun _ => trivial⟩
  have e32 : f_M_begin_32 U 0 = (1, f_M_propose (nI 0) (si (si U 1 0 0 1 0) 1 0 0 3 1)) ∧ ok_M_begin_32 U 0 := by
    unfold f_M_begin_32 ok_M_begin_32
    constructor
    · rw [lt, thr_le, if_pos (by decide), lt, lt]
      rfl
    · rw [lt, thr_le, lt]
      exact ⟨fun _ => ⟨o2, trivial⟩, fun q => absurd (by decide) q⟩
  have okM : ok_M_begin U := ⟨fun _ => ⟨fun _ => e27.2, fun _ => ⟨fun _ => e32.2, fun _ => e27.2⟩⟩, fun _ => e27.2⟩
  have bad : f_QC_begin S = (2, 0, S) → f_M_begin U = (0, si U 1 0 0 1 1) → ∃ k r S' r' U', f_QC_begin S = (k, r, S') ∧ f_M_begin U = (r', U') ∧ U'.1 1 0 0 1 = (if k = 0 then 0 else 1) ∧ (k = 0 ∨ k = 2) ∧ (k = 0 → r = r') ∧ (k ≤ 2 ∧ (k ≠ 0 → S' = S)) ∧ JB sd S' U' ∧ ok_QC_begin S ∧ ok_M_begin U := fun p q => ⟨2, 0, S, 0, si U 1 0 0 1 1, p, q, by rw [thr_le]; rfl, Or.inr rfl, fun z => absurd z (by decide), ⟨by decide, fun _ => rfl⟩, h.thr 1, okQ, okM⟩
  have eQ : f_QC_begin S = if U.1 1 0 0 3 = 0 then if U.1 11 0 0 0 = 0 then (2, 0, S) else if U.1 12 0 0 0 = 1 then (0, 1, f_QC_propose 0 (si S 1 0 0 6 1)) else (2, 0, S) else (2, 0, S) := by
    unfold f_QC_begin
    rw [eb, eu, ev, lt, lt]
  have eM : f_M_begin U = if U.1 1 0 0 3 = 0 then if U.1 11 0 0 0 = 0 then (0, si U 1 0 0 1 1) else if U.1 12 0 0 0 = 1 then (1, f_M_propose (nI 0) (si (si U 1 0 0 1 0) 1 0 0 3 1)) else (0, si U 1 0 0 1 1) else (0, si U 1 0 0 1 1) := by
    unfold f_M_begin
    rw [e27.1, e32.1]
  rw [eQ] at bad ⊢
  rw [eM] at bad ⊢
  by_cases c1 : U.1 1 0 0 3 = 0
  · rw [if_pos c1, if_pos c1] at bad ⊢
    by_cases c2 : U.1 11 0 0 0 = 0
    · rw [if_pos c2, if_pos c2] at bad ⊢
      exact bad rfl rfl
    · rw [if_neg c2, if_neg c2] at bad ⊢
      by_cases c3 : U.1 12 0 0 0 = 1
      · rw [if_pos c3, if_pos c3]
        exact ⟨0, 1, _, 1, _, rfl, rfl, j.t, Or.inl rfl, fun _ => rfl, ⟨by decide, fun z => absurd rfl z⟩, j.b, okQ, okM⟩
      · rw [if_neg c3, if_neg c3] at bad ⊢
        exact bad rfl rfl
  · rw [if_neg c1, if_neg c1] at bad ⊢
    exact bad rfl rfl
section
variable {sd : Int32} {sg : Nat → Nat} {B T : Nat} {ak : Int32} {S U : St}
theorem q_left (h : J sd sg B T ak S U) {i u : Nat} (hi : i < 4) (hu : u ≤ 32) (eu : U.1 18 0 0 i = nI u) : f_KeyTree_isLeft i S = if nI u = (32 : Int32) then 0 else 1 := by
  unfold f_KeyTree_isLeft
  rw [(h.e (Mp.used hi)).trans eu]
  by_cases c : u = 32
  · subst c
    rw [if_pos (by decide), if_pos (by decide)]
  · rw [if_neg (fun q => by
      have := (nI_leI (a := 32) (b := u) (by omega) (by omega)).mp q
      omega), if_neg (show ¬ nI u = (32 : Int32) from fun q => c ((nI_eq (a := u) (b := 32) (by omega) (by omega)).mp q))]
/-- node 3 signs a message of kind k for block b and sends it to i, both sides -/
theorem j_lieSend (h : J sd sg B T ak S U) {i b k u w0 : Nat} (hi : i < 4) (hb : b < B) (hb1 : 1 ≤ b) (hk : k = 1 ∨ k = 2) (hu : u < 32) (eu : U.1 18 0 0 3 = nI u) (hw : k = 2 → (U.1 7 0 0 b).toNatClampNeg = w0) : ∃ sg' S1 U1 z, f_M_meant (nI k) 0 (nI b) U = (mean (nI k) 0 (nI b), fo U z) ∧ f_QC_writeSigned 3 (nI k) (nI b) 0 S = (1, S1) ∧ f_M_signs 3 (mean (nI k) 0 (nI b)) (fo U z) = (1, U1) ∧ J sd sg' B T ak (f_Inbox_add i 4 0 S1) (f_M_send 3 (nI i) (nI k) (nI b) 0 U1) ∧ ok_QC_writeSigned 3 (nI k) (nI b) 0 S ∧ ok_M_signs 3 (mean (nI k) 0 (nI b)) (fo U z) ∧ ok_Inbox_add i 4 0 S1 ∧ ok_M_send 3 (nI i) (nI k) (nI b) 0 U1 := by
  have hB2 := h.v.hB2
  have k3 : nI k ≤ (3 : Int32) := by rcases hk with rfl | rfl <;> decide
  obtain ⟨z, ez⟩ := m_mean (nI k) 0 (nI b) U
  obtain ⟨S3, U3, w1, w2, j3, d3, k40, fr3, e18n, p1, p2⟩ := j_sign h (i := 3) (by decide) hu eu (nI k) (nI b) 0 k3 w0 z
  have ms : MsgOk (upn sg (32 * 3 + u) w0) B (U3.1 18 0 0) (U3.1 7 0 0) (nI k) (nI 3) (nI b) 0 (if nI k ≤ (3 : Int32) then U3.1 1 0 0 40 else -1) := by
    rw [if_pos k3, k40]
    refine ⟨⟨k, by omega, by omega, rfl⟩, ⟨3, by decide, rfl⟩, ⟨b, hb, rfl, fun _ => hb1⟩, ⟨0, by decide, rfl⟩, fun _ => ⟨u, hu, rfl⟩, fun q => absurd k3 q, fun q => ?_, fun q => ?_⟩
    · rcases hk with rfl | rfl
      · exact absurd q (by decide)
      · rw [nI_clamp (by decide), nI_clamp (by omega), fr3 7 (by decide) (by decide) (by decide), hw rfl, e18n]
        exact Mk.new hu
    · rcases hk with rfl | rfl <;> exact absurd q (by decide)
  have g := j_send j3 hi d3 ms
  exact ⟨_, S3, U3, z, ez, w1, w2, g.1, p1, p2, g.2.2.2.1, g.2.2.2.2⟩
end
theorem b_lieVote {sd : Int32} {S U : St} (h : JB sd S U) (a1 a2 : Int32) : ∃ k r S' r' U', f_QC_lieVote a1 a2 S = (k, r, S') ∧ f_M_lieVote a1 a2 U = (r', U') ∧ U'.1 1 0 0 1 = nI k ∧ (k = 0 → r = r') ∧ (k ≤ 2 ∧ (k ≠ 0 → S' = S)) ∧ JB sd S' U' ∧ ok_QC_lieVote a1 a2 S ∧ ok_M_lieVote a1 a2 U := by
  have e49 : ∀ t : Int32, ¬ t ≤ 0 → f_M_lieVote_49 a1 a2 U t = (0, si U 1 0 0 1 t) ∧ ok_M_lieVote_49 a1 a2 U t := fun t p => by
    unfold f_M_lieVote_49 ok_M_lieVote_49
    constructor
    · rw [lt, thr_le, if_neg p]
    · rw [lt, thr_le]
      exact ⟨fun q => absurd q p, fun _ => trivial⟩
  have e16 : f_M_lieVote_16 a1 a2 U = (0, si U 1 0 0 1 1) ∧ ok_M_lieVote_16 a1 a2 U := e49 1 (by decide)
  have e44 : f_M_lieVote_44 a1 a2 U = (0, si U 1 0 0 1 2) ∧ ok_M_lieVote_44 a1 a2 U := e49 2 (by decide)
  have bad : ∀ c : Nat, 1 ≤ c ∧ c ≤ 2 → f_QC_lieVote a1 a2 S = (c, 0, S) → f_M_lieVote a1 a2 U = (0, si U 1 0 0 1 (nI c)) → ok_QC_lieVote a1 a2 S → ok_M_lieVote a1 a2 U → ∃ k r S' r' U', f_QC_lieVote a1 a2 S = (k, r, S') ∧ f_M_lieVote a1 a2 U = (r', U') ∧ U'.1 1 0 0 1 = nI k ∧ (k = 0 → r = r') ∧ (k ≤ 2 ∧ (k ≠ 0 → S' = S)) ∧ JB sd S' U' ∧ ok_QC_lieVote a1 a2 S ∧ ok_M_lieVote a1 a2 U := fun c hc p q o1 o2 => ⟨c, 0, S, 0, si U 1 0 0 1 (nI c), p, q, thr_le _, fun z => by omega, ⟨hc.2, fun _ => rfl⟩, h.thr _, o1, o2⟩
  obtain ⟨sg, B, T, h1⟩ := h.go
  rcases nd_or a1 with n | ⟨i, hi, rfl⟩
  · apply bad 1 (by decide)
    · unfold f_QC_lieVote
      rw [lt, (n S).1, if_pos rfl]
    · unfold f_M_lieVote
      rw [lt, (n U).2, if_pos rfl]
      exact e16.1
    · unfold ok_QC_lieVote
      rw [lt, (n S).1]
      exact ⟨fun _ => trivial, fun q => absurd rfl q⟩
    · unfold ok_M_lieVote
      rw [lt, (n U).2]
      exact ⟨fun _ => e16.2, fun q => absurd rfl q⟩
  · have i4 : vp_in (nI i) 4 := vp_in_nI hi (by decide)
    rcases blk_or h1 a2 with ⟨n1, n2⟩ | ⟨b, hb, rfl, n1, n2⟩
    · have n2' : f_M_isBlock a2 U = 0 := n2
      apply bad 1 (by decide)
      · unfold f_QC_lieVote
        rw [lt, q_isNode hi, if_neg (by decide), lt, n1, if_pos rfl]
      · unfold f_M_lieVote
        rw [lt, m_isNode hi, if_neg (by decide), lt, n2', if_pos rfl]
        exact e16.1
      · unfold ok_QC_lieVote
        rw [lt, q_isNode hi, lt, n1]
        exact ⟨fun q => absurd q (by decide), fun _ => ⟨fun _ => trivial, fun q => absurd rfl q⟩⟩
      · unfold ok_M_lieVote
        rw [lt, m_isNode hi, lt, n2']
        exact ⟨fun q => absurd q (by decide), fun _ => ⟨fun _ => e16.2, fun q => absurd rfl q⟩⟩
    · have n2' : f_M_isBlock (nI b) U = 1 := n2
      have hB2 := h1.v.hB2
      have eu : S.1 3 3 0 7 = U.1 11 0 0 3 := h1.e (Mp.up (i := 3) (by decide))
      obtain ⟨u, hu, eus⟩ := h1.v.used 3 (by decide)
      have eus' : U.1 18 0 0 3 = nI u := eus
      have lf := q_left h1 (i := 3) (by decide) hu eus
      have eQ : f_QC_lieVote (nI i) (nI b) S = if U.1 11 0 0 3 = 0 then (2, 0, S) else if nI u = (32 : Int32) then (2, 0, S) else if nI b = 0 then (2, 0, S) else if (f_QC_writeSigned 3 2 (nI b) 0 S).1 = 0 then (0, 1, (f_QC_writeSigned 3 2 (nI b) 0 S).2) else (0, 1, f_Inbox_add i 4 0 (f_QC_writeSigned 3 2 (nI b) 0 S).2) := by
        unfold f_QC_lieVote
        rw [lt, q_isNode hi, if_neg (by decide), lt, n1, if_neg (by decide), eu, lt, lf, nI_clamp (by omega), lt, lt]
        by_cases c : nI u = (32 : Int32)
        · rw [if_pos c, if_pos rfl, if_pos c]
        · rw [if_neg c, if_neg (show ¬ (1 : Int32) = 0 by decide), if_neg c]
      have eM : f_M_lieVote (nI i) (nI b) U = if U.1 11 0 0 3 = 0 then (0, si U 1 0 0 1 2) else if nI u = (32 : Int32) then (0, si U 1 0 0 1 2) else if nI b = 0 then (0, si U 1 0 0 1 2) else f_M_lieVote_49 (nI i) (nI b) U 0 := by
        unfold f_M_lieVote
        rw [lt, m_isNode hi, if_neg (by decide), lt, n2', if_neg (by decide), eus', e44.1]
      have oQ : (¬ nI u = (32 : Int32) → ¬ nI b = 0 → ok_QC_writeSigned 3 2 (nI b) 0 S ∧ (¬ (f_QC_writeSigned 3 2 (nI b) 0 S).1 = 0 → ok_Inbox_add i 4 0 (f_QC_writeSigned 3 2 (nI b) 0 S).2)) → ok_QC_lieVote (nI i) (nI b) S := fun o => by
        unfold ok_QC_lieVote
        rw [lt, q_isNode hi, lt, n1, lt, lf, nI_clamp (by omega), lt]
        refine ⟨fun q => absurd q (by decide), fun _ => ⟨fun q => absurd q (by decide), fun _ => ⟨fun _ => trivial, fun _ => ⟨fun _ => trivial, fun c => ⟨fun _ => trivial, fun c2 => ?_⟩⟩⟩⟩⟩
        have cu : ¬ nI u = (32 : Int32) := fun z => c (by rw [if_pos z])
        exact ⟨(o cu c2).1, fun _ => trivial, fun q => ⟨i4, (o cu c2).2 q, trivial⟩⟩
      have oM : (¬ nI u = (32 : Int32) → ¬ nI b = 0 → ok_M_lieVote_49 (nI i) (nI b) U 0) → ok_M_lieVote (nI i) (nI b) U := fun o => by
        unfold ok_M_lieVote
        rw [lt, m_isNode hi, lt, n2', eus']
        exact ⟨fun q => absurd q (by decide), fun _ => ⟨fun q => absurd q (by decide), fun _ => ⟨fun _ => e44.2, fun _ => ⟨fun _ => e44.2, fun c => ⟨fun _ => e44.2, fun c2 => o c c2⟩⟩⟩⟩⟩
      by_cases cu : u = 32
      · subst cu
        have okA := oQ (fun q => absurd (by decide) q)
        have okB := oM (fun q => absurd (by decide) q)
        apply bad 2 (by decide) ?_ ?_ okA okB
        · rw [eQ]
          by_cases c1 : U.1 11 0 0 3 = 0
          · rw [if_pos c1]
          · rw [if_neg c1, if_pos (by decide)]
        · rw [eM]
          by_cases c1 : U.1 11 0 0 3 = 0
          · rw [if_pos c1]
            rfl
          · rw [if_neg c1, if_pos (by decide)]
            rfl
      · have nu : ¬ nI u = (32 : Int32) := fun q => cu ((nI_eq (a := u) (b := 32) (by omega) (by omega)).mp q)
        by_cases b0 : b = 0
        · subst b0
          have okA := oQ (fun _ q => absurd (by decide) q)
          have okB := oM (fun _ q => absurd (by decide) q)
          apply bad 2 (by decide) ?_ ?_ okA okB
          · rw [eQ, if_neg nu]
            by_cases c1 : U.1 11 0 0 3 = 0
            · rw [if_pos c1]
            · rw [if_neg c1, if_pos (by decide)]
          · rw [eM, if_neg nu]
            by_cases c1 : U.1 11 0 0 3 = 0
            · rw [if_pos c1]
              rfl
            · rw [if_neg c1, if_pos (by decide)]
              rfl
        · have nb : ¬ nI b = 0 := nI_ne0 (by omega) (by omega)
          obtain ⟨sg', S1, U1, z, ez, w1, w2, jj, p1, p2, p3, p4⟩ := j_lieSend h1 (k := 2) hi hb (by omega) (Or.inr rfl) (by omega : u < 32) eus (fun _ => rfl)
          have w1' : f_QC_writeSigned 3 2 (nI b) 0 S = (1, S1) := w1
          have e490 : f_M_lieVote_49 (nI i) (nI b) U 0 = (1, f_M_send 3 (nI i) 2 (nI b) 0 U1) := by
            unfold f_M_lieVote_49
            rw [lt, thr_le, if_pos (by decide), lt, show f_M_meant 2 0 (nI b) (si U 1 0 0 1 0) = _ from ez, lt, show f_M_signs 3 (mean (nI 2) 0 (nI b), fo (si U 1 0 0 1 0) z).1 (mean (nI 2) 0 (nI b), fo (si U 1 0 0 1 0) z).2 = _ from w2, if_neg (show ¬ (1 : Int32) = 0 by decide), lt]
          have o490 : ok_M_lieVote_49 (nI i) (nI b) U 0 := by
            unfold ok_M_lieVote_49
            rw [lt, thr_le, lt, show f_M_meant 2 0 (nI b) (si U 1 0 0 1 0) = _ from ez, lt, show f_M_signs 3 (mean (nI 2) 0 (nI b), fo (si U 1 0 0 1 0) z).1 (mean (nI 2) 0 (nI b), fo (si U 1 0 0 1 0) z).2 = _ from w2]
            exact ⟨fun _ => ⟨p2, fun _ => trivial, fun _ => ⟨p4, trivial⟩⟩, fun q => absurd (by decide) q⟩
          have okA : ok_QC_lieVote (nI i) (nI b) S := oQ (fun _ _ => ⟨p1, fun _ => by rw [w1']; exact p3⟩)
          have okB : ok_M_lieVote (nI i) (nI b) U := oM (fun _ _ => o490)
          by_cases c1 : U.1 11 0 0 3 = 0
          · apply bad 2 (by decide) ?_ ?_ okA okB
            · rw [eQ, if_pos c1]
            · rw [eM, if_pos c1]
              rfl
          · rw [eQ, eM, if_neg c1, if_neg c1, if_neg nu, if_neg nu, if_neg nb, if_neg nb, e490, w1', if_neg (show ¬ (1 : Int32) = 0 by decide)]
            exact ⟨0, 1, _, 1, _, rfl, rfl, jj.t, fun _ => rfl, ⟨by decide, fun z => absurd rfl z⟩, jj.b, okA, okB⟩
