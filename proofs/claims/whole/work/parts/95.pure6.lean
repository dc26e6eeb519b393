/-! lie, alter, disturb. -/
def lQ (i : Nat) (a2 a3 a4 : Int32) (S : St) : Nat × Int32 × St :=
  if a2 < (1 : Int32) then (1, 0, S) else if (60 : Int32) < a2 then (1, 0, S) else if f_QC_leaderOf a2 S = (3 : Int32) then (if S.1 3 3 0 7 = 0 then (2, 0, S) else if f_KeyTree_isLeft 3 S = 0 then (2, 0, S) else if f_Store_hasBlock 3 a3 S = 0 then (2, 0, S) else if f_Blocks_isCertified a3 S = 0 then (2, 0, S) else if a2 ≤ f_Blocks_viewOf a3 S then (2, 0, S) else if S.1 19 0 0 4 < (100 : Int32) then (if (f_QC_writeSigned 3 1 (f_Blocks_add a2 a3 a4 S).1 0 (f_Store_keepBlock 3 (f_Blocks_add a2 a3 a4 S).1 (f_Blocks_add a2 a3 a4 S).2)).1 = 0 then (0, (f_Blocks_add a2 a3 a4 S).1, (f_QC_writeSigned 3 1 (f_Blocks_add a2 a3 a4 S).1 0 (f_Store_keepBlock 3 (f_Blocks_add a2 a3 a4 S).1 (f_Blocks_add a2 a3 a4 S).2)).2) else (0, (f_Blocks_add a2 a3 a4 S).1, f_Inbox_add i 4 0 (f_QC_writeSigned 3 1 (f_Blocks_add a2 a3 a4 S).1 0 (f_Store_keepBlock 3 (f_Blocks_add a2 a3 a4 S).1 (f_Blocks_add a2 a3 a4 S).2)).2)) else (2, 0, S)) else (1, 0, S)
def lQo (i : Nat) (a2 a3 a4 : Int32) (S : St) : Prop :=
  (a2 < (1 : Int32) → True) ∧ (¬ a2 < (1 : Int32) → ((60 : Int32) < a2 → True) ∧ (¬ (60 : Int32) < a2 → (f_QC_leaderOf a2 S = (3 : Int32) → (S.1 3 3 0 7 = 0 → True) ∧ (¬ S.1 3 3 0 7 = 0 → (f_KeyTree_isLeft 3 S = 0 → True) ∧ (¬ f_KeyTree_isLeft 3 S = 0 → ok_Store_hasBlock 3 a3 S ∧ (f_Store_hasBlock 3 a3 S = 0 → True) ∧ (¬ f_Store_hasBlock 3 a3 S = 0 → ok_Blocks_isCertified a3 S ∧ (f_Blocks_isCertified a3 S = 0 → True) ∧ (¬ f_Blocks_isCertified a3 S = 0 → ok_Blocks_viewOf a3 S ∧ (a2 ≤ f_Blocks_viewOf a3 S → True) ∧ (¬ a2 ≤ f_Blocks_viewOf a3 S → (S.1 19 0 0 4 < (100 : Int32) → ok_Blocks_add a2 a3 a4 S ∧ ok_Store_keepBlock 3 (f_Blocks_add a2 a3 a4 S).1 (f_Blocks_add a2 a3 a4 S).2 ∧ ok_QC_writeSigned 3 1 (f_Blocks_add a2 a3 a4 S).1 0 (f_Store_keepBlock 3 (f_Blocks_add a2 a3 a4 S).1 (f_Blocks_add a2 a3 a4 S).2) ∧ ((f_QC_writeSigned 3 1 (f_Blocks_add a2 a3 a4 S).1 0 (f_Store_keepBlock 3 (f_Blocks_add a2 a3 a4 S).1 (f_Blocks_add a2 a3 a4 S).2)).1 = 0 → True) ∧ (¬ (f_QC_writeSigned 3 1 (f_Blocks_add a2 a3 a4 S).1 0 (f_Store_keepBlock 3 (f_Blocks_add a2 a3 a4 S).1 (f_Blocks_add a2 a3 a4 S).2)).1 = 0 → vp_in (nI i) 4 ∧ ok_Inbox_add i 4 0 (f_QC_writeSigned 3 1 (f_Blocks_add a2 a3 a4 S).1 0 (f_Store_keepBlock 3 (f_Blocks_add a2 a3 a4 S).1 (f_Blocks_add a2 a3 a4 S).2)).2 ∧ True)) ∧ (¬ S.1 19 0 0 4 < (100 : Int32) → True)))))) ) ∧ (¬ f_QC_leaderOf a2 S = (3 : Int32) → True)))
theorem q_lie {i : Nat} (hi : i < 4) {a2 a3 a4 : Int32} {S : St} (e3 : f_Blocks_exists a3 S = 1) (h4 : a4 = -1 ∨ (a4 ≠ -1 ∧ f_Transactions_exists a4 S = 1)) : f_QC_lie (nI i) a2 a3 a4 S = lQ i a2 a3 a4 S ∧ (lQo i a2 a3 a4 S → ok_QC_lie (nI i) a2 a3 a4 S) := by
  unfold f_QC_lie ok_QC_lie
  constructor
  · rw [lt, q_isNode hi, if_neg (by decide), lt, e3, if_neg (by decide), nI_clamp (by omega)]
    unfold lQ
    rcases h4 with h4 | ⟨h4, e4⟩
    · rw [if_pos h4]
      repeat rw [lt]
    · rw [if_neg h4, lt, e4, if_neg (by decide)]
      repeat rw [lt]
  · intro o
    unfold lQo at o
    rw [lt, q_isNode hi, lt, e3, nI_clamp (by omega)]
    refine ⟨fun q => absurd q (by decide), fun _ => ⟨fun q => absurd q (by decide), fun _ => ?_⟩⟩
    rcases h4 with h4 | ⟨h4, e4⟩
    · refine ⟨fun _ => ?_, fun q => absurd h4 q⟩
      repeat rw [lt]
      exact o
    · refine ⟨fun q => absurd q h4, fun _ => ?_⟩
      rw [lt, e4]
      refine ⟨fun q => absurd q (by decide), fun _ => ?_⟩
      repeat rw [lt]
      exact o
theorem b_lie {sd : Int32} {S U : St} (h : JB sd S U) (a1 a2 a3 a4 : Int32) : ∃ k r S' r' U', f_QC_lie a1 a2 a3 a4 S = (k, r, S') ∧ f_M_lie a1 a2 a3 a4 U = (r', U') ∧ U'.1 1 0 0 1 = nI k ∧ (k = 0 → r = r') ∧ (k ≤ 2 ∧ (k ≠ 0 → S' = S)) ∧ JB sd S' U' ∧ ok_QC_lie a1 a2 a3 a4 S ∧ ok_M_lie a1 a2 a3 a4 U := by
  have e132 : ∀ t : Int32, ¬ t ≤ 0 → f_M_lie_132 a1 a2 a3 a4 U t = (0, si U 1 0 0 1 t) ∧ ok_M_lie_132 a1 a2 a3 a4 U t := fun t p => by
    unfold f_M_lie_132 ok_M_lie_132
    constructor
    · rw [lt, thr_le, if_neg p]
    · rw [lt, thr_le]
      exact ⟨fun q => absurd q p, fun _ => trivial⟩
  have e53 : f_M_lie_53 a1 a2 a3 a4 U = (0, si U 1 0 0 1 1) ∧ ok_M_lie_53 a1 a2 a3 a4 U := by
    unfold f_M_lie_53 ok_M_lie_53 f_M_lie_54 ok_M_lie_54
    rw [if_pos rfl]
    exact ⟨(e132 1 (by decide)).1, fun _ => (e132 1 (by decide)).2, fun q => absurd rfl q⟩
  have e127 : f_M_lie_127 a1 a2 a3 a4 U = (0, si U 1 0 0 1 2) ∧ ok_M_lie_127 a1 a2 a3 a4 U := e132 2 (by decide)
  have bad : ∀ c : Nat, 1 ≤ c ∧ c ≤ 2 → f_QC_lie a1 a2 a3 a4 S = (c, 0, S) → f_M_lie a1 a2 a3 a4 U = (0, si U 1 0 0 1 (nI c)) → ok_QC_lie a1 a2 a3 a4 S → ok_M_lie a1 a2 a3 a4 U → ∃ k r S' r' U', f_QC_lie a1 a2 a3 a4 S = (k, r, S') ∧ f_M_lie a1 a2 a3 a4 U = (r', U') ∧ U'.1 1 0 0 1 = nI k ∧ (k = 0 → r = r') ∧ (k ≤ 2 ∧ (k ≠ 0 → S' = S)) ∧ JB sd S' U' ∧ ok_QC_lie a1 a2 a3 a4 S ∧ ok_M_lie a1 a2 a3 a4 U := fun c hc p q o1 o2 => ⟨c, 0, S, 0, si U 1 0 0 1 (nI c), p, q, thr_le _, fun z => by omega, ⟨hc.2, fun _ => rfl⟩, h.thr _, o1, o2⟩
  obtain ⟨sg, B, T, h1⟩ := h.go
  rcases nd_or a1 with n | ⟨i, hi, rfl⟩
  · apply bad 1 (by decide)
    · unfold f_QC_lie
      rw [lt, (n S).1, if_pos rfl]
    · unfold f_M_lie
      rw [lt, (n U).2, if_pos rfl]
      exact e53.1
    · unfold ok_QC_lie
      rw [lt, (n S).1]
      exact ⟨fun _ => trivial, fun q => absurd rfl q⟩
    · unfold ok_M_lie
      rw [lt, (n U).2]
      exact ⟨fun _ => e53.2, fun q => absurd rfl q⟩
  · have i4 : vp_in (nI i) 4 := vp_in_nI hi (by decide)
    rcases blk_or h1 a3 with ⟨n1, n2⟩ | ⟨p, hp, rfl, n1, n2⟩
    · have n2' : f_M_isBlock a3 U = 0 := n2
      apply bad 1 (by decide)
      · unfold f_QC_lie
        rw [lt, q_isNode hi, if_neg (by decide), lt, n1, if_pos rfl]
      · unfold f_M_lie
        rw [lt, m_isNode hi, if_neg (by decide), lt, n2', if_pos rfl]
        exact e53.1
      · unfold ok_QC_lie
        rw [lt, q_isNode hi, lt, n1]
        exact ⟨fun q => absurd q (by decide), fun _ => ⟨fun _ => trivial, fun q => absurd rfl q⟩⟩
      · unfold ok_M_lie
        rw [lt, m_isNode hi, lt, n2']
        exact ⟨fun q => absurd q (by decide), fun _ => ⟨fun _ => e53.2, fun q => absurd rfl q⟩⟩
    · have n2' : f_M_isBlock (nI p) U = 1 := n2
      -- the transaction
      have hx : (a4 ≠ -1 ∧ f_Transactions_exists a4 S = 0 ∧ f_M_isTransaction a4 U = 0) ∨ ((a4 = -1 ∨ (a4 ≠ -1 ∧ f_Transactions_exists a4 S = 1)) ∧ (a4 = -1 ∨ ∃ t, t < T ∧ a4 = nI t) ∧ (a4 = -1 ∨ (a4 ≠ -1 ∧ f_M_isTransaction a4 U = 1))) := by
        by_cases c : a4 = -1
        · exact Or.inr ⟨Or.inl c, Or.inl c, Or.inl c⟩
        · rcases tx_or h1 a4 with ⟨x1, x2⟩ | ⟨t, ht, e, x1, x2⟩
          · exact Or.inl ⟨c, x1, x2⟩
          · exact Or.inr ⟨Or.inr ⟨c, x1⟩, Or.inr ⟨t, ht, e⟩, Or.inr ⟨c, x2⟩⟩
      rcases hx with ⟨c, x1, x2⟩ | ⟨x1, x2, x3⟩
      · apply bad 1 (by decide)
        · unfold f_QC_lie
          rw [lt, q_isNode hi, if_neg (by decide), lt, n1, if_neg (by decide), if_neg c, lt, x1, if_pos rfl]
        · unfold f_M_lie
          rw [lt, m_isNode hi, if_neg (by decide), lt, n2', if_neg (by decide), if_neg c, lt, x2, if_pos rfl]
          exact e53.1
        · unfold ok_QC_lie
          rw [lt, q_isNode hi, lt, n1]
          refine ⟨fun q => absurd q (by decide), fun _ => ⟨fun q => absurd q (by decide), fun _ => ⟨fun q => absurd q c, fun _ => ?_⟩⟩⟩
          rw [lt, x1]
          exact ⟨fun _ => trivial, fun q => absurd rfl q⟩
        · unfold ok_M_lie
          rw [lt, m_isNode hi, lt, n2']
          refine ⟨fun q => absurd q (by decide), fun _ => ⟨fun q => absurd q (by decide), fun _ => ⟨fun q => absurd q c, fun _ => ?_⟩⟩⟩
          rw [lt, x2]
          exact ⟨fun _ => e53.2, fun q => absurd rfl q⟩
      · have ql := q_lie hi (a2 := a2) n1 x1
        have eM : f_M_lie (nI i) a2 (nI p) a4 U = f_M_lie_30 (nI i) a2 (nI p) a4 U ∧ (ok_M_lie_30 (nI i) a2 (nI p) a4 U → ok_M_lie (nI i) a2 (nI p) a4 U) := by
          unfold f_M_lie ok_M_lie
          constructor
          · rw [lt, m_isNode hi, if_neg (by decide), lt, n2', if_neg (by decide)]
            rcases x3 with c | ⟨c, x⟩
            · rw [if_pos c]
            · rw [if_neg c, lt, x, if_neg (by decide)]
          · intro o
            rw [lt, m_isNode hi, lt, n2']
            refine ⟨fun q => absurd q (by decide), fun _ => ⟨fun q => absurd q (by decide), fun _ => ⟨fun _ => o, fun c => ?_⟩⟩⟩
            rcases x3 with c' | ⟨_, x⟩
            · exact absurd c' c
            · rw [lt, x]
              exact ⟨fun q => absurd q (by decide), fun _ => o⟩
        have hB2 := h1.v.hB2
        rw [ql.1] at bad ⊢
        rw [eM.1] at bad ⊢
        have oQ := ql.2
        have oM := eM.2
        clear ql eM
        have p100 : vp_in (nI p) 100 := vp_in_nI (by omega) (by decide)
        have p400 : vp_in (nI (300 + p)) 400 := vp_in_nI (by omega) (by decide)
        have e300 : (300 : Int32) + nI p = nI (300 + p) := nI_add 300 p
        have eu : S.1 3 3 0 7 = U.1 11 0 0 3 := h1.e (Mp.up (i := 3) (by decide))
        obtain ⟨u, hu, eus⟩ := h1.v.used 3 (by decide)
        have eus' : U.1 18 0 0 3 = nI u := eus
        have lf := q_left h1 (i := 3) (by decide) hu eus
        have hh := q_hasBlock h1 (i := 3) (b := p) (by decide) (by omega)
        have ce := q_isCert h1 hp
        have vo := q_viewOf h1 hp
        have eB := h1.eB
        have eBU : U.1 1 0 0 11 = nI B := h1.v.hB
        have hh' : f_Store_hasBlock 3 (nI p) S = if U.1 19 0 0 (300 + p) = 0 then 0 else 1 := hh.1
        have ce' : f_Blocks_isCertified (nI p) S = if U.1 10 0 0 p = 0 then 0 else 1 := ce.1
        have vo' : f_Blocks_viewOf (nI p) S = U.1 7 0 0 p := vo.1
        by_cases c1 : a2 < 1
        · refine bad 1 (by decide) ?_ ?_ (oQ ⟨fun _ => trivial, fun q => absurd c1 q⟩) (oM ⟨fun _ => e53.2, fun q => absurd c1 q⟩)
          · unfold lQ
            rw [if_pos c1]
          · unfold f_M_lie_30
            rw [if_pos c1]
            exact e53.1
        · by_cases c2 : (60 : Int32) < a2
          · refine bad 1 (by decide) ?_ ?_ (oQ ⟨fun q => absurd q c1, fun _ => ⟨fun _ => trivial, fun q => absurd c2 q⟩⟩) (oM ⟨fun q => absurd q c1, fun _ => ⟨fun _ => e53.2, fun q => absurd c2 q⟩⟩)
            · unfold lQ
              rw [if_neg c1, if_pos c2]
            · unfold f_M_lie_30
              rw [if_neg c1, if_pos c2]
              exact e53.1
          · obtain ⟨v, hv1, hv2, rfl⟩ : ∃ v : Nat, 1 ≤ v ∧ v ≤ 60 ∧ a2 = nI v := by
              have n0 : ¬ a2 < 0 := fun q => c1 (by
                rw [Int32.lt_iff_toInt_lt] at q ⊢
                have e0 : (0 : Int32).toInt = 0 := by decide
                have e1 : (1 : Int32).toInt = 1 := by decide
                omega)
              obtain ⟨j, hj, rfl⟩ := nI_of n0
              refine ⟨j, ?_, ?_, rfl⟩
              · rcases Nat.lt_or_ge j 1 with z | z
                · exact absurd ((nI_ltI (a := j) (b := 1) hj (by omega)).mpr z) c1
                · exact z
              · rcases Nat.lt_or_ge 60 j with z | z
                · exact absurd ((nI_ltI (a := 60) (b := j) (by omega) hj).mpr z) c2
                · exact z
            have ld := q_leader hv1 (by omega : v < 129)
            by_cases c3 : nI ((v - 1) / 4 % 4) = (3 : Int32)
            · -- node 3 leads
              have eQ : lQ i (nI v) (nI p) a4 S = if U.1 11 0 0 3 = 0 then (2, 0, S) else if nI u = (32 : Int32) then (2, 0, S) else if U.1 19 0 0 (300 + p) = 0 then (2, 0, S) else if U.1 10 0 0 p = 0 then (2, 0, S) else if nI v ≤ U.1 7 0 0 p then (2, 0, S) else if nI B < (100 : Int32) then (if (f_QC_writeSigned 3 1 (f_Blocks_add (nI v) (nI p) a4 S).1 0 (f_Store_keepBlock 3 (f_Blocks_add (nI v) (nI p) a4 S).1 (f_Blocks_add (nI v) (nI p) a4 S).2)).1 = 0 then (0, (f_Blocks_add (nI v) (nI p) a4 S).1, (f_QC_writeSigned 3 1 (f_Blocks_add (nI v) (nI p) a4 S).1 0 (f_Store_keepBlock 3 (f_Blocks_add (nI v) (nI p) a4 S).1 (f_Blocks_add (nI v) (nI p) a4 S).2)).2) else (0, (f_Blocks_add (nI v) (nI p) a4 S).1, f_Inbox_add i 4 0 (f_QC_writeSigned 3 1 (f_Blocks_add (nI v) (nI p) a4 S).1 0 (f_Store_keepBlock 3 (f_Blocks_add (nI v) (nI p) a4 S).1 (f_Blocks_add (nI v) (nI p) a4 S).2)).2)) else (2, 0, S) := by
                unfold lQ
                rw [if_neg c1, if_neg c2, (ld S).1, if_pos c3, eu, lf, hh', ce', vo', eB]
                by_cases d1 : nI u = (32 : Int32)
                · rw [if_pos d1, if_pos rfl, if_pos d1]
                · rw [if_neg d1, if_neg (show ¬ (1 : Int32) = 0 by decide), if_neg d1]
                  by_cases d2 : U.1 19 0 0 (300 + p) = 0
                  · rw [if_pos d2, if_pos rfl, if_pos d2]
                  · rw [if_neg d2, if_neg (show ¬ (1 : Int32) = 0 by decide), if_neg d2]
                    by_cases d3 : U.1 10 0 0 p = 0
                    · rw [if_pos d3, if_pos rfl, if_pos d3]
                    · rw [if_neg d3, if_neg (show ¬ (1 : Int32) = 0 by decide), if_neg d3]
              have eM : f_M_lie_30 (nI i) (nI v) (nI p) a4 U = if U.1 11 0 0 3 = 0 then (0, si U 1 0 0 1 2) else if nI u = (32 : Int32) then (0, si U 1 0 0 1 2) else if U.1 19 0 0 (300 + p) = 0 then (0, si U 1 0 0 1 2) else if U.1 10 0 0 p = 0 then (0, si U 1 0 0 1 2) else if nI v ≤ U.1 7 0 0 p then (0, si U 1 0 0 1 2) else if nI B = (100 : Int32) then (0, si U 1 0 0 1 2) else f_M_lie_132 (nI i) (nI v) (nI p) a4 U 0 := by
                unfold f_M_lie_30
                rw [if_neg c1, if_neg c2, lt, (ld U).2, if_pos c3]
                unfold f_M_lie_54
                rw [if_neg (by decide), eus', e300, nI_clamp (by omega), nI_clamp (by omega), eBU, e127.1]
              have okA : (¬ nI u = (32 : Int32) → nI B < (100 : Int32) → ok_Blocks_add (nI v) (nI p) a4 S ∧ ok_Store_keepBlock 3 (f_Blocks_add (nI v) (nI p) a4 S).1 (f_Blocks_add (nI v) (nI p) a4 S).2 ∧ ok_QC_writeSigned 3 1 (f_Blocks_add (nI v) (nI p) a4 S).1 0 (f_Store_keepBlock 3 (f_Blocks_add (nI v) (nI p) a4 S).1 (f_Blocks_add (nI v) (nI p) a4 S).2) ∧ ok_Inbox_add i 4 0 (f_QC_writeSigned 3 1 (f_Blocks_add (nI v) (nI p) a4 S).1 0 (f_Store_keepBlock 3 (f_Blocks_add (nI v) (nI p) a4 S).1 (f_Blocks_add (nI v) (nI p) a4 S).2)).2) → lQo i (nI v) (nI p) a4 S := fun o => by
                refine ⟨fun q => absurd q c1, fun _ => ⟨fun q => absurd q c2, fun _ => ⟨fun _ => ⟨fun _ => trivial, fun _ => ⟨fun _ => trivial, fun d1 => ⟨hh.2, fun _ => trivial, fun _ => ⟨ce.2, fun _ => trivial, fun _ => ⟨vo.2, fun _ => trivial, fun _ => ⟨fun d2 => ?_, fun _ => trivial⟩⟩⟩⟩⟩⟩, fun q => absurd (by rw [(ld S).1]; exact c3) q⟩⟩⟩
                have cu : ¬ nI u = (32 : Int32) := fun z => d1 (by rw [lf, if_pos z])
                rw [eB] at d2
                have k := o cu d2
                exact ⟨k.1, k.2.1, k.2.2.1, fun _ => trivial, fun _ => ⟨i4, k.2.2.2, trivial⟩⟩
              have okB : (¬ nI u = (32 : Int32) → ¬ nI B = (100 : Int32) → ok_M_lie_132 (nI i) (nI v) (nI p) a4 U 0) → ok_M_lie_30 (nI i) (nI v) (nI p) a4 U := fun o => by
                unfold ok_M_lie_30
                rw [lt, (ld U).2]
                refine ⟨fun q => absurd q c1, fun _ => ⟨fun q => absurd q c2, fun _ => ⟨fun _ => ?_, fun q => absurd c3 q⟩⟩⟩
                unfold ok_M_lie_54
                rw [eus', e300, nI_clamp (by omega), nI_clamp (by omega), eBU]
                exact ⟨fun q => absurd q (by decide), fun _ => ⟨fun _ => e127.2, fun _ => ⟨fun _ => e127.2, fun d1 => ⟨p400, fun _ => e127.2, fun _ => ⟨p100, fun _ => e127.2, fun _ => ⟨p100, fun _ => e127.2, fun _ => ⟨fun _ => e127.2, fun d2 => o d1 d2⟩⟩⟩⟩⟩⟩⟩
              rw [eQ] at bad ⊢
              rw [eM] at bad ⊢
              -- no key, or no room
              by_cases cu : u = 32
              · subst cu
                have y1 := oQ (okA (fun q => absurd (by decide) q))
                have y2 := oM (okB (fun q => absurd (by decide) q))
                refine bad 2 (by decide) ?_ ?_ y1 y2
                · by_cases d : U.1 11 0 0 3 = 0
                  · rw [if_pos d]
                  · rw [if_neg d, if_pos (by decide)]
                · by_cases d : U.1 11 0 0 3 = 0
                  · rw [if_pos d]
                    rfl
                  · rw [if_neg d, if_pos (by decide)]
                    rfl
              · have nu : ¬ nI u = (32 : Int32) := fun q => cu ((nI_eq (a := u) (b := 32) (by omega) (by omega)).mp q)
                rw [if_neg nu, if_neg nu] at bad ⊢
                by_cases cB : B = 100
                · subst cB
                  have y1 := oQ (okA (fun _ q => absurd q (by decide)))
                  have y2 := oM (okB (fun _ q => absurd (by decide) q))
                  refine bad 2 (by decide) ?_ ?_ y1 y2
                  · rw [if_neg (show ¬ nI 100 < (100 : Int32) by decide)]
                    repeat (split <;> try rfl)
                  · rw [if_pos (show nI 100 = (100 : Int32) by decide)]
                    repeat (split <;> try rfl)
                    all_goals rfl
                · have hB : B < 100 := by omega
                  have lB : nI B < (100 : Int32) := (nI_ltI (a := B) (b := 100) (by omega) (by omega)).mpr hB
                  have nB : ¬ nI B = (100 : Int32) := fun q => cB ((nI_eq (a := B) (b := 100) (by omega) (by omega)).mp q)
                  have rv : Rc sg ((si U 1 0 0 1 0).1 18 0 0) v := fun w a b => by omega
                  obtain ⟨S1, S2, U2, w1, w2, w3, j2, fr, e7, o1, o2, o3⟩ := j_newB h1 (i := 3) (by decide) hB hv1 (by omega) rv hp (t := a4) x2
                  have w1a := congrArg Prod.fst w1
                  have w1b := congrArg Prod.snd w1
                  simp only at w1a w1b
                  have eu2 : U2.1 18 0 0 3 = nI u := by rw [fr 18 (by decide) (by decide) (by decide) (by decide) (by decide)]; exact eus
                  obtain ⟨sg', S3, U3, z, ez, v1, v2, jj, p1, p2, p3, p4⟩ := j_lieSend (w0 := 0) j2 (k := 1) hi (by omega : B < B + 1) h1.v.hB1 (Or.inl rfl) (by omega : u < 32) eu2 (fun q => absurd q (by decide))
                  have v1' : f_QC_writeSigned 3 1 (nI B) 0 S2 = (1, S3) := v1
                  have m132 : f_M_lie_132 (nI i) (nI v) (nI p) a4 U 0 = (nI B, f_M_send 3 (nI i) 1 (nI B) 0 U3) ∧ ok_M_lie_132 (nI i) (nI v) (nI p) a4 U 0 := by
                    unfold f_M_lie_132 ok_M_lie_132
                    constructor
                    · rw [lt, thr_le, if_pos (by decide), lt, show f_M_newBlock 3 (nI v) (nI p) a4 (si U 1 0 0 1 0) = _ from w3, lt, show f_M_meant 1 0 (nI B, U2).1 (nI B, U2).2 = _ from ez, lt, show f_M_signs 3 (mean (nI 1) 0 (nI B), fo U2 z).1 (mean (nI 1) 0 (nI B), fo U2 z).2 = _ from v2, if_neg (show ¬ (1 : Int32) = 0 by decide), lt]
                    · rw [lt, thr_le, lt, show f_M_newBlock 3 (nI v) (nI p) a4 (si U 1 0 0 1 0) = _ from w3, lt, show f_M_meant 1 0 (nI B, U2).1 (nI B, U2).2 = _ from ez, lt, show f_M_signs 3 (mean (nI 1) 0 (nI B), fo U2 z).1 (mean (nI 1) 0 (nI B), fo U2 z).2 = _ from v2]
                      exact ⟨fun _ => ⟨o3, p2, fun _ => trivial, fun _ => ⟨p4, trivial⟩⟩, fun q => absurd (by decide) q⟩
                  rw [w1a, w1b, w2, v1'] at okA
                  have y1 := oQ (okA (fun _ _ => ⟨o1, o2, p1, p3⟩))
                  have y2 := oM (okB (fun _ _ => m132.2))
                  rw [w1a, w1b, w2, v1', if_pos lB, if_neg nB, m132.1] at bad ⊢
                  by_cases d1 : U.1 11 0 0 3 = 0
                  · rw [if_pos d1, if_pos d1] at bad ⊢
                    exact bad 2 (by decide) rfl rfl y1 y2
                  · rw [if_neg d1, if_neg d1] at bad ⊢
                    by_cases d2 : U.1 19 0 0 (300 + p) = 0
                    · rw [if_pos d2, if_pos d2] at bad ⊢
                      exact bad 2 (by decide) rfl rfl y1 y2
                    · rw [if_neg d2, if_neg d2] at bad ⊢
                      by_cases d3 : U.1 10 0 0 p = 0
                      · rw [if_pos d3, if_pos d3] at bad ⊢
                        exact bad 2 (by decide) rfl rfl y1 y2
                      · rw [if_neg d3, if_neg d3] at bad ⊢
                        by_cases d4 : nI v ≤ U.1 7 0 0 p
                        · rw [if_pos d4, if_pos d4] at bad ⊢
                          exact bad 2 (by decide) rfl rfl y1 y2
                        · rw [if_neg d4, if_neg d4, if_neg (show ¬ (1 : Int32) = 0 by decide)]
                          exact ⟨0, nI B, _, nI B, _, rfl, rfl, jj.t, fun _ => rfl, ⟨by decide, fun z => absurd rfl z⟩, jj.b, y1, y2⟩
            · refine bad 1 (by decide) ?_ ?_ (oQ ⟨fun q => absurd q c1, fun _ => ⟨fun q => absurd q c2, fun _ => ⟨fun q => absurd (by rw [← (ld S).1]; exact q) c3, fun _ => trivial⟩⟩⟩) (oM ?_)
              · unfold lQ
                rw [if_neg c1, if_neg c2, (ld S).1, if_neg c3]
              · unfold f_M_lie_30
                rw [if_neg c1, if_neg c2, lt, (ld U).2, if_neg c3]
                exact e53.1
              · unfold ok_M_lie_30
                rw [lt, (ld U).2]
                exact ⟨fun q => absurd q c1, fun _ => ⟨fun q => absurd q c2, fun _ => ⟨fun q => absurd q c3, fun _ => e53.2⟩⟩⟩
theorem ix176 (i n : Nat) : (176 : Int32) * nI i + nI n = nI (176 * i + n) := by
  rw [show (176 : Int32) = nI 176 from rfl, nI_m, nI_add]
theorem b_alter {sd : Int32} {S U : St} (h : JB sd S U) (a1 a2 : Int32) (a3 : Int64) : ∃ k r S' r' U', f_QC_alter a1 a2 a3 S = (k, r, S') ∧ f_M_alter a1 a2 a3 U = (r', U') ∧ U'.1 1 0 0 1 = nI k ∧ (k = 0 → r = r') ∧ (k ≤ 2 ∧ (k ≠ 0 → S' = S)) ∧ JB sd S' U' ∧ ok_QC_alter a1 a2 a3 S ∧ ok_M_alter a1 a2 a3 U := by
  have e49 : ∀ t : Int32, ¬ t ≤ 0 → f_M_alter_49 a1 a2 a3 U t = (0, si U 1 0 0 1 t) ∧ ok_M_alter_49 a1 a2 a3 U t := fun t p => by
    unfold f_M_alter_49 ok_M_alter_49
    constructor
    · rw [lt, thr_le, if_neg p]
    · rw [lt, thr_le]
      exact ⟨fun q => absurd q p, fun _ => trivial⟩
  have e18 : f_M_alter_18 a1 a2 a3 U = (0, si U 1 0 0 1 1) ∧ ok_M_alter_18 a1 a2 a3 U := e49 1 (by decide)
  have e44 : f_M_alter_44 a1 a2 a3 U = (0, si U 1 0 0 1 2) ∧ ok_M_alter_44 a1 a2 a3 U := e49 2 (by decide)
  have bad : ∀ c : Nat, 1 ≤ c ∧ c ≤ 2 → f_QC_alter a1 a2 a3 S = (c, 0, S) → f_M_alter a1 a2 a3 U = (0, si U 1 0 0 1 (nI c)) → ok_QC_alter a1 a2 a3 S → ok_M_alter a1 a2 a3 U → ∃ k r S' r' U', f_QC_alter a1 a2 a3 S = (k, r, S') ∧ f_M_alter a1 a2 a3 U = (r', U') ∧ U'.1 1 0 0 1 = nI k ∧ (k = 0 → r = r') ∧ (k ≤ 2 ∧ (k ≠ 0 → S' = S)) ∧ JB sd S' U' ∧ ok_QC_alter a1 a2 a3 S ∧ ok_M_alter a1 a2 a3 U := fun c hc p q o1 o2 => ⟨c, 0, S, 0, si U 1 0 0 1 (nI c), p, q, thr_le _, fun z => by omega, ⟨hc.2, fun _ => rfl⟩, h.thr _, o1, o2⟩
  obtain ⟨sg, B, T, h1⟩ := h.go
  rcases nd_or a1 with n | ⟨i, hi, rfl⟩
  · apply bad 1 (by decide)
    · unfold f_QC_alter
      rw [lt, (n S).1, if_pos rfl]
    · unfold f_M_alter
      rw [lt, (n U).2, if_pos rfl]
      exact e18.1
    · unfold ok_QC_alter
      rw [lt, (n S).1]
      exact ⟨fun _ => trivial, fun q => absurd rfl q⟩
    · unfold ok_M_alter
      rw [lt, (n U).2]
      exact ⟨fun _ => e18.2, fun q => absurd rfl q⟩
  · have i4 : vp_in (nI i) 4 := vp_in_nI hi (by decide)
    have p64 : vp_in (nI (16 * i)) 64 := vp_in_nI (by omega) (by decide)
    obtain ⟨F, hF, eF⟩ := h1.v.fly i hi
    have eF' : U.1 28 0 0 i = nI F := eF
    have eFS : S.1 12 i 0 1 = nI F := (h1.e (Mp.flying hi)).trans eF
    have hr := h1.r.row i hi 0 (by decide)
    have eQ : f_QC_alter (nI i) a2 a3 S = if a2 < 0 then (1, 0, S) else if a2 < (11 : Int32) then (if nI F = 0 then (2, 0, S) else if S.1 14 i (S.2.2 13 i 0 0) 5 = (-1 : Int32) then (2, 0, S) else (0, 1, sl S 15 i (S.2.2 13 i 0 0) a2.toNatClampNeg (S.2.1 15 i (S.2.2 13 i 0 0) a2.toNatClampNeg ^^^ a3))) else (1, 0, S) := by
      unfold f_QC_alter f_Inbox_first
      rw [lt, q_isNode hi, if_neg (by decide), nI_clamp (by omega), eFS]
      repeat rw [lt]
    have eM : f_M_alter (nI i) a2 a3 U = if a2 < 0 then (0, si U 1 0 0 1 1) else if a2 ≤ (10 : Int32) then (if nI F = 0 then (0, si U 1 0 0 1 2) else if U.1 29 0 0 (16 * i) ≤ (3 : Int32) then f_M_alter_49 (nI i) a2 a3 U 0 else (0, si U 1 0 0 1 2)) else (0, si U 1 0 0 1 1) := by
      unfold f_M_alter
      rw [lt, m_isNode hi, if_neg (by decide), nI_clamp (by omega : i < 2 ^ 31), eF', e16, nI_clamp (by omega), e18.1, e44.1]
    by_cases c1 : a2 < 0
    · refine bad 1 (by decide) ?_ ?_ ?_ ?_
      · rw [eQ, if_pos c1]
      · rw [eM, if_pos c1]
        rfl
      · unfold ok_QC_alter
        rw [lt, q_isNode hi]
        exact ⟨fun q => absurd q (by decide), fun _ => ⟨fun _ => trivial, fun q => absurd c1 q⟩⟩
      · unfold ok_M_alter
        rw [lt, m_isNode hi]
        exact ⟨fun q => absurd q (by decide), fun _ => ⟨fun _ => e18.2, fun q => absurd c1 q⟩⟩
    · obtain ⟨w, hw, rfl⟩ := nI_of c1
      by_cases c2 : w < 11
      · have l1 : nI w < (11 : Int32) := (nI_ltI (a := w) (b := 11) hw (by omega)).mpr c2
        have l2 : nI w ≤ (10 : Int32) := (nI_leI (a := w) (b := 10) hw (by omega)).mpr (by omega)
        have w11 : vp_in (nI w) 11 := vp_in_nI c2 (by decide)
        have p704 : vp_in (nI (176 * i + w)) 704 := vp_in_nI (by omega) (by decide)
        have okQ : ok_QC_alter (nI i) (nI w) a3 S := by
          unfold ok_QC_alter f_Inbox_first ok_Inbox_first
          rw [lt, q_isNode hi, nI_clamp (by omega)]
          refine ⟨fun q => absurd q (by decide), fun _ => ⟨fun q => absurd q c1, fun _ => ⟨fun _ => ⟨i4, fun _ => trivial, fun _ => ⟨⟨hr, trivial⟩, ?_⟩⟩, fun q => absurd l1 q⟩⟩⟩
          rw [lt, lt]
          exact ⟨hr, fun _ => trivial, fun _ => ⟨⟨hr, trivial⟩, hr, w11, w11, trivial⟩⟩
        have o490 : ok_M_alter_49 (nI i) (nI w) a3 U 0 := by
          unfold ok_M_alter_49
          rw [lt, thr_le, ix176]
          exact ⟨fun _ => ⟨p704, p704, trivial⟩, fun q => absurd (by decide) q⟩
        have okM : ok_M_alter (nI i) (nI w) a3 U := by
          unfold ok_M_alter
          rw [lt, m_isNode hi, e16]
          exact ⟨fun q => absurd q (by decide), fun _ => ⟨fun q => absurd q c1, fun _ => ⟨fun _ => ⟨i4, fun _ => e44.2, fun _ => ⟨p64, fun _ => o490, fun _ => e44.2⟩⟩, fun q => absurd l2 q⟩⟩⟩
        rw [eQ] at bad ⊢
        rw [eM] at bad ⊢
        rw [if_neg c1, if_neg c1, if_pos l1, if_pos l2] at bad ⊢
        by_cases c0 : F = 0
        · subst c0
          rw [if_pos (by decide), if_pos (by decide)] at bad ⊢
          exact bad 2 (by decide) rfl rfl okQ okM
        · have nz : ¬ nI F = 0 := nI_ne0 (by omega) (by omega)
          have hf0 : 0 < ((si U 1 0 0 1 0).1 28 0 0 i).toNatClampNeg := by rw [eF, nI_clamp (by omega)]; omega
          have ms := h1.v.msgs i hi 0 (by decide) hf0
          have mg : S.1 14 i (S.2.2 13 i 0 0) 5 = (si U 1 0 0 1 0).1 33 0 0 (16 * i) := h1.r.msg i hi 0 (by decide) hf0 5 (by decide) (by decide)
          have sg0 := h1.r.sg i hi 0 (by decide) hf0
          rw [Nat.add_zero] at ms sg0
          rw [if_neg nz, if_neg nz, mg] at bad ⊢
          by_cases c3 : U.1 29 0 0 (16 * i) ≤ (3 : Int32)
          · obtain ⟨u, hu, eu⟩ := ms.key c3
            have nk : ¬ (si U 1 0 0 1 0).1 33 0 0 (16 * i) = -1 := by rw [eu]; exact nI_ne1 (by omega)
            rw [if_neg nk, if_pos c3, nI_clamp (by omega)]
            have e490 : f_M_alter_49 (nI i) (nI w) a3 U 0 = (1, sl (si U 1 0 0 1 0) 34 0 0 (176 * i + w) ((si U 1 0 0 1 0).2.1 34 0 0 (176 * i + w) ^^^ a3)) := by
              unfold f_M_alter_49
              rw [lt, thr_le, if_pos (by decide), lt, ix176, nI_clamp (by omega)]
            rw [e490]
            refine ⟨0, 1, _, 1, _, rfl, rfl, h1.t, fun _ => rfl, ⟨by decide, fun z => absurd rfl z⟩, ⟨sg, B, T, ?_, h1.v⟩, okQ, okM⟩
            have r := h1.r
            have ex := sg0 c3 w c2
            refine Rel.mk (m := r.m) (id := r.id) (se := r.se) (ow := r.ow) (us := ?_) (tr := ?_) (row := r.row) (inj := r.inj) (msg := r.msg) (sg := ?_) (bc := r.bc)
            · rw [sl_l, if_neg (fun q => by omega)]
              exact r.us
            · intro i' hi' x hx
              rw [sl_l, sl_l, if_neg (fun q => by omega), if_neg (fun q => by omega)]
              exact r.tr i' hi' x hx
            · intro i' hi' k hk hf h3 l hl
              have aS : ∀ (X : Int64) (i2 j2 l2 : Nat), (sl S 15 i (S.2.2 13 i 0 0) w X).2.1 15 i2 j2 l2 = if i2 = i ∧ j2 = S.2.2 13 i 0 0 ∧ l2 = w then X else S.2.1 15 i2 j2 l2 := fun X i2 j2 l2 => by
                rw [sl_l]
                by_cases z : i2 = i ∧ j2 = S.2.2 13 i 0 0 ∧ l2 = w
                · rw [if_pos ⟨rfl, z⟩, if_pos z]
                · rw [if_neg (fun q => z q.2), if_neg z]
              have aU : ∀ (X : Int64) (y : Nat), (sl (si U 1 0 0 1 0) 34 0 0 (176 * i + w) X).2.1 34 0 0 y = if y = 176 * i + w then X else (si U 1 0 0 1 0).2.1 34 0 0 y := fun X y => by
                rw [sl_l]
                by_cases z : y = 176 * i + w
                · rw [if_pos ⟨rfl, rfl, rfl, z⟩, if_pos z]
                · rw [if_neg (fun q => z q.2.2.2), if_neg z]
              refine (aS _ _ _ _).trans (Eq.trans ?_ (aU _ _).symm)
              show (if i' = i ∧ S.2.2 13 i' 0 k = S.2.2 13 i 0 0 ∧ l = w then S.2.1 15 i (S.2.2 13 i 0 0) w ^^^ a3 else S.2.1 15 i' (S.2.2 13 i' 0 k) l) = _
              by_cases ci : i' = i
              · subst ci
                by_cases ck : k = 0
                · subst ck
                  by_cases cl : l = w
                  · subst cl
                    rw [if_pos ⟨rfl, rfl, rfl⟩, if_pos (by omega), ex, show 11 * (16 * i') + l = 176 * i' + l by omega]
                  · rw [if_neg (fun q => cl q.2.2), if_neg (by omega)]
                    exact r.sg i' hi' 0 hk hf h3 l hl
                · rw [if_neg (fun q => ck (r.inj i' hi' k hk 0 (by decide) q.2.1)), if_neg (by omega)]
                  exact r.sg i' hi' k hk hf h3 l hl
              · rw [if_neg (fun q => ci q.1), if_neg (by omega)]
                exact r.sg i' hi' k hk hf h3 l hl
          · have nk := ms.nokey c3
            rw [if_pos nk, if_neg c3] at bad ⊢
            exact bad 2 (by decide) rfl rfl okQ okM
      · have l1 : ¬ nI w < (11 : Int32) := fun q => c2 ((nI_ltI (a := w) (b := 11) hw (by omega)).mp q)
        have l2 : ¬ nI w ≤ (10 : Int32) := fun q => c2 (by have := (nI_leI (a := w) (b := 10) hw (by omega)).mp q; omega)
        refine bad 1 (by decide) ?_ ?_ ?_ ?_
        · rw [eQ, if_neg c1, if_neg l1]
        · rw [eM, if_neg c1, if_neg l2]
          rfl
        · unfold ok_QC_alter
          rw [lt, q_isNode hi]
          exact ⟨fun q => absurd q (by decide), fun _ => ⟨fun q => absurd q c1, fun _ => ⟨fun q => absurd q l1, fun _ => trivial⟩⟩⟩
        · unfold ok_M_alter
          rw [lt, m_isNode hi]
          exact ⟨fun q => absurd q (by decide), fun _ => ⟨fun q => absurd q c1, fun _ => ⟨fun q => absurd q l2, fun _ => e18.2⟩⟩⟩
theorem m_dist {i : Nat} (hi : i < 4) (a2 l4 l5 l6 l7 k40 : Int32) (U0 : St) (n : Nat) : ∀ (l : Nat) (V : St), l ≤ 11 → 11 - l < n → Scr U0 V → V.1 1 0 0 40 = k40 → (∀ x, x < l → V.2.1 35 0 0 x = U0.2.1 34 0 0 (176 * i + x)) → ∃ V', f_M_disturb_162 (nI i) a2 n V l4 l5 l6 l7 (nI l) = (if a2 = (1 : Int32) then (1, f_M_send l5 (nI i) l4 l6 l7 (f_M_land (nI i) V')) else (1, f_M_land (nI i) V')) ∧ Scr U0 V' ∧ V'.1 1 0 0 40 = k40 ∧ (∀ x, x < 11 → V'.2.1 35 0 0 x = U0.2.1 34 0 0 (176 * i + x)) ∧ (ok_M_land (nI i) V' → (a2 = (1 : Int32) → ok_M_send l5 (nI i) l4 l6 l7 (f_M_land (nI i) V')) → ok_M_disturb_162 (nI i) a2 n V l4 l5 l6 l7 (nI l)) := by
  induction n with
  | zero => exact fun l V _ h => absurd h (Nat.not_lt_zero _)
  | succ n ih =>
    intro l V hl hn hV h40 hg
    rw [f_M_disturb_162, ok_M_disturb_162]
    by_cases h : l = 11
    · subst h
      rw [if_pos (by decide), lt, lt, lt]
      exact ⟨V, rfl, hV, h40, hg, fun o1 o2 => ⟨fun _ => ⟨o1, fun q => ⟨o2 q, trivial⟩, fun _ => trivial⟩, fun q => absurd (by decide) q⟩⟩
    · have c : ¬ (11 : Int32) ≤ nI l := fun q => by
        have := (nI_leI (a := 11) (b := l) (by omega) (by omega)).mp q
        omega
      rw [if_neg c, lt, lt, ix176, nI_clamp (by omega), nI_clamp (by omega), nI_s]
      obtain ⟨V', e, a, b, d, o⟩ := ih (l + 1) (sl V 35 0 0 l (V.2.1 34 0 0 (176 * i + l))) (by omega) (by omega) (hV.trans (Scr.sgl _ _ _)) h40 (fun x hx => by
        rw [sl_l]
        by_cases hc : x = l
        · rw [if_pos ⟨rfl, rfl, rfl, hc⟩, hc, hV.l 34 _ (fun q => by omega) (by decide)]
        · rw [if_neg (fun q => hc q.2.2.2)]
          exact hg x (by omega))
      exact ⟨V', e, a, b, d, fun o1 o2 => ⟨fun q => absurd q c, fun _ => ⟨vp_in_nI (by omega) (by decide), vp_in_nI (by omega) (by decide), o o1 o2⟩⟩⟩
theorem b_disturb {sd : Int32} {S U : St} (h : JB sd S U) (a1 a2 : Int32) : ∃ k r S' r' U', f_QC_disturb a1 a2 S = (k, r, S') ∧ f_M_disturb a1 a2 U = (r', U') ∧ U'.1 1 0 0 1 = nI k ∧ (k = 0 → r = r') ∧ (k ≤ 2 ∧ (k ≠ 0 → S' = S)) ∧ JB sd S' U' ∧ ok_QC_disturb a1 a2 S ∧ ok_M_disturb a1 a2 U := by
  have e51 : ∀ t : Int32, ¬ t ≤ 0 → f_M_disturb_51 a1 a2 U t = (0, si U 1 0 0 1 t) ∧ ok_M_disturb_51 a1 a2 U t := fun t p => by
    unfold f_M_disturb_51 ok_M_disturb_51
    constructor
    · rw [lt, thr_le, if_neg p]
    · rw [lt, thr_le]
      exact ⟨fun q => absurd q p, fun _ => trivial⟩
  have e17 : f_M_disturb_17 a1 a2 U = (0, si U 1 0 0 1 1) ∧ ok_M_disturb_17 a1 a2 U := e51 1 (by decide)
  have e46 : f_M_disturb_46 a1 a2 U = (0, si U 1 0 0 1 2) ∧ ok_M_disturb_46 a1 a2 U := e51 2 (by decide)
  have bad : ∀ c : Nat, 1 ≤ c ∧ c ≤ 2 → f_QC_disturb a1 a2 S = (c, 0, S) → f_M_disturb a1 a2 U = (0, si U 1 0 0 1 (nI c)) → ok_QC_disturb a1 a2 S → ok_M_disturb a1 a2 U → ∃ k r S' r' U', f_QC_disturb a1 a2 S = (k, r, S') ∧ f_M_disturb a1 a2 U = (r', U') ∧ U'.1 1 0 0 1 = nI k ∧ (k = 0 → r = r') ∧ (k ≤ 2 ∧ (k ≠ 0 → S' = S)) ∧ JB sd S' U' ∧ ok_QC_disturb a1 a2 S ∧ ok_M_disturb a1 a2 U := fun c hc p q o1 o2 => ⟨c, 0, S, 0, si U 1 0 0 1 (nI c), p, q, thr_le _, fun z => by omega, ⟨hc.2, fun _ => rfl⟩, h.thr _, o1, o2⟩
  obtain ⟨sg, B, T, h1⟩ := h.go
  rcases nd_or a1 with n | ⟨i, hi, rfl⟩
  · apply bad 1 (by decide)
    · unfold f_QC_disturb
      rw [lt, (n S).1, if_pos rfl]
    · unfold f_M_disturb
      rw [lt, (n U).2, if_pos rfl]
      exact e17.1
    · unfold ok_QC_disturb
      rw [lt, (n S).1]
      exact ⟨fun _ => trivial, fun q => absurd rfl q⟩
    · unfold ok_M_disturb
      rw [lt, (n U).2]
      exact ⟨fun _ => e17.2, fun q => absurd rfl q⟩
  · have i4 : vp_in (nI i) 4 := vp_in_nI hi (by decide)
    have p64 : vp_in (nI (16 * i)) 64 := vp_in_nI (by omega) (by decide)
    obtain ⟨F, hF, eF⟩ := h1.v.fly i hi
    have eF' : U.1 28 0 0 i = nI F := eF
    have eFS : S.1 12 i 0 1 = nI F := (h1.e (Mp.flying hi)).trans eF
    have hr := h1.r.row i hi 0 (by decide)
    by_cases c1 : a2 < 0
    · refine bad 1 (by decide) ?_ ?_ ?_ ?_
      · unfold f_QC_disturb
        rw [lt, q_isNode hi, if_neg (by decide), if_pos c1]
      · unfold f_M_disturb
        rw [lt, m_isNode hi, if_neg (by decide), if_pos c1]
        exact e17.1
      · unfold ok_QC_disturb
        rw [lt, q_isNode hi]
        exact ⟨fun q => absurd q (by decide), fun _ => ⟨fun _ => trivial, fun q => absurd c1 q⟩⟩
      · unfold ok_M_disturb
        rw [lt, m_isNode hi]
        exact ⟨fun q => absurd q (by decide), fun _ => ⟨fun _ => e17.2, fun q => absurd c1 q⟩⟩
    · obtain ⟨w, hw, rfl⟩ := nI_of c1
      by_cases c2 : w ≤ 2
      · have l2 : nI w ≤ (2 : Int32) := (nI_leI (a := w) (b := 2) hw (by omega)).mpr c2
        by_cases c0 : F = 0
        · subst c0
          refine bad 2 (by decide) ?_ ?_ ?_ ?_
          · unfold f_QC_disturb
            rw [lt, q_isNode hi, if_neg (by decide), if_neg c1, if_pos l2, nI_clamp (by omega), eFS, if_pos (by decide)]
          · unfold f_M_disturb
            rw [lt, m_isNode hi, if_neg (by decide), if_neg c1, if_pos l2, nI_clamp (by omega), eF', if_pos (by decide)]
            exact e46.1
          · unfold ok_QC_disturb
            rw [lt, q_isNode hi, nI_clamp (by omega), eFS]
            exact ⟨fun q => absurd q (by decide), fun _ => ⟨fun q => absurd q c1, fun _ => ⟨fun _ => ⟨i4, fun _ => trivial, fun q => absurd (by decide) q⟩, fun q => absurd l2 q⟩⟩⟩
          · unfold ok_M_disturb
            rw [lt, m_isNode hi, nI_clamp (by omega), eF']
            exact ⟨fun q => absurd q (by decide), fun _ => ⟨fun q => absurd q c1, fun _ => ⟨fun _ => ⟨i4, fun _ => e46.2, fun q => absurd (by decide) q⟩, fun q => absurd l2 q⟩⟩⟩
        · obtain ⟨G, rfl⟩ : ∃ G, F = G + 1 := ⟨F - 1, by omega⟩
          have nz : ¬ nI (G + 1) = 0 := nI_ne0 (by omega) (by omega)
          have hf0 : 0 < ((si U 1 0 0 1 0).1 28 0 0 i).toNatClampNeg := by rw [eF, nI_clamp (by omega)]; omega
          have ms := h1.v.msgs i hi 0 (by decide) hf0
          have mg : ∀ f, 1 ≤ f → f ≤ 5 → S.1 14 i (S.2.2 13 i 0 0) f = (si U 1 0 0 1 0).1 (28 + f) 0 0 (16 * i) := h1.r.msg i hi 0 (by decide) hf0
          have sg0 := h1.r.sg i hi 0 (by decide) hf0
          rw [Nat.add_zero] at ms sg0
          obtain ⟨U1, hU1⟩ : ∃ z, z = si U 1 0 0 1 0 := ⟨_, rfl⟩
          rw [← hU1] at h1 eF hf0 ms mg sg0
          by_cases w2 : w = 2
          · subst w2
            by_cases f16 : G + 1 = 16
            · have g15 : G = 15 := by omega
              subst g15
              refine bad 2 (by decide) ?_ ?_ ?_ ?_
              · unfold f_QC_disturb
                rw [lt, q_isNode hi, if_neg (by decide), if_neg c1, if_pos l2, nI_clamp (by omega), eFS, if_neg nz, if_pos (by decide), if_neg (by decide)]
              · unfold f_M_disturb
                rw [lt, m_isNode hi, if_neg (by decide), if_neg c1, if_pos l2, nI_clamp (by omega), eF', if_neg nz, if_pos (by decide), if_pos (by decide)]
                exact e46.1
              · unfold ok_QC_disturb
                rw [lt, q_isNode hi, nI_clamp (by omega), eFS]
                exact ⟨fun q => absurd q (by decide), fun _ => ⟨fun q => absurd q c1, fun _ => ⟨fun _ => ⟨i4, fun _ => trivial, fun _ => ⟨fun _ => ⟨fun q => absurd q (by decide), fun _ => trivial⟩, fun q => absurd (by decide) q⟩⟩, fun q => absurd l2 q⟩⟩⟩
              · unfold ok_M_disturb
                rw [lt, m_isNode hi, nI_clamp (by omega), eF']
                exact ⟨fun q => absurd q (by decide), fun _ => ⟨fun q => absurd q c1, fun _ => ⟨fun _ => ⟨i4, fun q => absurd q nz, fun _ => ⟨fun _ => ⟨i4, fun _ => e46.2, fun q => absurd (by decide) q⟩, fun q => absurd (by decide) q⟩⟩, fun q => absurd l2 q⟩⟩⟩
            · have hlt : G + 1 < 16 := by omega
              have l16 : nI (G + 1) < (16 : Int32) := (nI_ltI (a := G + 1) (b := 16) (by omega) (by omega)).mpr hlt
              have n16 : ¬ nI (G + 1) = (16 : Int32) := fun q => f16 ((nI_eq (a := G + 1) (b := 16) (by omega) (by omega)).mp q)
              have hrF := h1.r.row i hi (G + 1) hlt
              have hne : ¬ (i = i ∧ S.2.2 13 i 0 0 = S.2.2 13 i 0 (G + 1)) := fun q => by
                have := h1.r.inj i hi 0 (by decide) (G + 1) hlt q.2
                omega
              have qa := q_add i i (S.2.2 13 i 0 0) (G + 1) S hlt eFS hrF hne
              have mc := m_copy (16 * i) (16 * i + (G + 1)) (by omega) (by omega) (by omega) U1
              have eQ : f_QC_disturb (nI i) (nI 2) S = (0, 1, f_Inbox_add i i (S.2.2 13 i 0 0) S) := by
                unfold f_QC_disturb f_Inbox_first
                rw [lt, q_isNode hi, if_neg (by decide), if_neg c1, if_pos l2, nI_clamp (by omega), eFS, if_neg nz, if_pos (by decide), if_pos l16, if_neg (by decide), if_neg (by decide)]
                repeat rw [lt]
              have okQ : ok_QC_disturb (nI i) (nI 2) S := by
                unfold ok_QC_disturb f_Inbox_first ok_Inbox_first
                rw [lt, q_isNode hi, nI_clamp (by omega), eFS]
                refine ⟨fun q => absurd q (by decide), fun _ => ⟨fun q => absurd q c1, fun _ => ⟨fun _ => ⟨i4, fun _ => trivial, fun _ => ⟨fun _ => ⟨fun _ => ⟨fun q => absurd q (by decide), fun _ => ⟨fun q => absurd q (by decide), fun _ => ⟨⟨hr, trivial⟩, ?_⟩⟩⟩, fun _ => trivial⟩, fun q => absurd (by decide) q⟩⟩, fun q => absurd l2 q⟩⟩⟩
                rw [lt]
                exact ⟨hr, qa.2.2.2, trivial⟩
              have eM : f_M_disturb (nI i) (nI 2) U = (1, si (f_M_copyMessage (nI (16 * i)) (nI (16 * i + (G + 1))) U1) 28 0 0 i (nI (G + 2))) := by
                unfold f_M_disturb
                rw [lt, m_isNode hi, if_neg (by decide), if_neg c1, if_pos l2, nI_clamp (by omega), eF', if_neg nz, if_pos (by decide), if_neg n16]
                unfold f_M_disturb_50 f_M_disturb_51
                rw [lt, thr_le, if_pos (by decide), if_pos (by decide), lt, lt, nI_clamp (by omega), ← hU1, eF, e16, nI_add]
                have e28 : (f_M_copyMessage (nI (16 * i)) (nI (16 * i + (G + 1))) U1).1 28 0 0 i = nI (G + 1) := by
                  rw [mc.1, if_neg (fun q => by omega)]
                  exact eF
                rw [e28, nI_s]
              have okM : ok_M_disturb (nI i) (nI 2) U := by
                unfold ok_M_disturb
                rw [lt, m_isNode hi, nI_clamp (by omega), eF']
                refine ⟨fun q => absurd q (by decide), fun _ => ⟨fun q => absurd q c1, fun _ => ⟨fun _ => ⟨i4, fun q => absurd q nz, fun _ => ⟨fun _ => ⟨i4, fun q => absurd q n16, fun _ => ?_⟩, fun q => absurd (by decide) q⟩⟩, fun q => absurd l2 q⟩⟩⟩
                unfold ok_M_disturb_50 ok_M_disturb_51
                rw [lt, thr_le, nI_clamp (by omega), ← hU1, eF, e16, nI_add]
                refine ⟨fun _ => ⟨i4, fun _ => ⟨mc.2.2.2, ?_⟩, fun q => absurd (by decide) q⟩, fun q => absurd (by decide) q⟩
                rw [lt]
                exact ⟨i4, i4, trivial⟩
              have aS : AppS i (G + 1) (S.2.2 13 i 0 (G + 1)) (fun f => U1.1 (28 + f) 0 0 (16 * i)) (fun l => U1.2.1 34 0 0 (11 * (16 * i) + l)) S (f_Inbox_add i i (S.2.2 13 i 0 0) S) := by
                refine AppS.mk (fun k p q x z1 z2 => ?_) ?_ (fun f f1 f5 => ?_) (fun k p q x z => ?_) (fun z l hl => ?_) qa.2.2.1
                · rw [qa.1, if_neg (fun z => z1 ⟨z.1, z.2.1, z.2.2.1⟩), if_neg z2]
                · rw [qa.1, if_neg (fun z => by omega), if_pos ⟨rfl, rfl, rfl, rfl⟩]
                · rw [qa.1, if_pos ⟨rfl, rfl, rfl, f1, f5⟩]
                  exact mg f f1 f5
                · rw [qa.2.1, if_neg (fun y => z ⟨y.1, y.2.1, y.2.2.1⟩)]
                · rw [qa.2.1, if_pos ⟨rfl, rfl, rfl, hl⟩]
                  exact sg0 z l hl
              have aU : AppU i (G + 1) (fun f => U1.1 (28 + f) 0 0 (16 * i)) (fun l => U1.2.1 34 0 0 (11 * (16 * i) + l)) U1 (si (f_M_copyMessage (nI (16 * i)) (nI (16 * i + (G + 1))) U1) 28 0 0 i (nI (G + 2))) := by
                refine AppU.mk (fun k hk => ?_) (si_rd _ _ _ _ _ _) (fun x hx => ?_) (fun f f1 f5 => ?_) (fun f f1 f5 x hx => ?_) (fun k hk => ?_) (fun l hl => ?_) (fun x hx => ?_)
                · funext x
                  rw [si_i, if_neg (fun q => by omega), mc.1, if_neg (fun q => by omega)]
                · rw [si_i, if_neg (fun q => hx q.2.2.2), mc.1, if_neg (fun q => by omega)]
                · rw [si_i, if_neg (fun q => by omega), mc.1, if_pos ⟨rfl, rfl, by omega, by omega, rfl⟩]
                · rw [si_i, if_neg (fun q => by omega), mc.1, if_neg (fun q => hx q.2.2.2.2)]
                · funext x
                  show (f_M_copyMessage (nI (16 * i)) (nI (16 * i + (G + 1))) U1).2.1 k 0 0 x = _
                  rw [mc.2.1, if_neg (fun q => hk q.1)]
                · show (f_M_copyMessage (nI (16 * i)) (nI (16 * i + (G + 1))) U1).2.1 34 0 0 _ = _
                  rw [mc.2.1, if_pos ⟨rfl, rfl, rfl, by omega, by omega⟩, Nat.add_sub_cancel_left]
                · show (f_M_copyMessage (nI (16 * i)) (nI (16 * i + (G + 1))) U1).2.1 34 0 0 x = _
                  rw [mc.2.1, if_neg (fun q => by omega)]
              have rr := r_app h1.r hi hlt eF aS aU
              have iv := m_app h1.v hi hlt eF aU ms
              rw [eQ, eM]
              refine ⟨0, 1, _, 1, _, rfl, rfl, ?_, fun _ => rfl, ⟨by decide, fun z => absurd rfl z⟩, ⟨sg, B, T, rr, iv⟩, okQ, okM⟩
              rw [aU.b1 1 (by decide)]
              exact h1.t
          · have nw2 : ¬ nI w = (2 : Int32) := fun q => w2 ((nI_eq (a := w) (b := 2) hw (by omega)).mp q)
            obtain ⟨ke, eke⟩ : ∃ z, z = U1.1 33 0 0 (16 * i) := ⟨_, rfl⟩
            obtain ⟨V, eV, scV, k40, sV, oV⟩ := m_dist hi (nI w) (U1.1 29 0 0 (16 * i)) (U1.1 30 0 0 (16 * i)) (U1.1 31 0 0 (16 * i)) (U1.1 32 0 0 (16 * i)) ke (si U1 1 0 0 40 ke) 200 0 (si U1 1 0 0 40 ke) (by omega) (by omega) (Scr.refl _) (si_rd _ _ _ _ _ _) (fun x hx => absurd hx (Nat.not_lt_zero _))
            have scU : Scr U1 V := (Scr.key U1 ke).trans scV
            have h2 := h1.scr scU
            have eV28 : V.1 28 0 0 i = nI (G + 1) := by rw [scU.k 28]; exact eF
            have rd := r_drop h2.r hi (by omega) eV28
            have md := m_drop h2.v hi (by omega) eV28
            have eM : f_M_disturb (nI i) (nI w) U = if nI w = (1 : Int32) then (1, f_M_send (U1.1 30 0 0 (16 * i)) (nI i) (U1.1 29 0 0 (16 * i)) (U1.1 31 0 0 (16 * i)) (U1.1 32 0 0 (16 * i)) (f_M_land (nI i) V)) else (1, f_M_land (nI i) V) := by
              unfold f_M_disturb
              rw [lt, m_isNode hi, if_neg (by decide), if_neg c1, if_pos l2, nI_clamp (by omega : i < 2 ^ 31), eF', if_neg nz, if_neg nw2]
              unfold f_M_disturb_50 f_M_disturb_51
              rw [lt, thr_le, if_pos (by decide), if_neg nw2, lt, e16, nI_clamp (by omega), ← hU1, ← eke]
              exact eV
            have okM : (nI w = (1 : Int32) → ok_M_send (U1.1 30 0 0 (16 * i)) (nI i) (U1.1 29 0 0 (16 * i)) (U1.1 31 0 0 (16 * i)) (U1.1 32 0 0 (16 * i)) (f_M_land (nI i) V)) → ok_M_disturb (nI i) (nI w) U := fun o => by
              unfold ok_M_disturb
              rw [lt, m_isNode hi, nI_clamp (by omega : i < 2 ^ 31), eF']
              refine ⟨fun q => absurd q (by decide), fun _ => ⟨fun q => absurd q c1, fun _ => ⟨fun _ => ⟨i4, fun q => absurd q nz, fun _ => ⟨fun q => absurd q nw2, fun _ => ?_⟩⟩, fun q => absurd l2 q⟩⟩⟩
              unfold ok_M_disturb_50 ok_M_disturb_51
              rw [lt, thr_le, e16, nI_clamp (by omega : 16 * i < 2 ^ 31), ← hU1, ← eke]
              refine ⟨fun _ => ⟨i4, fun q => absurd q nw2, fun _ => ⟨p64, p64, p64, p64, p64, ?_⟩⟩, fun q => absurd (by decide) q⟩
              rw [lt]
              exact oV rd.2.2.2.2.2.2 o
            by_cases w1 : w = 1
            · subst w1
              have qm := q_move i (G + 1) (by omega) hF S eFS (h1.r.row i hi)
              have eQ : f_QC_disturb (nI i) (nI 1) S = (0, 1, f_Inbox_moveFirstBehind i S) := by
                unfold f_QC_disturb
                rw [lt, q_isNode hi, if_neg (by decide), if_neg c1, if_pos l2, nI_clamp (by omega), eFS, if_neg nz, if_neg nw2, if_neg (by decide), if_pos (by decide), lt]
              have okQ : ok_QC_disturb (nI i) (nI 1) S := by
                unfold ok_QC_disturb
                rw [lt, q_isNode hi, nI_clamp (by omega), eFS]
                exact ⟨fun q => absurd q (by decide), fun _ => ⟨fun q => absurd q c1, fun _ => ⟨fun _ => ⟨i4, fun _ => trivial, fun _ => ⟨fun q => absurd q nw2, fun _ => ⟨fun q => absurd q (by decide), fun _ => ⟨fun _ => ⟨qm.2.2.2, trivial⟩, fun q => absurd (by decide) q⟩⟩⟩⟩, fun q => absurd l2 q⟩⟩⟩
              have md28 := md.2.1
              have sa := m_send_app (U1.1 30 0 0 (16 * i)) (U1.1 29 0 0 (16 * i)) (U1.1 31 0 0 (16 * i)) (U1.1 32 0 0 (16 * i)) i G (f_M_land (nI i) V) hi (by omega) md28
              have sok := (m_send (U1.1 30 0 0 (16 * i)) (U1.1 29 0 0 (16 * i)) (U1.1 31 0 0 (16 * i)) (U1.1 32 0 0 (16 * i)) i G (f_M_land (nI i) V) hi (by omega) md28).2.2.2
              have kee : (if U1.1 29 0 0 (16 * i) ≤ 3 then (f_M_land (nI i) V).1 1 0 0 40 else -1) = ke := by
                by_cases c3 : U1.1 29 0 0 (16 * i) ≤ 3
                · rw [if_pos c3, md.2.2.1 1 (by decide)]
                  exact k40
                · rw [if_neg c3, eke]
                  exact (ms.nokey c3).symm
              rw [kee] at sa
              have ed := rd.2.2.2.2.1
              have erow := rd.2.2.2.1
              have r0 : rot (G + 1) (S.2.2 13 i 0) G = S.2.2 13 i 0 0 := by
                unfold rot
                rw [if_neg (by omega), if_pos rfl]
              have aS : AppS i G ((f_Inbox_dropFirst i S).2.2 13 i 0 G) (fld (U1.1 29 0 0 (16 * i)) (U1.1 30 0 0 (16 * i)) (U1.1 31 0 0 (16 * i)) (U1.1 32 0 0 (16 * i)) ke) ((f_M_land (nI i) V).2.1 35 0 0) (f_Inbox_dropFirst i S) (f_Inbox_moveFirstBehind i S) := by
                rw [erow, r0]
                refine AppS.mk (fun k p q x z1 z2 => ?_) ?_ (fun f f1 f5 => ?_) (fun k p q x z => ?_) (fun z l hl => ?_) ?_
                · rw [ed, si_i, if_neg z2]
                · rw [qm.1]
                  exact eFS
                · rw [qm.1, mg f f1 f5, eke]
                  rcases (by omega : f = 1 ∨ f = 2 ∨ f = 3 ∨ f = 4 ∨ f = 5) with rfl | rfl | rfl | rfl | rfl <;> simp [fld]
                · rw [qm.2.1, rd.2.2.1]
                · rw [qm.2.1, md.2.2.2, sV l hl]
                  have := sg0 z l hl
                  rw [this, show 11 * (16 * i) + l = 176 * i + l by omega]
                  rfl
                · rw [ed]
                  rfl
              have rr := r_app rd.1 hi (by omega) md28 aS sa
              have iv := m_app md.1 hi (by omega) md28 sa (by
                rw [md.2.2.1 18 (by decide), md.2.2.1 7 (by decide), scU.k 18, scU.k 7]
                rw [← eke] at ms
                exact ms)
              rw [eQ, eM, if_pos (by decide)]
              refine ⟨0, 1, _, 1, _, rfl, rfl, ?_, fun _ => rfl, ⟨by decide, fun z => absurd rfl z⟩, ⟨sg, B, T, rr, iv⟩, okQ, okM (fun _ => sok)⟩
              rw [sa.b1 1 (by decide), md.2.2.1 1 (by decide)]
              exact h2.t
            · have w0 : w = 0 := by omega
              subst w0
              have eQ : f_QC_disturb (nI i) (nI 0) S = (0, 1, f_Inbox_dropFirst i S) := by
                unfold f_QC_disturb
                rw [lt, q_isNode hi, if_neg (by decide), if_neg c1, if_pos l2, nI_clamp (by omega), eFS, if_neg nz, if_neg nw2, if_pos (by decide), lt]
              have okQ : ok_QC_disturb (nI i) (nI 0) S := by
                unfold ok_QC_disturb
                rw [lt, q_isNode hi, nI_clamp (by omega), eFS]
                exact ⟨fun q => absurd q (by decide), fun _ => ⟨fun q => absurd q c1, fun _ => ⟨fun _ => ⟨i4, fun _ => trivial, fun _ => ⟨fun q => absurd q nw2, fun _ => ⟨fun _ => ⟨rd.2.2.2.2.2.1, trivial⟩, fun q => absurd (by decide) q⟩⟩⟩, fun q => absurd l2 q⟩⟩⟩
              rw [eQ, eM, if_neg (by decide)]
              refine ⟨0, 1, _, 1, _, rfl, rfl, ?_, fun _ => rfl, ⟨by decide, fun z => absurd rfl z⟩, ⟨sg, B, T, rd.1, md.1⟩, okQ, okM (fun q => absurd q (by decide))⟩
              rw [md.2.2.1 1 (by decide)]
              exact h2.t
      · have l2 : ¬ nI w ≤ (2 : Int32) := fun q => c2 ((nI_leI (a := w) (b := 2) hw (by omega)).mp q)
        refine bad 1 (by decide) ?_ ?_ ?_ ?_
        · unfold f_QC_disturb
          rw [lt, q_isNode hi, if_neg (by decide), if_neg c1, if_neg l2]
        · unfold f_M_disturb
          rw [lt, m_isNode hi, if_neg (by decide), if_neg c1, if_neg l2]
          exact e17.1
        · unfold ok_QC_disturb
          rw [lt, q_isNode hi]
          exact ⟨fun q => absurd q (by decide), fun _ => ⟨fun q => absurd q c1, fun _ => ⟨fun q => absurd q l2, fun _ => trivial⟩⟩⟩
        · unfold ok_M_disturb
          rw [lt, m_isNode hi]
          exact ⟨fun q => absurd q (by decide), fun _ => ⟨fun q => absurd q c1, fun _ => ⟨fun q => absurd q l2, fun _ => e17.2⟩⟩⟩
