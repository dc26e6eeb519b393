/-! What only answers. -/
theorem m_hasAll {sg : Nat → Nat} {B T : Nat} {U : St} (h : Ivt sg B T U) {i : Nat} (hi : i < 4) (n : Nat) : ∀ k, k ≤ B → B - k < n → f_M_hasAll_4 (nI i) n U (nI (cnt (fun b => U.1 19 0 0 (100 * i + b)) k)) (nI k) = nI (cnt (fun b => U.1 19 0 0 (100 * i + b)) B) ∧ ok_M_hasAll_4 (nI i) n U (nI (cnt (fun b => U.1 19 0 0 (100 * i + b)) k)) (nI k) := by
  have hB2 := h.hB2
  induction n with
  | zero => exact fun k _ h => absurd h (Nat.not_lt_zero _)
  | succ n ih =>
    intro k hk hn
    rw [f_M_hasAll_4, ok_M_hasAll_4, h.hB]
    by_cases c : k = B
    · subst c
      rw [if_pos (Int32.le_refl _)]
      exact ⟨rfl, fun _ => trivial, fun q => absurd (Int32.le_refl _) q⟩
    · have cc : ¬ nI B ≤ nI k := fun q => by
        have := (nI_leI (a := B) (b := k) (by omega) (by omega)).mp q
        omega
      have g := ih (k + 1) (by omega) (by omega)
      have p400 : vp_in (nI (100 * i + k)) 400 := vp_in_nI (by omega) (by decide)
      rw [if_neg cc, ix100, nI_clamp (by omega), nI_s k]
      rw [cnt_s] at g
      by_cases z : U.1 19 0 0 (100 * i + k) = 0
      · rw [if_pos z] at g ⊢
        rw [Nat.add_zero] at g
        rw [show nI (cnt (fun b => U.1 19 0 0 (100 * i + b)) k) + (0 : Int32) = nI (cnt (fun b => U.1 19 0 0 (100 * i + b)) k) from Int32.add_zero _]
        exact ⟨g.1, fun q => absurd q cc, fun _ => ⟨p400, fun _ => g.2, fun q => absurd z q⟩⟩
      · rw [if_neg z] at g ⊢
        rw [nI_s]
        exact ⟨g.1, fun q => absurd q cc, fun _ => ⟨p400, fun q => absurd q z, fun _ => g.2⟩⟩
theorem cnt_cut (f : Nat → Int32) (B n : Nat) (hB : B ≤ n) (h : ∀ b, B ≤ b → b < n → f b = 0) : cnt f n = cnt f B := by
  induction n with
  | zero =>
    have : B = 0 := by omega
    rw [this]
  | succ n ih =>
    by_cases c : B = n + 1
    · rw [c]
    · rw [cnt_s, h n (by omega) (by omega), if_pos rfl, Nat.add_zero]
      exact ih (by omega) (fun b h1 h2 => h b h1 (by omega))
theorem b_node {sd : Int32} {S U : St} (h : JB sd S U) (a1 a2 : Int32) : f_M_node a1 a2 U = (f_QC_node a1 a2 S, si U 1 0 0 1 0) ∧ ok_QC_node a1 a2 S ∧ ok_M_node a1 a2 U := by
  obtain ⟨sg, B, T, h1⟩ := h.go
  obtain ⟨V, hV⟩ : ∃ z, z = si U 1 0 0 1 0 := ⟨_, rfl⟩
  rw [← hV] at h1
  rcases nd_or a1 with n | ⟨i, hi, rfl⟩
  · unfold f_M_node f_QC_node ok_QC_node ok_M_node
    repeat rw [lt]
    rw [(n S).1, (n (si U 1 0 0 1 0)).2, if_pos rfl, if_pos rfl]
    exact ⟨rfl, ⟨fun _ => trivial, fun q => absurd rfl q⟩, ⟨fun _ => trivial, fun q => absurd rfl q⟩⟩
  · have i4 : vp_in (nI i) 4 := vp_in_nI hi (by decide)
    have hB2 := h1.v.hB2
    have okQ : ok_QC_node (nI i) a2 S := by
      unfold ok_QC_node
      rw [lt, q_isNode hi]
      exact ⟨fun q => absurd q (by decide), fun _ => ⟨i4, trivial⟩⟩
    have ha := m_hasAll h1.v hi 200 0 (Nat.zero_le _) (by omega)
    have oall : ok_M_hasAll (nI i) V := ha.2
    have eall : f_M_hasAll (nI i) V = S.1 4 i 0 4 := by
      unfold f_M_hasAll
      rw [h1.r.bc i hi, cnt_cut _ B 100 hB2 (fun b b1 b2 => h1.v.hasB i hi b b1 b2)]
      exact ha.1
    have o51 : ok_M_node_51 (nI i) a2 V := by
      unfold ok_M_node_51
      exact ⟨fun _ => ⟨i4, trivial⟩, fun _ => ⟨fun _ => ⟨i4, trivial⟩, fun _ => ⟨fun _ => ⟨i4, trivial⟩, fun _ => ⟨fun _ => ⟨i4, trivial⟩, fun _ => ⟨fun _ => ⟨i4, trivial⟩, fun _ => ⟨fun _ => ⟨i4, trivial⟩, fun _ => ⟨fun _ => ⟨i4, trivial⟩, fun _ => ⟨fun _ => ⟨i4, trivial⟩, fun _ => ⟨fun _ => ⟨i4, trivial⟩, fun _ => ⟨fun _ => ⟨oall, trivial⟩, fun _ => ⟨fun _ => ⟨i4, trivial⟩, fun _ => ⟨i4, trivial⟩⟩⟩⟩⟩⟩⟩⟩⟩⟩⟩⟩
    have o43 : ok_M_node_43 (nI i) a2 V := ⟨fun _ => trivial, fun _ => o51⟩
    have okM : ok_M_node (nI i) a2 U := by
      unfold ok_M_node
      repeat rw [lt]
      rw [m_isNode hi, ← hV]
      exact ⟨fun q => absurd q (by decide), fun _ => ⟨fun _ => trivial, fun _ => ⟨fun _ => ⟨i4, fun _ => ⟨fun _ => o43, fun _ => ⟨fun _ => trivial, fun _ => o43⟩⟩, fun _ => o51⟩, fun _ => trivial⟩⟩⟩
    refine ⟨?_, okQ, okM⟩
    have eQ : ∀ x, f_QC_node (nI i) x S = if x = (0 : Int32) then (if V.1 11 0 0 i = 0 then 0 else 1) else if x = (1 : Int32) then (if V.1 11 0 0 i = 0 then 0 else V.1 12 0 0 i) else if x = (2 : Int32) then (if V.1 11 0 0 i = 0 then 0 else V.1 13 0 0 i) else if x = (3 : Int32) then (if V.1 11 0 0 i = 0 then 0 else V.1 14 0 0 i) else if x = (4 : Int32) then (if V.1 11 0 0 i = 0 then 0 else V.1 15 0 0 i) else if x = (5 : Int32) then V.1 16 0 0 i else if x = (6 : Int32) then V.1 17 0 0 i else if x = (7 : Int32) then V.1 18 0 0 i else if x = (8 : Int32) then V.1 24 0 0 i else if x = (9 : Int32) then f_M_hasAll (nI i) V else if x = (10 : Int32) then (if V.1 11 0 0 i = 0 then 0 else V.1 22 0 0 i) else if x = (11 : Int32) then V.1 28 0 0 i else -1 := fun x => by
      unfold f_QC_node
      rw [lt, q_isNode hi, if_neg (by decide), nI_clamp (by omega), h1.e (Mp.up hi), h1.e (Mp.view hi), h1.e (Mp.timer hi), h1.e (Mp.span hi), h1.e (Mp.high hi), h1.e (Mp.voted hi), h1.e (Mp.locked hi), h1.e (Mp.used hi), h1.e (Mp.logged hi), eall, h1.e (Mp.pooled hi), h1.e (Mp.flying hi)]
    have eM : ∀ x, f_M_node (nI i) x U = if x < 0 then (-1, V) else if x ≤ (11 : Int32) then (if V.1 11 0 0 i = 0 then (if x < (1 : Int32) then f_M_node_43 (nI i) x V else if x ≤ (4 : Int32) then (0, V) else f_M_node_43 (nI i) x V) else f_M_node_51 (nI i) x V) else (-1, V) := fun x => by
      unfold f_M_node
      repeat rw [lt]
      rw [m_isNode hi, if_neg (by decide), nI_clamp (by omega), ← hV]
    have e51 : ∀ x, f_M_node_51 (nI i) x V = if x = (0 : Int32) then (if V.1 11 0 0 i = 0 then (0, V) else (1, V)) else if x = (1 : Int32) then (V.1 12 0 0 i, V) else if x = (2 : Int32) then (V.1 13 0 0 i, V) else if x = (3 : Int32) then (V.1 14 0 0 i, V) else if x = (4 : Int32) then (V.1 15 0 0 i, V) else if x = (5 : Int32) then (V.1 16 0 0 i, V) else if x = (6 : Int32) then (V.1 17 0 0 i, V) else if x = (7 : Int32) then (V.1 18 0 0 i, V) else if x = (8 : Int32) then (V.1 24 0 0 i, V) else if x = (9 : Int32) then (f_M_hasAll (nI i) V, V) else if x = (10 : Int32) then (V.1 22 0 0 i, V) else (V.1 28 0 0 i, V) := fun x => by
      unfold f_M_node_51
      repeat rw [lt]
      rw [nI_clamp (by omega)]
    generalize f_M_hasAll (nI i) V = all at eQ e51
    rw [← hV]
    by_cases c1 : a2 < 0
    · rw [eM, if_pos c1, eQ]
      have ne : ∀ j, j < 12 → ¬ a2 = nI j := fun j hj q => by
        rw [q] at c1
        exact nI_pos (by omega) c1
      rw [if_neg (show ¬ a2 = (0 : Int32) from ne 0 (by decide)), if_neg (show ¬ a2 = (1 : Int32) from ne 1 (by decide)), if_neg (show ¬ a2 = (2 : Int32) from ne 2 (by decide)), if_neg (show ¬ a2 = (3 : Int32) from ne 3 (by decide)), if_neg (show ¬ a2 = (4 : Int32) from ne 4 (by decide)), if_neg (show ¬ a2 = (5 : Int32) from ne 5 (by decide)), if_neg (show ¬ a2 = (6 : Int32) from ne 6 (by decide)), if_neg (show ¬ a2 = (7 : Int32) from ne 7 (by decide)), if_neg (show ¬ a2 = (8 : Int32) from ne 8 (by decide)), if_neg (show ¬ a2 = (9 : Int32) from ne 9 (by decide)), if_neg (show ¬ a2 = (10 : Int32) from ne 10 (by decide)), if_neg (show ¬ a2 = (11 : Int32) from ne 11 (by decide))]
    · obtain ⟨w, hw, rfl⟩ := nI_of c1
      by_cases c2 : w ≤ 11
      · rw [eM, if_neg c1, if_pos (show nI w ≤ (11 : Int32) from (nI_leI (a := w) (b := 11) hw (by omega)).mpr c2), eQ]
        unfold f_M_node_43
        rw [e51]
        clear eM eQ e51 okQ okM o43 o51 eall oall ha
        rcases (by omega : w = 0 ∨ w = 1 ∨ w = 2 ∨ w = 3 ∨ w = 4 ∨ w = 5 ∨ w = 6 ∨ w = 7 ∨ w = 8 ∨ w = 9 ∨ w = 10 ∨ w = 11) with rfl | rfl | rfl | rfl | rfl | rfl | rfl | rfl | rfl | rfl | rfl | rfl
        · by_cases u : V.1 11 0 0 i = 0
          · rw [if_pos u, if_pos (show nI 0 < (1 : Int32) by decide), if_neg (show ¬ nI 0 = (10 : Int32) by decide), if_pos (show nI 0 = (0 : Int32) by decide), if_pos u, if_pos (show nI 0 = (0 : Int32) by decide), if_pos u]
          · rw [if_neg u, if_pos (show nI 0 = (0 : Int32) by decide), if_neg u, if_pos (show nI 0 = (0 : Int32) by decide), if_neg u]
        · by_cases u : V.1 11 0 0 i = 0
          · rw [if_pos u, if_neg (show ¬ nI 1 < (1 : Int32) by decide), if_pos (show nI 1 ≤ (4 : Int32) by decide), if_neg (show ¬ nI 1 = (0 : Int32) by decide), if_pos (show nI 1 = (1 : Int32) by decide), if_pos u]
          · rw [if_neg u, if_neg (show ¬ nI 1 = (0 : Int32) by decide), if_pos (show nI 1 = (1 : Int32) by decide), if_neg (show ¬ nI 1 = (0 : Int32) by decide), if_pos (show nI 1 = (1 : Int32) by decide), if_neg u]
        · by_cases u : V.1 11 0 0 i = 0
          · rw [if_pos u, if_neg (show ¬ nI 2 < (1 : Int32) by decide), if_pos (show nI 2 ≤ (4 : Int32) by decide), if_neg (show ¬ nI 2 = (0 : Int32) by decide), if_neg (show ¬ nI 2 = (1 : Int32) by decide), if_pos (show nI 2 = (2 : Int32) by decide), if_pos u]
          · rw [if_neg u, if_neg (show ¬ nI 2 = (0 : Int32) by decide), if_neg (show ¬ nI 2 = (1 : Int32) by decide), if_pos (show nI 2 = (2 : Int32) by decide), if_neg (show ¬ nI 2 = (0 : Int32) by decide), if_neg (show ¬ nI 2 = (1 : Int32) by decide), if_pos (show nI 2 = (2 : Int32) by decide), if_neg u]
        · by_cases u : V.1 11 0 0 i = 0
          · rw [if_pos u, if_neg (show ¬ nI 3 < (1 : Int32) by decide), if_pos (show nI 3 ≤ (4 : Int32) by decide), if_neg (show ¬ nI 3 = (0 : Int32) by decide), if_neg (show ¬ nI 3 = (1 : Int32) by decide), if_neg (show ¬ nI 3 = (2 : Int32) by decide), if_pos (show nI 3 = (3 : Int32) by decide), if_pos u]
          · rw [if_neg u, if_neg (show ¬ nI 3 = (0 : Int32) by decide), if_neg (show ¬ nI 3 = (1 : Int32) by decide), if_neg (show ¬ nI 3 = (2 : Int32) by decide), if_pos (show nI 3 = (3 : Int32) by decide), if_neg (show ¬ nI 3 = (0 : Int32) by decide), if_neg (show ¬ nI 3 = (1 : Int32) by decide), if_neg (show ¬ nI 3 = (2 : Int32) by decide), if_pos (show nI 3 = (3 : Int32) by decide), if_neg u]
        · by_cases u : V.1 11 0 0 i = 0
          · rw [if_pos u, if_neg (show ¬ nI 4 < (1 : Int32) by decide), if_pos (show nI 4 ≤ (4 : Int32) by decide), if_neg (show ¬ nI 4 = (0 : Int32) by decide), if_neg (show ¬ nI 4 = (1 : Int32) by decide), if_neg (show ¬ nI 4 = (2 : Int32) by decide), if_neg (show ¬ nI 4 = (3 : Int32) by decide), if_pos (show nI 4 = (4 : Int32) by decide), if_pos u]
          · rw [if_neg u, if_neg (show ¬ nI 4 = (0 : Int32) by decide), if_neg (show ¬ nI 4 = (1 : Int32) by decide), if_neg (show ¬ nI 4 = (2 : Int32) by decide), if_neg (show ¬ nI 4 = (3 : Int32) by decide), if_pos (show nI 4 = (4 : Int32) by decide), if_neg (show ¬ nI 4 = (0 : Int32) by decide), if_neg (show ¬ nI 4 = (1 : Int32) by decide), if_neg (show ¬ nI 4 = (2 : Int32) by decide), if_neg (show ¬ nI 4 = (3 : Int32) by decide), if_pos (show nI 4 = (4 : Int32) by decide), if_neg u]
        · by_cases u : V.1 11 0 0 i = 0
          · rw [if_pos u, if_neg (show ¬ nI 5 < (1 : Int32) by decide), if_neg (show ¬ nI 5 ≤ (4 : Int32) by decide), if_neg (show ¬ nI 5 = (10 : Int32) by decide), if_neg (show ¬ nI 5 = (0 : Int32) by decide), if_neg (show ¬ nI 5 = (1 : Int32) by decide), if_neg (show ¬ nI 5 = (2 : Int32) by decide), if_neg (show ¬ nI 5 = (3 : Int32) by decide), if_neg (show ¬ nI 5 = (4 : Int32) by decide), if_pos (show nI 5 = (5 : Int32) by decide), if_neg (show ¬ nI 5 = (0 : Int32) by decide), if_neg (show ¬ nI 5 = (1 : Int32) by decide), if_neg (show ¬ nI 5 = (2 : Int32) by decide), if_neg (show ¬ nI 5 = (3 : Int32) by decide), if_neg (show ¬ nI 5 = (4 : Int32) by decide), if_pos (show nI 5 = (5 : Int32) by decide)]
          · rw [if_neg u, if_neg (show ¬ nI 5 = (0 : Int32) by decide), if_neg (show ¬ nI 5 = (1 : Int32) by decide), if_neg (show ¬ nI 5 = (2 : Int32) by decide), if_neg (show ¬ nI 5 = (3 : Int32) by decide), if_neg (show ¬ nI 5 = (4 : Int32) by decide), if_pos (show nI 5 = (5 : Int32) by decide), if_neg (show ¬ nI 5 = (0 : Int32) by decide), if_neg (show ¬ nI 5 = (1 : Int32) by decide), if_neg (show ¬ nI 5 = (2 : Int32) by decide), if_neg (show ¬ nI 5 = (3 : Int32) by decide), if_neg (show ¬ nI 5 = (4 : Int32) by decide), if_pos (show nI 5 = (5 : Int32) by decide)]
        · by_cases u : V.1 11 0 0 i = 0
          · rw [if_pos u, if_neg (show ¬ nI 6 < (1 : Int32) by decide), if_neg (show ¬ nI 6 ≤ (4 : Int32) by decide), if_neg (show ¬ nI 6 = (10 : Int32) by decide), if_neg (show ¬ nI 6 = (0 : Int32) by decide), if_neg (show ¬ nI 6 = (1 : Int32) by decide), if_neg (show ¬ nI 6 = (2 : Int32) by decide), if_neg (show ¬ nI 6 = (3 : Int32) by decide), if_neg (show ¬ nI 6 = (4 : Int32) by decide), if_neg (show ¬ nI 6 = (5 : Int32) by decide), if_pos (show nI 6 = (6 : Int32) by decide), if_neg (show ¬ nI 6 = (0 : Int32) by decide), if_neg (show ¬ nI 6 = (1 : Int32) by decide), if_neg (show ¬ nI 6 = (2 : Int32) by decide), if_neg (show ¬ nI 6 = (3 : Int32) by decide), if_neg (show ¬ nI 6 = (4 : Int32) by decide), if_neg (show ¬ nI 6 = (5 : Int32) by decide), if_pos (show nI 6 = (6 : Int32) by decide)]
          · rw [if_neg u, if_neg (show ¬ nI 6 = (0 : Int32) by decide), if_neg (show ¬ nI 6 = (1 : Int32) by decide), if_neg (show ¬ nI 6 = (2 : Int32) by decide), if_neg (show ¬ nI 6 = (3 : Int32) by decide), if_neg (show ¬ nI 6 = (4 : Int32) by decide), if_neg (show ¬ nI 6 = (5 : Int32) by decide), if_pos (show nI 6 = (6 : Int32) by decide), if_neg (show ¬ nI 6 = (0 : Int32) by decide), if_neg (show ¬ nI 6 = (1 : Int32) by decide), if_neg (show ¬ nI 6 = (2 : Int32) by decide), if_neg (show ¬ nI 6 = (3 : Int32) by decide), if_neg (show ¬ nI 6 = (4 : Int32) by decide), if_neg (show ¬ nI 6 = (5 : Int32) by decide), if_pos (show nI 6 = (6 : Int32) by decide)]
        · by_cases u : V.1 11 0 0 i = 0
          · rw [if_pos u, if_neg (show ¬ nI 7 < (1 : Int32) by decide), if_neg (show ¬ nI 7 ≤ (4 : Int32) by decide), if_neg (show ¬ nI 7 = (10 : Int32) by decide), if_neg (show ¬ nI 7 = (0 : Int32) by decide), if_neg (show ¬ nI 7 = (1 : Int32) by decide), if_neg (show ¬ nI 7 = (2 : Int32) by decide), if_neg (show ¬ nI 7 = (3 : Int32) by decide), if_neg (show ¬ nI 7 = (4 : Int32) by decide), if_neg (show ¬ nI 7 = (5 : Int32) by decide), if_neg (show ¬ nI 7 = (6 : Int32) by decide), if_pos (show nI 7 = (7 : Int32) by decide), if_neg (show ¬ nI 7 = (0 : Int32) by decide), if_neg (show ¬ nI 7 = (1 : Int32) by decide), if_neg (show ¬ nI 7 = (2 : Int32) by decide), if_neg (show ¬ nI 7 = (3 : Int32) by decide), if_neg (show ¬ nI 7 = (4 : Int32) by decide), if_neg (show ¬ nI 7 = (5 : Int32) by decide), if_neg (show ¬ nI 7 = (6 : Int32) by decide), if_pos (show nI 7 = (7 : Int32) by decide)]
          · rw [if_neg u, if_neg (show ¬ nI 7 = (0 : Int32) by decide), if_neg (show ¬ nI 7 = (1 : Int32) by decide), if_neg (show ¬ nI 7 = (2 : Int32) by decide), if_neg (show ¬ nI 7 = (3 : Int32) by decide), if_neg (show ¬ nI 7 = (4 : Int32) by decide), if_neg (show ¬ nI 7 = (5 : Int32) by decide), if_neg (show ¬ nI 7 = (6 : Int32) by decide), if_pos (show nI 7 = (7 : Int32) by decide), if_neg (show ¬ nI 7 = (0 : Int32) by decide), if_neg (show ¬ nI 7 = (1 : Int32) by decide), if_neg (show ¬ nI 7 = (2 : Int32) by decide), if_neg (show ¬ nI 7 = (3 : Int32) by decide), if_neg (show ¬ nI 7 = (4 : Int32) by decide), if_neg (show ¬ nI 7 = (5 : Int32) by decide), if_neg (show ¬ nI 7 = (6 : Int32) by decide), if_pos (show nI 7 = (7 : Int32) by decide)]
        · by_cases u : V.1 11 0 0 i = 0
          · rw [if_pos u, if_neg (show ¬ nI 8 < (1 : Int32) by decide), if_neg (show ¬ nI 8 ≤ (4 : Int32) by decide), if_neg (show ¬ nI 8 = (10 : Int32) by decide), if_neg (show ¬ nI 8 = (0 : Int32) by decide), if_neg (show ¬ nI 8 = (1 : Int32) by decide), if_neg (show ¬ nI 8 = (2 : Int32) by decide), if_neg (show ¬ nI 8 = (3 : Int32) by decide), if_neg (show ¬ nI 8 = (4 : Int32) by decide), if_neg (show ¬ nI 8 = (5 : Int32) by decide), if_neg (show ¬ nI 8 = (6 : Int32) by decide), if_neg (show ¬ nI 8 = (7 : Int32) by decide), if_pos (show nI 8 = (8 : Int32) by decide), if_neg (show ¬ nI 8 = (0 : Int32) by decide), if_neg (show ¬ nI 8 = (1 : Int32) by decide), if_neg (show ¬ nI 8 = (2 : Int32) by decide), if_neg (show ¬ nI 8 = (3 : Int32) by decide), if_neg (show ¬ nI 8 = (4 : Int32) by decide), if_neg (show ¬ nI 8 = (5 : Int32) by decide), if_neg (show ¬ nI 8 = (6 : Int32) by decide), if_neg (show ¬ nI 8 = (7 : Int32) by decide), if_pos (show nI 8 = (8 : Int32) by decide)]
          · rw [if_neg u, if_neg (show ¬ nI 8 = (0 : Int32) by decide), if_neg (show ¬ nI 8 = (1 : Int32) by decide), if_neg (show ¬ nI 8 = (2 : Int32) by decide), if_neg (show ¬ nI 8 = (3 : Int32) by decide), if_neg (show ¬ nI 8 = (4 : Int32) by decide), if_neg (show ¬ nI 8 = (5 : Int32) by decide), if_neg (show ¬ nI 8 = (6 : Int32) by decide), if_neg (show ¬ nI 8 = (7 : Int32) by decide), if_pos (show nI 8 = (8 : Int32) by decide), if_neg (show ¬ nI 8 = (0 : Int32) by decide), if_neg (show ¬ nI 8 = (1 : Int32) by decide), if_neg (show ¬ nI 8 = (2 : Int32) by decide), if_neg (show ¬ nI 8 = (3 : Int32) by decide), if_neg (show ¬ nI 8 = (4 : Int32) by decide), if_neg (show ¬ nI 8 = (5 : Int32) by decide), if_neg (show ¬ nI 8 = (6 : Int32) by decide), if_neg (show ¬ nI 8 = (7 : Int32) by decide), if_pos (show nI 8 = (8 : Int32) by decide)]
        · by_cases u : V.1 11 0 0 i = 0
          · rw [if_pos u, if_neg (show ¬ nI 9 < (1 : Int32) by decide), if_neg (show ¬ nI 9 ≤ (4 : Int32) by decide), if_neg (show ¬ nI 9 = (10 : Int32) by decide), if_neg (show ¬ nI 9 = (0 : Int32) by decide), if_neg (show ¬ nI 9 = (1 : Int32) by decide), if_neg (show ¬ nI 9 = (2 : Int32) by decide), if_neg (show ¬ nI 9 = (3 : Int32) by decide), if_neg (show ¬ nI 9 = (4 : Int32) by decide), if_neg (show ¬ nI 9 = (5 : Int32) by decide), if_neg (show ¬ nI 9 = (6 : Int32) by decide), if_neg (show ¬ nI 9 = (7 : Int32) by decide), if_neg (show ¬ nI 9 = (8 : Int32) by decide), if_pos (show nI 9 = (9 : Int32) by decide), if_neg (show ¬ nI 9 = (0 : Int32) by decide), if_neg (show ¬ nI 9 = (1 : Int32) by decide), if_neg (show ¬ nI 9 = (2 : Int32) by decide), if_neg (show ¬ nI 9 = (3 : Int32) by decide), if_neg (show ¬ nI 9 = (4 : Int32) by decide), if_neg (show ¬ nI 9 = (5 : Int32) by decide), if_neg (show ¬ nI 9 = (6 : Int32) by decide), if_neg (show ¬ nI 9 = (7 : Int32) by decide), if_neg (show ¬ nI 9 = (8 : Int32) by decide), if_pos (show nI 9 = (9 : Int32) by decide)]
          · rw [if_neg u, if_neg (show ¬ nI 9 = (0 : Int32) by decide), if_neg (show ¬ nI 9 = (1 : Int32) by decide), if_neg (show ¬ nI 9 = (2 : Int32) by decide), if_neg (show ¬ nI 9 = (3 : Int32) by decide), if_neg (show ¬ nI 9 = (4 : Int32) by decide), if_neg (show ¬ nI 9 = (5 : Int32) by decide), if_neg (show ¬ nI 9 = (6 : Int32) by decide), if_neg (show ¬ nI 9 = (7 : Int32) by decide), if_neg (show ¬ nI 9 = (8 : Int32) by decide), if_pos (show nI 9 = (9 : Int32) by decide), if_neg (show ¬ nI 9 = (0 : Int32) by decide), if_neg (show ¬ nI 9 = (1 : Int32) by decide), if_neg (show ¬ nI 9 = (2 : Int32) by decide), if_neg (show ¬ nI 9 = (3 : Int32) by decide), if_neg (show ¬ nI 9 = (4 : Int32) by decide), if_neg (show ¬ nI 9 = (5 : Int32) by decide), if_neg (show ¬ nI 9 = (6 : Int32) by decide), if_neg (show ¬ nI 9 = (7 : Int32) by decide), if_neg (show ¬ nI 9 = (8 : Int32) by decide), if_pos (show nI 9 = (9 : Int32) by decide)]
        · by_cases u : V.1 11 0 0 i = 0
          · rw [if_pos u, if_neg (show ¬ nI 10 < (1 : Int32) by decide), if_neg (show ¬ nI 10 ≤ (4 : Int32) by decide), if_pos (show nI 10 = (10 : Int32) by decide), if_neg (show ¬ nI 10 = (0 : Int32) by decide), if_neg (show ¬ nI 10 = (1 : Int32) by decide), if_neg (show ¬ nI 10 = (2 : Int32) by decide), if_neg (show ¬ nI 10 = (3 : Int32) by decide), if_neg (show ¬ nI 10 = (4 : Int32) by decide), if_neg (show ¬ nI 10 = (5 : Int32) by decide), if_neg (show ¬ nI 10 = (6 : Int32) by decide), if_neg (show ¬ nI 10 = (7 : Int32) by decide), if_neg (show ¬ nI 10 = (8 : Int32) by decide), if_neg (show ¬ nI 10 = (9 : Int32) by decide), if_pos (show nI 10 = (10 : Int32) by decide), if_pos u]
          · rw [if_neg u, if_neg (show ¬ nI 10 = (0 : Int32) by decide), if_neg (show ¬ nI 10 = (1 : Int32) by decide), if_neg (show ¬ nI 10 = (2 : Int32) by decide), if_neg (show ¬ nI 10 = (3 : Int32) by decide), if_neg (show ¬ nI 10 = (4 : Int32) by decide), if_neg (show ¬ nI 10 = (5 : Int32) by decide), if_neg (show ¬ nI 10 = (6 : Int32) by decide), if_neg (show ¬ nI 10 = (7 : Int32) by decide), if_neg (show ¬ nI 10 = (8 : Int32) by decide), if_neg (show ¬ nI 10 = (9 : Int32) by decide), if_pos (show nI 10 = (10 : Int32) by decide), if_neg (show ¬ nI 10 = (0 : Int32) by decide), if_neg (show ¬ nI 10 = (1 : Int32) by decide), if_neg (show ¬ nI 10 = (2 : Int32) by decide), if_neg (show ¬ nI 10 = (3 : Int32) by decide), if_neg (show ¬ nI 10 = (4 : Int32) by decide), if_neg (show ¬ nI 10 = (5 : Int32) by decide), if_neg (show ¬ nI 10 = (6 : Int32) by decide), if_neg (show ¬ nI 10 = (7 : Int32) by decide), if_neg (show ¬ nI 10 = (8 : Int32) by decide), if_neg (show ¬ nI 10 = (9 : Int32) by decide), if_pos (show nI 10 = (10 : Int32) by decide), if_neg u]
        · by_cases u : V.1 11 0 0 i = 0
          · rw [if_pos u, if_neg (show ¬ nI 11 < (1 : Int32) by decide), if_neg (show ¬ nI 11 ≤ (4 : Int32) by decide), if_neg (show ¬ nI 11 = (10 : Int32) by decide), if_neg (show ¬ nI 11 = (0 : Int32) by decide), if_neg (show ¬ nI 11 = (1 : Int32) by decide), if_neg (show ¬ nI 11 = (2 : Int32) by decide), if_neg (show ¬ nI 11 = (3 : Int32) by decide), if_neg (show ¬ nI 11 = (4 : Int32) by decide), if_neg (show ¬ nI 11 = (5 : Int32) by decide), if_neg (show ¬ nI 11 = (6 : Int32) by decide), if_neg (show ¬ nI 11 = (7 : Int32) by decide), if_neg (show ¬ nI 11 = (8 : Int32) by decide), if_neg (show ¬ nI 11 = (9 : Int32) by decide), if_neg (show ¬ nI 11 = (10 : Int32) by decide), if_neg (show ¬ nI 11 = (0 : Int32) by decide), if_neg (show ¬ nI 11 = (1 : Int32) by decide), if_neg (show ¬ nI 11 = (2 : Int32) by decide), if_neg (show ¬ nI 11 = (3 : Int32) by decide), if_neg (show ¬ nI 11 = (4 : Int32) by decide), if_neg (show ¬ nI 11 = (5 : Int32) by decide), if_neg (show ¬ nI 11 = (6 : Int32) by decide), if_neg (show ¬ nI 11 = (7 : Int32) by decide), if_neg (show ¬ nI 11 = (8 : Int32) by decide), if_neg (show ¬ nI 11 = (9 : Int32) by decide), if_neg (show ¬ nI 11 = (10 : Int32) by decide), if_pos (show nI 11 = (11 : Int32) by decide)]
          · rw [if_neg u, if_neg (show ¬ nI 11 = (0 : Int32) by decide), if_neg (show ¬ nI 11 = (1 : Int32) by decide), if_neg (show ¬ nI 11 = (2 : Int32) by decide), if_neg (show ¬ nI 11 = (3 : Int32) by decide), if_neg (show ¬ nI 11 = (4 : Int32) by decide), if_neg (show ¬ nI 11 = (5 : Int32) by decide), if_neg (show ¬ nI 11 = (6 : Int32) by decide), if_neg (show ¬ nI 11 = (7 : Int32) by decide), if_neg (show ¬ nI 11 = (8 : Int32) by decide), if_neg (show ¬ nI 11 = (9 : Int32) by decide), if_neg (show ¬ nI 11 = (10 : Int32) by decide), if_neg (show ¬ nI 11 = (0 : Int32) by decide), if_neg (show ¬ nI 11 = (1 : Int32) by decide), if_neg (show ¬ nI 11 = (2 : Int32) by decide), if_neg (show ¬ nI 11 = (3 : Int32) by decide), if_neg (show ¬ nI 11 = (4 : Int32) by decide), if_neg (show ¬ nI 11 = (5 : Int32) by decide), if_neg (show ¬ nI 11 = (6 : Int32) by decide), if_neg (show ¬ nI 11 = (7 : Int32) by decide), if_neg (show ¬ nI 11 = (8 : Int32) by decide), if_neg (show ¬ nI 11 = (9 : Int32) by decide), if_neg (show ¬ nI 11 = (10 : Int32) by decide), if_pos (show nI 11 = (11 : Int32) by decide)]
      · have l : ¬ nI w ≤ (11 : Int32) := fun q => c2 ((nI_leI (a := w) (b := 11) hw (by omega)).mp q)
        rw [eM, if_neg c1, if_neg l, eQ]
        have ne : ∀ j, j < 12 → ¬ nI w = nI j := fun j hj q => by
          have := (nI_eq hw (by omega)).mp q
          omega
        rw [if_neg (show ¬ nI w = (0 : Int32) from ne 0 (by decide)), if_neg (show ¬ nI w = (1 : Int32) from ne 1 (by decide)), if_neg (show ¬ nI w = (2 : Int32) from ne 2 (by decide)), if_neg (show ¬ nI w = (3 : Int32) from ne 3 (by decide)), if_neg (show ¬ nI w = (4 : Int32) from ne 4 (by decide)), if_neg (show ¬ nI w = (5 : Int32) from ne 5 (by decide)), if_neg (show ¬ nI w = (6 : Int32) from ne 6 (by decide)), if_neg (show ¬ nI w = (7 : Int32) from ne 7 (by decide)), if_neg (show ¬ nI w = (8 : Int32) from ne 8 (by decide)), if_neg (show ¬ nI w = (9 : Int32) from ne 9 (by decide)), if_neg (show ¬ nI w = (10 : Int32) from ne 10 (by decide)), if_neg (show ¬ nI w = (11 : Int32) from ne 11 (by decide))]
theorem b_about {sd : Int32} {S U : St} (h : JB sd S U) (a1 : Int32) : f_M_about a1 U = (f_QC_about a1 S, si U 1 0 0 1 0) := by
  obtain ⟨sg, B, T, h1⟩ := h.go
  have e1 := h1.e Mp.clock
  have e2 := h1.e Mp.blocks
  have e3 := h1.e Mp.txs
  unfold f_M_about f_QC_about
  rw [lt, e1, e2, e3]
  by_cases c0 : a1 = 0
  · rw [if_pos c0, if_pos c0]
  · rw [if_neg c0, if_neg c0]
    by_cases c1 : a1 = 1
    · rw [if_pos c1, if_pos c1]
    · rw [if_neg c1, if_neg c1]
      by_cases c2 : a1 = 2
      · rw [if_pos c2, if_pos c2]
      · rw [if_neg c2, if_neg c2]
theorem b_root {sd : Int32} {S U : St} (h : JB sd S U) (a1 : Int32) : f_M_root a1 U = (f_QC_root a1 S, si U 1 0 0 1 0) ∧ ok_QC_root a1 S ∧ ok_M_root a1 U := by
  have n10 : ¬ (1 : Int32) = 0 := by decide
  obtain ⟨sg, B, T, h1⟩ := h.go
  obtain ⟨V, hV⟩ : ∃ z, z = si U 1 0 0 1 0 := ⟨_, rfl⟩
  rw [← hV] at h1
  unfold f_M_root f_QC_root ok_QC_root ok_M_root f_KeyTree_top
  repeat rw [lt]
  rw [← hV]
  rcases nd_or a1 with n | ⟨i, hi, rfl⟩
  · rw [(n S).1, (n V).2, if_pos rfl, if_pos rfl]
    exact ⟨rfl, ⟨fun _ => trivial, fun q => absurd rfl q⟩, ⟨fun _ => trivial, fun q => absurd rfl q⟩⟩
  · rw [q_isNode hi, m_isNode hi, if_neg n10, if_neg n10, nI_clamp (by omega), show (1 : Int32) = nI 1 from rfl, ix64, nI_clamp (by omega), h1.r.tr i hi 1 (by decide)]
    exact ⟨rfl, ⟨fun q => absurd q (by decide), fun _ => ⟨vp_in_nI hi (by decide), trivial⟩⟩, ⟨fun q => absurd q (by decide), fun _ => ⟨vp_in_nI (by omega) (by decide), trivial⟩⟩⟩
theorem b_log {sd : Int32} {S U : St} (h : JB sd S U) (a1 a2 : Int32) : f_M_log a1 a2 U = (f_QC_log a1 a2 S, si U 1 0 0 1 0) ∧ ok_QC_log a1 a2 S ∧ ok_M_log a1 a2 U := by
  have n10 : ¬ (1 : Int32) = 0 := by decide
  obtain ⟨sg, B, T, h1⟩ := h.go
  obtain ⟨V, hV⟩ : ∃ z, z = si U 1 0 0 1 0 := ⟨_, rfl⟩
  rw [← hV] at h1
  unfold f_M_log f_QC_log ok_QC_log ok_M_log f_Store_logged ok_Store_logged
  repeat rw [lt]
  rw [← hV]
  rcases nd_or a1 with n | ⟨i, hi, rfl⟩
  · rw [(n S).1, (n V).2, if_pos rfl, if_pos rfl]
    exact ⟨rfl, ⟨fun _ => trivial, fun q => absurd rfl q⟩, ⟨fun _ => trivial, fun q => absurd rfl q⟩⟩
  · have i4 : vp_in (nI i) 4 := vp_in_nI hi (by decide)
    obtain ⟨L, hL1, hL2, eL⟩ := h1.v.logged i hi
    have eLS : S.1 4 i 0 5 = nI L := (h1.e (Mp.logged hi)).trans eL
    rw [q_isNode hi, m_isNode hi, if_neg n10, if_neg n10, nI_clamp (by omega), eLS, eL]
    by_cases c1 : a2 < 0
    · rw [if_pos c1, if_pos c1]
      exact ⟨rfl, ⟨fun q => absurd q (by decide), fun _ => ⟨i4, ⟨fun _ => trivial, fun q => absurd c1 q⟩, trivial⟩⟩, ⟨fun q => absurd q (by decide), fun _ => ⟨fun _ => trivial, fun q => absurd c1 q⟩⟩⟩
    · obtain ⟨w, hw, rfl⟩ := nI_of c1
      rw [if_neg c1, if_neg c1]
      by_cases c2 : w < L
      · have l1 : ¬ nI L ≤ nI w := fun q => by
          have := (nI_leI (a := L) (b := w) (by omega) hw).mp q
          omega
        have l2 : nI w < nI L := (nI_ltI hw (by omega)).mpr c2
        rw [if_neg l1, if_pos l2, nI_clamp hw, ix101, nI_clamp (by omega), h1.e (Mp.log hi (b := w) (by omega))]
        exact ⟨rfl, ⟨fun q => absurd q (by decide), fun _ => ⟨i4, ⟨fun q => absurd q c1, fun _ => ⟨fun q => absurd q l1, fun _ => ⟨vp_in_nI (by omega) (by decide), trivial⟩⟩⟩, trivial⟩⟩, ⟨fun q => absurd q (by decide), fun _ => ⟨fun q => absurd q c1, fun _ => ⟨i4, fun _ => ⟨vp_in_nI (by omega) (by decide), trivial⟩, fun _ => trivial⟩⟩⟩⟩
      · have l1 : nI L ≤ nI w := (nI_leI (a := L) (b := w) (by omega) hw).mpr (by omega)
        have l2 : ¬ nI w < nI L := fun q => c2 ((nI_ltI hw (by omega)).mp q)
        rw [if_pos l1, if_neg l2]
        exact ⟨rfl, ⟨fun q => absurd q (by decide), fun _ => ⟨i4, ⟨fun q => absurd q c1, fun _ => ⟨fun _ => trivial, fun q => absurd l1 q⟩⟩, trivial⟩⟩, ⟨fun q => absurd q (by decide), fun _ => ⟨fun q => absurd q c1, fun _ => ⟨i4, fun q => absurd q l2, fun _ => trivial⟩⟩⟩⟩
theorem b_account {sd : Int32} {S U : St} (h : JB sd S U) (a1 a2 a3 : Int32) : f_M_account a1 a2 a3 U = (f_QC_account a1 a2 a3 S, si U 1 0 0 1 0) ∧ ok_QC_account a1 a2 a3 S ∧ ok_M_account a1 a2 a3 U := by
  have n10 : ¬ (1 : Int32) = 0 := by decide
  obtain ⟨sg, B, T, h1⟩ := h.go
  obtain ⟨V, hV⟩ : ∃ z, z = si U 1 0 0 1 0 := ⟨_, rfl⟩
  rw [← hV] at h1
  unfold f_M_account f_QC_account ok_QC_account ok_M_account
  repeat rw [lt]
  rw [← hV]
  rcases nd_or a1 with n | ⟨i, hi, rfl⟩
  · rw [(n S).1, (n V).2, if_pos rfl, if_pos rfl]
    exact ⟨rfl, ⟨fun _ => trivial, fun q => absurd rfl q⟩, ⟨fun _ => trivial, fun q => absurd rfl q⟩⟩
  · have i4 : vp_in (nI i) 4 := vp_in_nI hi (by decide)
    rw [q_isNode hi, m_isNode hi, if_neg n10, if_neg n10, nI_clamp (by omega)]
    rcases acc_or a2 with n | ⟨a, ha, rfl⟩
    · rw [(n S).1, (n V).2, if_pos rfl, if_pos rfl]
      exact ⟨rfl, ⟨fun q => absurd q (by decide), fun _ => ⟨fun _ => trivial, fun q => absurd rfl q⟩⟩, ⟨fun q => absurd q (by decide), fun _ => ⟨fun _ => trivial, fun q => absurd rfl q⟩⟩⟩
    · have a4 : vp_in (nI a) 4 := vp_in_nI ha (by decide)
      have p16 : vp_in (nI (4 * i + a)) 16 := vp_in_nI (by omega) (by decide)
      rw [q_isAcc ha, m_isNode ha, if_neg n10, if_neg n10, nI_clamp (by omega), ix4, nI_clamp (by omega), h1.e (Mp.money hi ha), h1.e (Mp.nonces hi ha)]
      refine ⟨?_, ⟨fun q => absurd q (by decide), fun _ => ⟨fun q => absurd q (by decide), fun _ => ⟨i4, fun _ => ⟨a4, trivial⟩, fun _ => ⟨fun _ => ⟨a4, trivial⟩, fun _ => trivial⟩⟩⟩⟩, ⟨fun q => absurd q (by decide), fun _ => ⟨fun q => absurd q (by decide), fun _ => ⟨fun _ => ⟨p16, trivial⟩, fun _ => ⟨fun _ => ⟨p16, trivial⟩, fun _ => trivial⟩⟩⟩⟩⟩
      by_cases c0 : a3 = 0
      · rw [if_pos c0, if_pos c0]
      · rw [if_neg c0, if_neg c0]
        by_cases c1 : a3 = 1
        · rw [if_pos c1, if_pos c1]
        · rw [if_neg c1, if_neg c1]
theorem b_message {sd : Int32} {S U : St} (h : JB sd S U) (a1 a2 a3 : Int32) : f_M_message a1 a2 a3 U = (f_QC_message a1 a2 a3 S, si U 1 0 0 1 0) ∧ ok_QC_message a1 a2 a3 S ∧ ok_M_message a1 a2 a3 U := by
  have n10 : ¬ (1 : Int32) = 0 := by decide
  obtain ⟨sg, B, T, h1⟩ := h.go
  obtain ⟨V, hV⟩ : ∃ z, z = si U 1 0 0 1 0 := ⟨_, rfl⟩
  rw [← hV] at h1
  unfold f_M_message f_QC_message ok_QC_message ok_M_message
  repeat rw [lt]
  rw [← hV]
  rcases nd_or a1 with n | ⟨i, hi, rfl⟩
  · rw [(n S).1, (n V).2, if_pos rfl, if_pos rfl]
    exact ⟨rfl, ⟨fun _ => trivial, fun q => absurd rfl q⟩, ⟨fun _ => trivial, fun q => absurd rfl q⟩⟩
  · have i4 : vp_in (nI i) 4 := vp_in_nI hi (by decide)
    obtain ⟨F, hF, eF⟩ := h1.v.fly i hi
    have eFS : S.1 12 i 0 1 = nI F := (h1.e (Mp.flying hi)).trans eF
    rw [q_isNode hi, m_isNode hi, if_neg n10, if_neg n10, nI_clamp (by omega), eFS, eF]
    by_cases c1 : a2 < 0
    · rw [if_pos c1, if_pos c1]
      exact ⟨rfl, ⟨fun q => absurd q (by decide), fun _ => ⟨fun _ => trivial, fun q => absurd c1 q⟩⟩, ⟨fun q => absurd q (by decide), fun _ => ⟨fun _ => trivial, fun q => absurd c1 q⟩⟩⟩
    · obtain ⟨w, hw, rfl⟩ := nI_of c1
      rw [if_neg c1, if_neg c1]
      by_cases c2 : w < F
      · have l2 : nI w < nI F := (nI_ltI hw (by omega)).mpr c2
        have p64 : vp_in (nI (16 * i + w)) 64 := vp_in_nI (by omega) (by decide)
        have mg := h1.r.msg i hi w (by omega) (by rw [eF, nI_clamp (by omega)]; exact c2)
        have m1 : S.1 14 i (S.2.2 13 i 0 w) 1 = V.1 29 0 0 (16 * i + w) := mg 1 (by decide) (by decide)
        have m2 : S.1 14 i (S.2.2 13 i 0 w) 2 = V.1 30 0 0 (16 * i + w) := mg 2 (by decide) (by decide)
        have m3 : S.1 14 i (S.2.2 13 i 0 w) 3 = V.1 31 0 0 (16 * i + w) := mg 3 (by decide) (by decide)
        have m4 : S.1 14 i (S.2.2 13 i 0 w) 4 = V.1 32 0 0 (16 * i + w) := mg 4 (by decide) (by decide)
        have m5 : S.1 14 i (S.2.2 13 i 0 w) 5 = V.1 33 0 0 (16 * i + w) := mg 5 (by decide) (by decide)
        rw [if_pos l2, if_pos l2, nI_clamp hw, ix16, nI_clamp (by omega), m1, m2, m3, m4, m5]
        refine ⟨?_, ⟨fun q => absurd q (by decide), fun _ => ⟨fun q => absurd q c1, fun _ => ⟨i4, fun _ => ⟨i4, vp_in_nI (by omega) (by decide), h1.r.row i hi w (by omega), trivial⟩, fun _ => trivial⟩⟩⟩, ⟨fun q => absurd q (by decide), fun _ => ⟨fun q => absurd q c1, fun _ => ⟨i4, fun _ => ⟨fun _ => ⟨p64, trivial⟩, fun _ => ⟨fun _ => ⟨p64, trivial⟩, fun _ => ⟨fun _ => ⟨p64, trivial⟩, fun _ => ⟨fun _ => ⟨p64, trivial⟩, fun _ => ⟨fun _ => ⟨p64, trivial⟩, fun _ => trivial⟩⟩⟩⟩⟩, fun _ => trivial⟩⟩⟩⟩
        by_cases d0 : a3 = 0
        · rw [if_pos d0, if_pos d0]
        · rw [if_neg d0, if_neg d0]
          by_cases d1 : a3 = 1
          · rw [if_pos d1, if_pos d1]
          · rw [if_neg d1, if_neg d1]
            by_cases d2 : a3 = 2
            · rw [if_pos d2, if_pos d2]
            · rw [if_neg d2, if_neg d2]
              by_cases d3 : a3 = 3
              · rw [if_pos d3, if_pos d3]
              · rw [if_neg d3, if_neg d3]
                by_cases d4 : a3 = 4
                · rw [if_pos d4, if_pos d4]
                · rw [if_neg d4, if_neg d4]
      · have l2 : ¬ nI w < nI F := fun q => c2 ((nI_ltI hw (by omega)).mp q)
        rw [if_neg l2, if_neg l2]
        exact ⟨rfl, ⟨fun q => absurd q (by decide), fun _ => ⟨fun q => absurd q c1, fun _ => ⟨i4, fun q => absurd q l2, fun _ => trivial⟩⟩⟩, ⟨fun q => absurd q (by decide), fun _ => ⟨fun q => absurd q c1, fun _ => ⟨i4, fun q => absurd q l2, fun _ => trivial⟩⟩⟩⟩
def hv4 (b : Bool) (v : Int32) : Int32 := if b then 0 else v
theorem nhave : ∀ a b c d : Bool, ((((if a then (0 : Int32) else 0 ||| ((1 : Int32) <<< (nI 0 &&& 31))) ||| (if b then 0 else (1 : Int32) <<< (nI 1 &&& 31))) ||| (if c then 0 else (1 : Int32) <<< (nI 2 &&& 31))) ||| (if d then 0 else (1 : Int32) <<< (nI 3 &&& 31))) = ((if a then (0 : Int32) else 1) + (if b then 0 else 2) + (if c then 0 else 4)) + (if d then 0 else 8) := by decide +kernel
theorem or0 (x : Int32) : x ||| 0 = x := by
  apply Int32.toBitVec_inj.mp
  rw [Int32.toBitVec_or]
  exact BitVec.or_zero
theorem b_block {sd : Int32} {S U : St} (h : JB sd S U) (a1 a2 : Int32) : f_M_block a1 a2 U = (f_QC_block a1 a2 S, si U 1 0 0 1 0) ∧ ok_QC_block a1 a2 S ∧ ok_M_block a1 a2 U := by
  have n10 : ¬ (1 : Int32) = 0 := by decide
  obtain ⟨sg, B, T, h1⟩ := h.go
  obtain ⟨V, hV⟩ : ∃ z, z = si U 1 0 0 1 0 := ⟨_, rfl⟩
  rw [← hV] at h1
  have hB2 := h1.v.hB2
  unfold f_M_block f_QC_block ok_QC_block ok_M_block
  repeat rw [lt]
  rw [← hV]
  rcases blk_or h1 a1 with ⟨n1, n2⟩ | ⟨b, hb, rfl, n1, n2⟩
  · rw [n1, n2, if_pos rfl, if_pos rfl]
    exact ⟨rfl, ⟨fun _ => trivial, fun q => absurd rfl q⟩, ⟨fun _ => trivial, fun q => absurd rfl q⟩⟩
  · have b100 : vp_in (nI b) 100 := vp_in_nI (by omega) (by decide)
    have vo := q_viewOf h1 hb
    have po := q_parentOf h1 hb
    have to := q_txOf h1 hb
    have ce := q_isCert h1 hb
    have hh : ∀ i, i < 4 → f_Store_hasBlock i (nI b) S = (if V.1 19 0 0 (100 * i + b) = 0 then 0 else 1) ∧ ok_Store_hasBlock i (nI b) S := fun i hi => q_hasBlock h1 hi (by omega)
    have p400 : ∀ k, k ≤ 300 → vp_in (nI (k + b)) 400 := fun k hk => vp_in_nI (by omega) (by decide)
    have e100 : (100 : Int32) + nI b = nI (100 + b) := nI_add 100 b
    have e200 : (200 : Int32) + nI b = nI (200 + b) := nI_add 200 b
    have e300 : (300 : Int32) + nI b = nI (300 + b) := nI_add 300 b
    have h0 : f_Store_hasBlock 0 (nI b) S = if V.1 19 0 0 b = 0 then 0 else 1 := by
      have := (hh 0 (by decide)).1
      rw [Nat.mul_zero, Nat.zero_add] at this
      exact this
    have s1 : ∀ (i : Nat) (l : Int32) (n : Nat), i < 4 → f_QC_nodesThatHave_4 (nI b) (n + 1) S l (nI i) = f_QC_nodesThatHave_4 (nI b) n S (l ||| (if V.1 19 0 0 (100 * i + b) = 0 then 0 else (1 : Int32) <<< (nI i &&& 31))) (nI (i + 1)) ∧ (ok_QC_nodesThatHave_4 (nI b) n S (l ||| (if V.1 19 0 0 (100 * i + b) = 0 then 0 else (1 : Int32) <<< (nI i &&& 31))) (nI (i + 1)) → ok_QC_nodesThatHave_4 (nI b) (n + 1) S l (nI i)) := fun i l n hi => by
      have c := lit4n hi
      have hx := hh i hi
      rw [f_QC_nodesThatHave_4, ok_QC_nodesThatHave_4, if_neg c, lt, lt, nI_clamp (by omega), hx.1, nI_s]
      by_cases z : V.1 19 0 0 (100 * i + b) = 0
      · rw [if_pos z, if_pos z, if_pos rfl, or0]
        exact ⟨rfl, fun o => ⟨fun q => absurd q c, fun _ => ⟨vp_in_nI hi (by decide), hx.2, fun _ => o, fun q => absurd rfl q⟩⟩⟩
      · rw [if_neg z, if_neg z, if_neg (by decide)]
        exact ⟨rfl, fun o => ⟨fun q => absurd q c, fun _ => ⟨vp_in_nI hi (by decide), hx.2, fun q => absurd q (by decide), fun _ => o⟩⟩⟩
    have s4 : ∀ (l : Int32) (n : Nat), f_QC_nodesThatHave_4 (nI b) (n + 1) S l (nI 4) = l ∧ ok_QC_nodesThatHave_4 (nI b) (n + 1) S l (nI 4) := fun l n => by
      rw [f_QC_nodesThatHave_4, ok_QC_nodesThatHave_4, if_pos (by decide)]
      exact ⟨rfl, fun _ => trivial, fun q => absurd (by decide) q⟩
    have eN : f_QC_nodesThatHave (nI b) S = (((0 ||| (if V.1 19 0 0 (100 * 0 + b) = 0 then 0 else (1 : Int32) <<< (nI 0 &&& 31))) ||| (if V.1 19 0 0 (100 * 1 + b) = 0 then 0 else (1 : Int32) <<< (nI 1 &&& 31))) ||| (if V.1 19 0 0 (100 * 2 + b) = 0 then 0 else (1 : Int32) <<< (nI 2 &&& 31))) ||| (if V.1 19 0 0 (100 * 3 + b) = 0 then 0 else (1 : Int32) <<< (nI 3 &&& 31)) ∧ ok_QC_nodesThatHave (nI b) S := by
      unfold f_QC_nodesThatHave ok_QC_nodesThatHave
      have a0 := s1 0 0 199 (by decide)
      have a1 := s1 1 (0 ||| (if V.1 19 0 0 (100 * 0 + b) = 0 then 0 else (1 : Int32) <<< (nI 0 &&& 31))) 198 (by decide)
      have a2 := s1 2 ((0 ||| (if V.1 19 0 0 (100 * 0 + b) = 0 then 0 else (1 : Int32) <<< (nI 0 &&& 31))) ||| (if V.1 19 0 0 (100 * 1 + b) = 0 then 0 else (1 : Int32) <<< (nI 1 &&& 31))) 197 (by decide)
      have a3 := s1 3 (((0 ||| (if V.1 19 0 0 (100 * 0 + b) = 0 then 0 else (1 : Int32) <<< (nI 0 &&& 31))) ||| (if V.1 19 0 0 (100 * 1 + b) = 0 then 0 else (1 : Int32) <<< (nI 1 &&& 31))) ||| (if V.1 19 0 0 (100 * 2 + b) = 0 then 0 else (1 : Int32) <<< (nI 2 &&& 31))) 196 (by decide)
      have a4 := s4 ((((0 ||| (if V.1 19 0 0 (100 * 0 + b) = 0 then 0 else (1 : Int32) <<< (nI 0 &&& 31))) ||| (if V.1 19 0 0 (100 * 1 + b) = 0 then 0 else (1 : Int32) <<< (nI 1 &&& 31))) ||| (if V.1 19 0 0 (100 * 2 + b) = 0 then 0 else (1 : Int32) <<< (nI 2 &&& 31))) ||| (if V.1 19 0 0 (100 * 3 + b) = 0 then 0 else (1 : Int32) <<< (nI 3 &&& 31))) 195
      exact ⟨a0.1.trans (a1.1.trans (a2.1.trans (a3.1.trans a4.1))), a0.2 (a1.2 (a2.2 (a3.2 a4.2)))⟩
    rw [n1, n2, if_neg n10, if_neg n10, vo.1, po.1, to.1, ce.1, eN.1, nI_clamp (by omega)]
    have e138 : ∀ t0 t1 : Int32, f_M_block_138 (nI b) a2 V t0 t1 = (if V.1 19 0 0 (300 + b) = 0 then ((t1 + t0) + 0, V) else ((t1 + t0) + 8, V)) := fun t0 t1 => by
      unfold f_M_block_138
      rw [e300, nI_clamp (by omega)]
    have e119 : ∀ t0 t1 : Int32, f_M_block_119 (nI b) a2 V t0 t1 = (if V.1 19 0 0 (200 + b) = 0 then f_M_block_138 (nI b) a2 V 0 (t1 + t0) else f_M_block_138 (nI b) a2 V 4 (t1 + t0)) := fun t0 t1 => by
      unfold f_M_block_119
      rw [e200, nI_clamp (by omega)]
    have e102 : ∀ t0 : Int32, f_M_block_102 (nI b) a2 V t0 = (if V.1 19 0 0 (100 + b) = 0 then f_M_block_119 (nI b) a2 V 0 t0 else f_M_block_119 (nI b) a2 V 2 t0) := fun t0 => by
      unfold f_M_block_102
      rw [e100, nI_clamp (by omega)]
    have o138 : ∀ t0 t1 : Int32, ok_M_block_138 (nI b) a2 V t0 t1 := fun t0 t1 => by
      unfold ok_M_block_138
      rw [e300]
      exact ⟨p400 300 (by decide), trivial⟩
    have o119 : ∀ t0 t1 : Int32, ok_M_block_119 (nI b) a2 V t0 t1 := fun t0 t1 => by
      unfold ok_M_block_119
      rw [e200]
      exact ⟨p400 200 (by decide), fun _ => o138 _ _, fun _ => o138 _ _⟩
    have o102 : ∀ t0 : Int32, ok_M_block_102 (nI b) a2 V t0 := fun t0 => by
      unfold ok_M_block_102
      rw [e100]
      exact ⟨p400 100 (by decide), fun _ => o119 _ _, fun _ => o119 _ _⟩
    have b400 : vp_in (nI b) 400 := vp_in_nI (by omega) (by decide)
    refine ⟨?_, ⟨fun q => absurd q (by decide), fun _ => ⟨fun _ => ⟨vo.2, trivial⟩, fun _ => ⟨fun _ => ⟨po.2, trivial⟩, fun _ => ⟨fun _ => ⟨to.2, trivial⟩, fun _ => ⟨fun _ => ⟨ce.2, trivial⟩, fun _ => ⟨fun _ => ⟨eN.2, trivial⟩, fun _ => trivial⟩⟩⟩⟩⟩⟩, ⟨fun q => absurd q (by decide), fun _ => ⟨fun _ => ⟨b100, trivial⟩, fun _ => ⟨fun _ => ⟨b100, trivial⟩, fun _ => ⟨fun _ => ⟨b100, trivial⟩, fun _ => ⟨fun _ => ⟨b100, trivial⟩, fun _ => ⟨fun _ => ⟨b400, fun _ => o102 _, fun _ => o102 _⟩, fun _ => trivial⟩⟩⟩⟩⟩⟩⟩
    by_cases d0 : a2 = 0
    · rw [if_pos d0, if_pos d0]
    · rw [if_neg d0, if_neg d0]
      by_cases d1 : a2 = 1
      · rw [if_pos d1, if_pos d1]
      · rw [if_neg d1, if_neg d1]
        by_cases d2 : a2 = 2
        · rw [if_pos d2, if_pos d2]
        · rw [if_neg d2, if_neg d2]
          by_cases d3 : a2 = 3
          · rw [if_pos d3, if_pos d3]
            by_cases z : V.1 10 0 0 b = 0
            · rw [if_pos z, if_pos z, if_pos rfl]
            · rw [if_neg z, if_neg z, if_neg (by decide)]
          · rw [if_neg d3, if_neg d3]
            by_cases d4 : a2 = 4
            · rw [if_pos d4, if_pos d4]
              simp only [e102, e119, e138]
              rw [show 100 * 0 + b = b by omega]
              by_cases z0 : V.1 19 0 0 b = 0 <;> by_cases z1 : V.1 19 0 0 (100 + b) = 0 <;> by_cases z2 : V.1 19 0 0 (200 + b) = 0 <;> by_cases z3 : V.1 19 0 0 (300 + b) = 0 <;> simp only [z0, z1, z2, z3, if_true, if_false, reduceIte, Nat.reduceMul] <;> exact congrArg (fun x => (x, V)) (by decide)
            · rw [if_neg d4, if_neg d4]
