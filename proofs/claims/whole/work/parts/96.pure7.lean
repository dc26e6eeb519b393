/-! crash. -/
theorem lit200n {j : Nat} (h : j < 200) : ¬ (200 : Int32) ≤ nI j := fun q => by
  have := (nI_leI (a := 200) (b := j) (by omega) (by omega)).mp q
  omega
theorem Rel.fly0 {sd : Int32} {S U : St} (h : Rel sd S U) {i : Nat} (hi : i < 4) : Rel sd (si S 12 i 0 1 0) (si U 28 0 0 i 0) := by
  have eU : ∀ k y, k ≠ 28 → (si U 28 0 0 i 0).1 k 0 0 y = U.1 k 0 0 y := fun k y hk => by rw [si_i, if_neg (fun q => hk q.1)]
  have e28 : ∀ y, y ≠ i → (si U 28 0 0 i 0).1 28 0 0 y = U.1 28 0 0 y := fun y hy => by rw [si_i, if_neg (fun q => hy q.2.2.2)]
  refine Rel.mk (m := ?_) (id := ?_) (se := ?_) (ow := ?_) (us := h.us) (tr := h.tr) (row := h.row) (inj := h.inj) (msg := ?_) (sg := ?_) (bc := ?_)
  · intro k2 i2 j2 x2 k2' y2 hm2
    have ff := (Mp.flying hi).iff hm2
    rw [si_i, si_i]
    by_cases c : k2 = 12 ∧ i2 = i ∧ j2 = 0 ∧ x2 = 1
    · have c' := ff.mp c
      rw [if_pos c, if_pos ⟨c'.1, rfl, rfl, c'.2⟩]
    · rw [if_neg c, if_neg (fun q => c (ff.mpr ⟨q.1, q.2.2.2⟩))]
      exact h.m hm2
  · intro i' hi'
    rw [si_i, if_neg (fun q => by omega)]
    exact h.id i' hi'
  · intro i' hi'
    rw [si_i, if_neg (fun q => by omega)]
    exact h.se i' hi'
  · intro i' hi'
    rw [si_i, if_neg (fun q => by omega)]
    exact h.ow i' hi'
  · intro i' hi' k hk hf f h1 h5
    by_cases c : i' = i
    · subst c
      rw [si_rd] at hf
      exact absurd hf (Nat.not_lt_zero _)
    · rw [e28 i' c] at hf
      rw [si_i, if_neg (fun q => by omega), eU _ _ (by omega)]
      exact h.msg i' hi' k hk hf f h1 h5
  · intro i' hi' k hk hf h3 l hl
    by_cases c : i' = i
    · subst c
      rw [si_rd] at hf
      exact absurd hf (Nat.not_lt_zero _)
    · rw [e28 i' c] at hf
      rw [eU 29 _ (by decide)] at h3
      exact h.sg i' hi' k hk hf h3 l hl
  · intro i' hi'
    rw [si_i, if_neg (fun q => by omega), h.bc i' hi']
    simp only [eU 19 _ (by decide)]
theorem Rel.u21 {sd : Int32} {S U : St} (h : Rel sd S U) {i v : Nat} (hi : i < 4) (h1 : 128 ≤ v) (h2 : v < 200) (w : Int32) : Rel sd S (si U 21 0 0 (200 * i + v) w) := by
  have eU : ∀ k y, k ≠ 21 → (si U 21 0 0 (200 * i + v) w).1 k 0 0 y = U.1 k 0 0 y := fun k y hk => by rw [si_i, if_neg (fun q => hk q.1)]
  refine Rel.mk (m := ?_) (id := h.id) (se := h.se) (ow := h.ow) (us := h.us) (tr := h.tr) (row := h.row) (inj := h.inj) (msg := ?_) (sg := ?_) (bc := ?_)
  · intro k2 i2 j2 x2 k2' y2 hm2
    rw [si_i, if_neg (fun q => by
      have b := hm2.bk
      rw [q.1, q.2.2.2] at b
      simp only [mbk, Prod.mk.injEq] at b
      have m2 := hm2
      rw [← b.1, ← b.2.1, ← b.2.2.1, ← b.2.2.2] at m2
      unfold Mp at m2
      omega)]
    exact h.m hm2
  · intro i' hi' k hk hf f f1 f5
    rw [eU 28 _ (by decide)] at hf
    rw [eU _ _ (by omega)]
    exact h.msg i' hi' k hk hf f f1 f5
  · intro i' hi' k hk hf h3 l hl
    rw [eU 28 _ (by decide)] at hf
    rw [eU 29 _ (by decide)] at h3
    exact h.sg i' hi' k hk hf h3 l hl
  · intro i' hi'
    rw [h.bc i' hi']
    simp only [eU 19 _ (by decide)]
theorem r_crash87 {sd : Int32} {i : Nat} (hi : i < 4) (S : St) (n : Nat) : ∀ (k : Nat) (U : St), 128 ≤ k → k ≤ 200 → 200 - k < n → Rel sd S U → ∃ U', f_M_crash_87 (nI i) n U (nI k) = (1, U') ∧ Rel sd S U' ∧ (∀ y, U'.1 21 0 0 y = if 200 * i + k ≤ y ∧ y < 200 * i + 200 then 0 else U.1 21 0 0 y) ∧ (∀ q, q ≠ 21 → U'.1 q 0 0 = U.1 q 0 0) ∧ ok_M_crash_87 (nI i) n U (nI k) := by
  induction n with
  | zero => exact fun k U _ _ h => absurd h (Nat.not_lt_zero _)
  | succ n ih =>
    intro k U h128 hk hn h
    rw [f_M_crash_87, ok_M_crash_87]
    by_cases c : k = 200
    · subst c
      rw [if_pos (by decide)]
      exact ⟨U, rfl, h, fun y => by rw [if_neg (by omega)], fun _ _ => rfl, fun _ => trivial, fun q => absurd (by decide) q⟩
    · have l := lit200n (j := k) (by omega)
      rw [if_neg l, lt, lt, ix200, nI_clamp (by omega), nI_s]
      obtain ⟨U', e, r, a, b, o⟩ := ih (k + 1) (si U 21 0 0 (200 * i + k) 0) (by omega) (by omega) (by omega) (h.u21 hi h128 (by omega) 0)
      refine ⟨U', e, r, fun y => ?_, fun q hq => ?_, fun q => absurd q l, fun _ => ⟨vp_in_nI (by omega) (by decide), o⟩⟩
      · rw [a y, si_i]
        by_cases c1 : y = 200 * i + k
        · rw [if_neg (by omega), if_pos ⟨rfl, rfl, rfl, c1⟩, if_pos (by omega)]
        · rw [if_neg (c := (21 : Nat) = 21 ∧ _) (fun q => c1 q.2.2.2)]
          by_cases c2 : 200 * i + (k + 1) ≤ y ∧ y < 200 * i + 200
          · rw [if_pos c2, if_pos (by omega)]
          · rw [if_neg c2, if_neg (by omega)]
      · rw [b q hq]
        funext y
        rw [si_i, if_neg (fun z => hq z.1)]
/-- time-outs emptied: the class's 128 beside the reference's first 128 -/
theorem r_tout {sd : Int32} {i : Nat} (hi : i < 4) (n : Nat) : ∀ (m k : Nat) (S U : St), k ≤ 128 → 128 - k < n → 200 - k < m → Rel sd (si S 3 i 0 6 0) U → ∃ S' U', f_Tally_empty_2 i 1 n S (nI k) = S' ∧ f_M_crash_87 (nI i) m U (nI k) = (1, U') ∧ Rel sd (si S' 3 i 0 6 0) U' ∧ (∀ y, U'.1 21 0 0 y = if 200 * i + k ≤ y ∧ y < 200 * i + 200 then 0 else U.1 21 0 0 y) ∧ (∀ q, q ≠ 21 → U'.1 q 0 0 = U.1 q 0 0) ∧ ok_Tally_empty_2 i 1 n S (nI k) ∧ ok_M_crash_87 (nI i) m U (nI k) := by
  induction n with
  | zero => exact fun m k S U _ h => absurd h (Nat.not_lt_zero _)
  | succ n ih =>
    intro m k S U hk hn hm h
    rw [f_Tally_empty_2, ok_Tally_empty_2]
    have et : Int32.ofNat (tlen 1) = nI 128 := rfl
    rw [et]
    by_cases c : k = 128
    · subst c
      rw [if_pos (Int32.le_refl _)]
      obtain ⟨U', e, r, a, b, o⟩ := r_crash87 hi (si S 3 i 0 6 0) m 128 U (by omega) (by omega) (by omega) h
      exact ⟨S, U', rfl, e, r, a, b, ⟨fun _ => trivial, fun q => absurd (Int32.le_refl _) q⟩, o⟩
    · have cc : ¬ nI 128 ≤ nI k := fun q => by
        have := (nI_leI (a := 128) (b := k) (by omega) (by omega)).mp q
        omega
      obtain ⟨m, rfl⟩ : ∃ n', m = n' + 1 := ⟨m - 1, by omega⟩
      have l := lit200n (j := k) (by omega)
      have h' : Rel sd (si (si S 17 i 1 k 0) 3 i 0 6 0) (si U 21 0 0 (200 * i + k) 0) := by
        rw [si_comm _ (k := 17) (k' := 3) (by decide)]
        exact h.w (Mp.touts hi (by omega)) (by decide) (by decide) 0
      obtain ⟨S', U', e1, e2, r, a, b, o1, o2⟩ := ih m (k + 1) (si S 17 i 1 k 0) (si U 21 0 0 (200 * i + k) 0) (by omega) (by omega) (by omega) h'
      rw [if_neg cc, f_M_crash_87, ok_M_crash_87, if_neg l, lt, lt, lt, lt, ix200, nI_clamp (by omega : k < 2 ^ 31), nI_clamp (by omega : 200 * i + k < 2 ^ 31), nI_s]
      refine ⟨S', U', e1, e2, r, fun y => ?_, fun q hq => ?_, ⟨fun q => absurd q cc, fun _ => ⟨vp_in_nI (N := tlen 1) (show k < 128 by omega) (by decide), o1⟩⟩, ⟨fun q => absurd q l, fun _ => ⟨vp_in_nI (by omega) (by decide), o2⟩⟩⟩
      · rw [a y, si_i]
        by_cases c1 : y = 200 * i + k
        · rw [if_neg (by omega), if_pos ⟨rfl, rfl, rfl, c1⟩, if_pos (by omega)]
        · rw [if_neg (c := (21 : Nat) = 21 ∧ _) (fun q => c1 q.2.2.2)]
          by_cases c2 : 200 * i + (k + 1) ≤ y ∧ y < 200 * i + 200
          · rw [if_pos c2, if_pos (by omega)]
          · rw [if_neg c2, if_neg (by omega)]
      · rw [b q hq]
        funext y
        rw [si_i, if_neg (fun z => hq z.1)]
theorem r_votes {sd : Int32} {i : Nat} (hi : i < 4) (n : Nat) : ∀ (m k : Nat) (S U : St), k ≤ 100 → 100 - k < n → 100 - k < m → Rel sd (si S 3 i 0 6 0) U → ∃ S' U', f_Tally_empty_2 i 0 n S (nI k) = S' ∧ f_M_crash_61 (nI i) m U (nI k) = f_M_crash_87 (nI i) 300 U' 0 ∧ Rel sd (si S' 3 i 0 6 0) U' ∧ (∀ y, U'.1 20 0 0 y = if 100 * i + k ≤ y ∧ y < 100 * i + 100 then 0 else U.1 20 0 0 y) ∧ (∀ q, q ≠ 20 → U'.1 q 0 0 = U.1 q 0 0) ∧ ok_Tally_empty_2 i 0 n S (nI k) ∧ (ok_M_crash_87 (nI i) 300 U' 0 → ok_M_crash_61 (nI i) m U (nI k)) := by
  induction n with
  | zero => exact fun m k S U _ h => absurd h (Nat.not_lt_zero _)
  | succ n ih =>
    intro m k S U hk hn hm h
    obtain ⟨m, rfl⟩ : ∃ n', m = n' + 1 := ⟨m - 1, by omega⟩
    rw [f_Tally_empty_2, ok_Tally_empty_2, f_M_crash_61, ok_M_crash_61]
    have et : Int32.ofNat (tlen 0) = nI 100 := rfl
    rw [et]
    by_cases c : k = 100
    · subst c
      rw [if_pos (Int32.le_refl _), if_pos (by decide)]
      exact ⟨S, U, rfl, rfl, h, fun y => by rw [if_neg (by omega)], fun _ _ => rfl, ⟨fun _ => trivial, fun q => absurd (Int32.le_refl _) q⟩, fun o => ⟨fun _ => o, fun q => absurd (by decide) q⟩⟩
    · have cc : ¬ nI 100 ≤ nI k := fun q => by
        have := (nI_leI (a := 100) (b := k) (by omega) (by omega)).mp q
        omega
      have l := lit100n (j := k) (by omega)
      have h' : Rel sd (si (si S 17 i 0 k 0) 3 i 0 6 0) (si U 20 0 0 (100 * i + k) 0) := by
        rw [si_comm _ (k := 17) (k' := 3) (by decide)]
        exact h.w (Mp.votes hi (by omega)) (by decide) (by decide) 0
      obtain ⟨S', U', e1, e2, r, a, b, o1, o2⟩ := ih m (k + 1) (si S 17 i 0 k 0) (si U 20 0 0 (100 * i + k) 0) (by omega) (by omega) (by omega) h'
      rw [if_neg cc, if_neg l, lt, lt, lt, lt, ix100, nI_clamp (by omega : k < 2 ^ 31), nI_clamp (by omega : 100 * i + k < 2 ^ 31), nI_s]
      refine ⟨S', U', e1, e2, r, fun y => ?_, fun q hq => ?_, ⟨fun q => absurd q cc, fun _ => ⟨vp_in_nI (N := tlen 0) (show k < 100 by omega) (by decide), o1⟩⟩, fun o => ⟨fun q => absurd q l, fun _ => ⟨vp_in_nI (by omega) (by decide), o2 o⟩⟩⟩
      · rw [a y, si_i]
        by_cases c1 : y = 100 * i + k
        · rw [if_neg (by omega), if_pos ⟨rfl, rfl, rfl, c1⟩, if_pos (by omega)]
        · rw [if_neg (c := (20 : Nat) = 20 ∧ _) (fun q => c1 q.2.2.2)]
          by_cases c2 : 100 * i + (k + 1) ≤ y ∧ y < 100 * i + 100
          · rw [if_pos c2, if_pos (by omega)]
          · rw [if_neg c2, if_neg (by omega)]
      · rw [b q hq]
        funext y
        rw [si_i, if_neg (fun z => hq z.1)]
theorem tbit0 (s : Nat) : ¬ tbit 0 s := fun q => q (by
  apply Int32.toBitVec_inj.mp
  rw [Int32.toBitVec_and]
  exact BitVec.zero_and)
theorem Ivt.fall {sg : Nat → Nat} {B T : Nat} {U U' : St} (h : Ivt sg B T U) {i : Nat} (e28 : U'.1 28 0 0 = upd (U.1 28 0 0) i 0) (e22 : U'.1 22 0 0 = upd (U.1 22 0 0) i 0) (e20 : ∀ y, U'.1 20 0 0 y = if 100 * i ≤ y ∧ y < 100 * i + 100 then 0 else U.1 20 0 0 y) (e21 : ∀ y, U'.1 21 0 0 y = if 200 * i ≤ y ∧ y < 200 * i + 200 then 0 else U.1 21 0 0 y) (eo : ∀ k, k ≠ 11 → k ≠ 20 → k ≠ 21 → k ≠ 22 → k ≠ 28 → U'.1 k 0 0 = U.1 k 0 0) : Ivt sg B T U' := by
  have un : ∀ (f : Nat → Int32) (x : Int32) (j : Nat), j ≠ i → upd f i x j = f j := fun f x j hj => by
    unfold upd
    rw [if_neg hj]
  have E : ∀ k, k ≠ 11 → k ≠ 20 → k ≠ 21 → k ≠ 22 → k ≠ 28 → U'.1 k 0 0 = U.1 k 0 0 := eo
  apply Ivt.mk
  case votes =>
    intro i' hi' b hb
    rw [e20]
    by_cases c : 100 * i ≤ 100 * i' + b ∧ 100 * i' + b < 100 * i + 100
    · rw [if_pos c]
      exact ⟨0, by decide, rfl⟩
    · rw [if_neg c]
      exact h.votes i' hi' b hb
  case votesB =>
    intro i' hi' b hb hb2
    rw [e20]
    by_cases c : 100 * i ≤ 100 * i' + b ∧ 100 * i' + b < 100 * i + 100
    · rw [if_pos c]
    · rw [if_neg c]
      exact h.votesB i' hi' b hb hb2
  case votesM =>
    rw [E 18 (by decide) (by decide) (by decide) (by decide) (by decide), E 7 (by decide) (by decide) (by decide) (by decide) (by decide)]
    intro i' hi' b hb s hs q
    rw [e20] at q
    by_cases c : 100 * i ≤ 100 * i' + b ∧ 100 * i' + b < 100 * i + 100
    · rw [if_pos c] at q
      exact absurd q (tbit0 s)
    · rw [if_neg c] at q
      exact h.votesM i' hi' b hb s hs q
  case touts =>
    intro i' hi' b hb
    rw [e21]
    by_cases c : 200 * i ≤ 200 * i' + b ∧ 200 * i' + b < 200 * i + 200
    · rw [if_pos c]
      exact ⟨0, by decide, rfl⟩
    · rw [if_neg c]
      exact h.touts i' hi' b hb
  case toutsM =>
    rw [E 18 (by decide) (by decide) (by decide) (by decide) (by decide)]
    intro i' hi' b hb s hs q
    rw [e21] at q
    by_cases c : 200 * i ≤ 200 * i' + b ∧ 200 * i' + b < 200 * i + 200
    · rw [if_pos c] at q
      exact absurd q (tbit0 s)
    · rw [if_neg c] at q
      exact h.toutsM i' hi' b hb s hs q
  case pooled =>
    intro i' hi'
    rw [e22]
    by_cases c : i' = i
    · rw [c, upd_same]
      exact ⟨0, by decide, rfl⟩
    · rw [un _ _ _ c]
      exact h.pooled i' hi'
  case pool =>
    rw [E 23 (by decide) (by decide) (by decide) (by decide) (by decide)]
    intro i' hi' k hk hf
    rw [e22] at hf
    by_cases c : i' = i
    · rw [c, upd_same] at hf
      exact absurd hf (Nat.not_lt_zero _)
    · rw [un _ _ _ c] at hf
      exact h.pool i' hi' k hk hf
  case poolD =>
    rw [E 23 (by decide) (by decide) (by decide) (by decide) (by decide)]
    intro i' hi' k hk hf
    rw [e22] at hf
    by_cases c : i' = i
    · rw [c, upd_same] at hf
      exact absurd hf (Nat.not_lt_zero _)
    · rw [un _ _ _ c] at hf
      exact h.poolD i' hi' k hk hf
  case fly =>
    intro i' hi'
    rw [e28]
    by_cases c : i' = i
    · rw [c, upd_same]
      exact ⟨0, by decide, rfl⟩
    · rw [un _ _ _ c]
      exact h.fly i' hi'
  case msgs =>
    rw [E 18 (by decide) (by decide) (by decide) (by decide) (by decide), E 7 (by decide) (by decide) (by decide) (by decide) (by decide), E 29 (by decide) (by decide) (by decide) (by decide) (by decide), E 30 (by decide) (by decide) (by decide) (by decide) (by decide), E 31 (by decide) (by decide) (by decide) (by decide) (by decide), E 32 (by decide) (by decide) (by decide) (by decide) (by decide), E 33 (by decide) (by decide) (by decide) (by decide) (by decide)]
    intro i' hi' k hk hf
    rw [e28] at hf
    by_cases c : i' = i
    · rw [c, upd_same] at hf
      exact absurd hf (Nat.not_lt_zero _)
    · rw [un _ _ _ c] at hf
      exact h.msgs i' hi' k hk hf
  all_goals try simp only [E 1 (by decide) (by decide) (by decide) (by decide) (by decide), E 8 (by decide) (by decide) (by decide) (by decide) (by decide), E 7 (by decide) (by decide) (by decide) (by decide) (by decide), E 9 (by decide) (by decide) (by decide) (by decide) (by decide), E 3 (by decide) (by decide) (by decide) (by decide) (by decide), E 4 (by decide) (by decide) (by decide) (by decide) (by decide), E 12 (by decide) (by decide) (by decide) (by decide) (by decide), E 14 (by decide) (by decide) (by decide) (by decide) (by decide), E 15 (by decide) (by decide) (by decide) (by decide) (by decide), E 16 (by decide) (by decide) (by decide) (by decide) (by decide), E 17 (by decide) (by decide) (by decide) (by decide) (by decide), E 18 (by decide) (by decide) (by decide) (by decide) (by decide), E 19 (by decide) (by decide) (by decide) (by decide) (by decide), E 24 (by decide) (by decide) (by decide) (by decide) (by decide), E 25 (by decide) (by decide) (by decide) (by decide) (by decide)]
  · exact h.hB
  · exact h.hB1
  · exact h.hB2
  · exact h.hT
  · exact h.hT2
  · exact h.par0
  · exact h.par
  · exact h.vw0
  · exact h.vw
  · exact h.car
  · exact h.fr
  · exact h.to
  · exact h.view
  · exact h.span
  · exact h.high
  · exact h.locked
  · exact h.voted
  · exact h.used
  · exact h.has0
  · exact h.hasB
  · exact h.hasV
  · exact h.logged
  · exact h.log0
  · exact h.log
  · exact h.logP
theorem b_crash {sd : Int32} {S U : St} (h : JB sd S U) (a1 : Int32) : ∃ k r S' r' U', f_QC_crash a1 S = (k, r, S') ∧ f_M_crash a1 U = (r', U') ∧ U'.1 1 0 0 1 = nI k ∧ (k = 0 → r = r') ∧ (k ≤ 2 ∧ (k ≠ 0 → S' = S)) ∧ JB sd S' U' ∧ ok_QC_crash a1 S ∧ ok_M_crash a1 U := by
  have e26 : ∀ t : Int32, ¬ t ≤ 0 → f_M_crash_26 a1 U t = (0, si U 1 0 0 1 t) ∧ ok_M_crash_26 a1 U t := fun t p => by
    unfold f_M_crash_26 ok_M_crash_26
    constructor
    · rw [lt, thr_le, if_neg p]
    · rw [lt, thr_le]
      exact ⟨fun q => absurd q p, fun _ => trivial⟩
  have e1 := e26 1 (by decide)
  have e2 := e26 2 (by decide)
  obtain ⟨sg, B, T, h1⟩ := h.go
  rcases nd_or a1 with n | ⟨i, hi, rfl⟩
  · refine ⟨1, 0, S, 0, si U 1 0 0 1 1, ?_, ?_, thr_le _, fun z => by omega, ⟨by decide, fun _ => rfl⟩, h.thr _, ?_, ?_⟩
    · unfold f_QC_crash
      rw [lt, (n S).1, if_pos rfl]
    · unfold f_M_crash
      rw [lt, (n U).2, if_pos rfl]
      exact e1.1
    · unfold ok_QC_crash
      rw [lt, (n S).1]
      exact ⟨fun _ => trivial, fun q => absurd rfl q⟩
    · unfold ok_M_crash
      rw [lt, (n U).2]
      exact ⟨fun _ => e1.2, fun q => absurd rfl q⟩
  · have i4 : vp_in (nI i) 4 := vp_in_nI hi (by decide)
    have eu : S.1 3 i 0 7 = U.1 11 0 0 i := h1.e (Mp.up hi)
    by_cases cu : U.1 11 0 0 i = 0
    · refine ⟨2, 0, S, 0, si U 1 0 0 1 2, ?_, ?_, thr_le _, fun z => by omega, ⟨by decide, fun _ => rfl⟩, h.thr _, ?_, ?_⟩
      · unfold f_QC_crash
        rw [lt, q_isNode hi, if_neg (by decide), nI_clamp (by omega), eu, if_pos cu]
      · unfold f_M_crash
        rw [lt, m_isNode hi, if_neg (by decide), nI_clamp (by omega), if_pos cu]
        exact e2.1
      · unfold ok_QC_crash
        rw [lt, q_isNode hi, nI_clamp (by omega), eu]
        exact ⟨fun q => absurd q (by decide), fun _ => ⟨i4, fun _ => trivial, fun q => absurd cu q⟩⟩
      · unfold ok_M_crash
        rw [lt, m_isNode hi, nI_clamp (by omega)]
        exact ⟨fun q => absurd q (by decide), fun _ => ⟨i4, fun _ => e2.2, fun q => absurd cu q⟩⟩
    · obtain ⟨U0, hU0⟩ : ∃ z, z = si U 1 0 0 1 0 := ⟨_, rfl⟩
      rw [← hU0] at h1
      have r1 := h1.r.w (Mp.up hi) (by decide) (by decide) 0
      have r2 := r1.fly0 hi
      have r3 := r2.w (Mp.pooled hi) (by decide) (by decide) 0
      obtain ⟨S', U', q1, q2, q3, q4, q5, o1, o2⟩ := r_votes hi 200 300 0 (si (si S 3 i 0 7 0) 12 i 0 1 0) _ (by omega) (by omega) (by omega) r3
      obtain ⟨S'', U'', p1, p2, p3, p4, p5, o3, o4⟩ := r_tout hi 200 300 0 S' U' (by omega) (by omega) (by omega) q3
      have eQ : f_QC_crash (nI i) S = (0, 1, si S'' 3 i 0 6 0) := by
        unfold f_QC_crash f_Node_fall
        rw [lt, q_isNode hi, if_neg (by decide), nI_clamp (by omega), eu, if_neg cu]
        repeat rw [lt]
        unfold f_Tally_empty
        rw [show f_Tally_empty_2 i 0 200 (si (si S 3 i 0 7 0) 12 i 0 1 0) 0 = S' from q1, show f_Tally_empty_2 i 1 200 S' 0 = S'' from p1]
      have okQ : ok_QC_crash (nI i) S := by
        unfold ok_QC_crash ok_Node_fall
        rw [lt, q_isNode hi, nI_clamp (by omega), eu]
        refine ⟨fun q => absurd q (by decide), fun _ => ⟨i4, fun _ => trivial, fun _ => ⟨i4, ?_, trivial⟩⟩⟩
        repeat rw [lt]
        unfold f_Tally_empty ok_Tally_empty
        rw [show f_Tally_empty_2 i 0 200 (si (si S 3 i 0 7 0) 12 i 0 1 0) 0 = S' from q1]
        exact ⟨o1, o3, trivial⟩
      have eM : f_M_crash (nI i) U = (1, U'') := by
        unfold f_M_crash
        rw [lt, m_isNode hi, if_neg (by decide), nI_clamp (by omega), if_neg cu]
        unfold f_M_crash_26
        rw [lt, thr_le, if_pos (by decide), lt, lt, lt, nI_clamp (by omega), ← hU0]
        exact q2.trans p2
      have okM : ok_M_crash (nI i) U := by
        unfold ok_M_crash
        rw [lt, m_isNode hi, nI_clamp (by omega)]
        refine ⟨fun q => absurd q (by decide), fun _ => ⟨i4, fun q => absurd q cu, fun _ => ?_⟩⟩
        unfold ok_M_crash_26
        rw [lt, thr_le]
        refine ⟨fun _ => ⟨i4, ?_⟩, fun q => absurd (by decide) q⟩
        rw [lt, lt, lt, nI_clamp (by omega), ← hU0]
        exact ⟨i4, i4, o2 o4⟩
      have iv : Ivt sg B T U'' := h1.v.fall (i := i) (by
          rw [p5 28 (by decide), q5 28 (by decide)]
          exact si_k (si U0 11 0 0 i 0) 28 i 0) (by
          rw [p5 22 (by decide), q5 22 (by decide)]
          exact si_k (si (si U0 11 0 0 i 0) 28 0 0 i 0) 22 i 0) (fun y => by
          rw [p5 20 (by decide), q4 y, Nat.add_zero]
          rfl) (fun y => by
          rw [p4 y, Nat.add_zero, q5 21 (by decide)]
          rfl) (fun k k1 k2 k3 k4 k5 => by
          rw [p5 k k3, q5 k k2]
          funext y
          rw [si_i, if_neg (fun q => k4 q.1), si_i, if_neg (fun q => k5 q.1), si_i, if_neg (fun q => k1 q.1)])
      rw [eQ, eM]
      refine ⟨0, 1, _, 1, _, rfl, rfl, ?_, fun _ => rfl, ⟨by decide, fun z => absurd rfl z⟩, ⟨sg, B, T, p3, iv⟩, okQ, okM⟩
      rw [p5 1 (by decide), q5 1 (by decide)]
      exact h1.t
/-! restart: the highest parent. -/
def Bst (vw : Nat → Nat) (X : Nat → Prop) (b : Nat) : Prop := (b = 0 ∨ X b) ∧ ∀ p, (p = 0 ∨ X p) → vw p < vw b ∨ (vw p = vw b ∧ b ≤ p)
theorem Bst.uniq {vw : Nat → Nat} {X : Nat → Prop} {a b : Nat} (h : Bst vw X a) (g : Bst vw X b) : a = b := by
  have p := h.2 b g.1
  have q := g.2 a h.1
  omega
theorem Bst.ext {vw : Nat → Nat} {X Y : Nat → Prop} {b : Nat} (h : Bst vw X b) (e : ∀ p, X p ↔ Y p) : Bst vw Y b := by
  refine ⟨?_, fun p hp => ?_⟩
  · rcases h.1 with z | z
    · exact Or.inl z
    · exact Or.inr ((e b).mp z)
  · refine h.2 p ?_
    rcases hp with z | z
    · exact Or.inl z
    · exact Or.inr ((e p).mpr z)
theorem Bst.skip {vw : Nat → Nat} {X : Nat → Prop} {b p : Nat} (h : Bst vw X b) (k : vw p < vw b ∨ (vw p = vw b ∧ b ≤ p)) : Bst vw (fun q => X q ∨ q = p) b := by
  refine ⟨?_, fun q hq => ?_⟩
  · rcases h.1 with z | z
    · exact Or.inl z
    · exact Or.inr (Or.inl z)
  · rcases hq with z | z | z
    · exact h.2 q (Or.inl z)
    · exact h.2 q (Or.inr z)
    · rw [z]
      exact k
theorem Bst.take {vw : Nat → Nat} {X : Nat → Prop} {b p : Nat} (h : Bst vw X b) (k : vw b < vw p ∨ (vw b = vw p ∧ p ≤ b)) : Bst vw (fun q => X q ∨ q = p) p := by
  refine ⟨Or.inr (Or.inr rfl), fun q hq => ?_⟩
  rcases hq with z | z | z
  · have := h.2 q (Or.inl z)
    omega
  · have := h.2 q (Or.inr z)
    omega
  · rw [z]
    omega
def vN (U : St) (p : Nat) : Nat := (U.1 7 0 0 p).toNatClampNeg
/-- the parents of the blocks below k that node i has -/
def Pr (U : St) (i k p : Nat) : Prop := ∃ c, 1 ≤ c ∧ c < k ∧ U.1 8 0 0 c = nI p ∧ U.1 19 0 0 (100 * i + c) ≠ 0
theorem vN_e {sg : Nat → Nat} {B T : Nat} {U : St} (h : Ivt sg B T U) {p : Nat} (hp : p < B) : U.1 7 0 0 p = nI (vN U p) ∧ vN U p < 128 := by
  unfold vN
  by_cases p0 : p = 0
  · subst p0
    rw [h.vw0]
    exact ⟨rfl, by decide⟩
  · obtain ⟨v, h1, h2, e, _⟩ := h.vw p (by omega) hp
    rw [e, nI_clamp (by omega)]
    exact ⟨rfl, h2⟩
theorem pr_step {U : St} {i k p : Nat} (hk : 1 ≤ k) (hp : p < 2 ^ 31) (ep : U.1 8 0 0 k = nI p) (hh : U.1 19 0 0 (100 * i + k) ≠ 0) (hb : ∀ c, c < k → ∀ q, U.1 8 0 0 c = nI q → q < 2 ^ 31 → True) (q : Nat) (hq : q < 2 ^ 31) : (Pr U i k q ∨ q = p) ↔ Pr U i (k + 1) q := by
  constructor
  · rintro (⟨c, c1, c2, c3, c4⟩ | rfl)
    · exact ⟨c, c1, by omega, c3, c4⟩
    · exact ⟨k, hk, by omega, ep, hh⟩
  · rintro ⟨c, c1, c2, c3, c4⟩
    by_cases ck : c = k
    · subst ck
      have := (nI_eq (by omega) hq).mp (ep.symm.trans c3)
      exact Or.inr this.symm
    · exact Or.inl ⟨c, c1, by omega, c3, c4⟩
/-- .. as numbers below 2 ^ 31 -/
def Pq (U : St) (i k p : Nat) : Prop := p < 2 ^ 31 ∧ Pr U i k p
theorem pq_step {U : St} {i k p : Nat} (hk : 1 ≤ k) (hp : p < 2 ^ 31) (ep : U.1 8 0 0 k = nI p) (hh : U.1 19 0 0 (100 * i + k) ≠ 0) (q : Nat) : (Pq U i k q ∨ q = p) ↔ Pq U i (k + 1) q := by
  unfold Pq
  constructor
  · rintro (⟨a, b⟩ | e)
    · exact ⟨a, (pr_step hk hp ep hh (fun _ _ _ _ _ => trivial) q a).mp (Or.inl b)⟩
    · subst e
      exact ⟨hp, (pr_step hk hp ep hh (fun _ _ _ _ _ => trivial) q hp).mp (Or.inr rfl)⟩
  · rintro ⟨a, b⟩
    rcases (pr_step hk hp ep hh (fun _ _ _ _ _ => trivial) q a).mpr b with z | z
    · exact Or.inl ⟨a, z⟩
    · exact Or.inr z
theorem pq_no {U : St} {i k : Nat} (hh : ¬ U.1 19 0 0 (100 * i + k) ≠ 0) (q : Nat) : Pq U i k q ↔ Pq U i (k + 1) q := by
  unfold Pq Pr
  constructor
  · rintro ⟨a, c, c1, c2, c3, c4⟩
    exact ⟨a, c, c1, by omega, c3, c4⟩
  · rintro ⟨a, c, c1, c2, c3, c4⟩
    by_cases ck : c = k
    · subst ck
      exact absurd c4 hh
    · exact ⟨a, c, c1, by omega, c3, c4⟩
section
variable {sd : Int32} {sg : Nat → Nat} {B T : Nat} {ak : Int32} {S U : St}
set_option maxHeartbeats 4000000 in
theorem q_highest (h : J sd sg B T ak S U) {i : Nat} (hi : i < 4) (n : Nat) : ∀ (b best : Nat), 1 ≤ b → b ≤ B → B - b < n → best < B → Bst (vN U) (Pq U i b) best → ∃ r, r < B ∧ f_QC_highestParent_4 i n S (nI best) (nI b) = nI r ∧ Bst (vN U) (Pq U i B) r ∧ ok_QC_highestParent_4 i n S (nI best) (nI b) := by
  have hB2 := h.v.hB2
  induction n with
  | zero => exact fun b best _ _ h => absurd h (Nat.not_lt_zero _)
  | succ n ih =>
    intro b best hb1 hb hn hbest hst
    rw [f_QC_highestParent_4, ok_QC_highestParent_4, h.eB]
    by_cases c : b = B
    · subst c
      rw [if_pos (Int32.le_refl _)]
      exact ⟨best, hbest, rfl, hst, fun _ => trivial, fun q => absurd (Int32.le_refl _) q⟩
    · have cc : ¬ nI B ≤ nI b := fun q => by
        have := (nI_leI (a := B) (b := b) (by omega) (by omega)).mp q
        omega
      have hbB : b < B := by omega
      obtain ⟨p, hp, ep⟩ := h.v.par b (by omega) hbB
      have hpB : p < B := by omega
      have pp := q_parentOf h hbB
      rw [ep] at pp
      have ab := q_isAbove h hpB hbest
      have hh := q_hasBlock h hi (b := b) (by omega)
      have vp := q_viewOf h hpB
      have vb := q_viewOf h hbest
      have np := vN_e h.v hpB
      have nb := vN_e h.v hbest
      rw [np.1, nb.1] at ab
      rw [np.1] at vp
      rw [nb.1] at vb
      have skipIh : ∀ X, Bst (vN U) X best → (∀ q, X q ↔ Pq U i (b + 1) q) → ∃ r, r < B ∧ f_QC_highestParent_4 i n S (nI best) (nI (b + 1)) = nI r ∧ Bst (vN U) (Pq U i B) r ∧ ok_QC_highestParent_4 i n S (nI best) (nI (b + 1)) := fun X hX e => ih (b + 1) best (by omega) (by omega) (by omega) hbest (hX.ext e)
      have takeIh : ∀ X, Bst (vN U) X p → (∀ q, X q ↔ Pq U i (b + 1) q) → ∃ r, r < B ∧ f_QC_highestParent_4 i n S (nI p) (nI (b + 1)) = nI r ∧ Bst (vN U) (Pq U i B) r ∧ ok_QC_highestParent_4 i n S (nI p) (nI (b + 1)) := fun X hX e => ih (b + 1) p (by omega) (by omega) (by omega) hpB (hX.ext e)
      have stp := fun hz : U.1 19 0 0 (100 * i + b) ≠ 0 => pq_step (U := U) (i := i) hb1 (by omega : p < 2 ^ 31) ep hz
      rw [if_neg cc]
      repeat rw [lt]
      rw [pp.1, ab.1, hh.1, nI_s, vp.1, vb.1]
      by_cases hz : U.1 19 0 0 (100 * i + b) = 0
      · obtain ⟨r, r1, r2, r3, r4⟩ := skipIh _ hst (fun q => pq_no (fun z => z hz) q)
        refine ⟨r, r1, ?_, r3, fun q => absurd q cc, fun _ => ⟨pp.2, ab.2, ?_, ?_⟩⟩
        · rw [if_pos hz, if_pos rfl]
          split
          · exact r2
          · split <;> exact r2
        · intro _
          rw [if_pos hz]
          exact ⟨hh.2, fun _ => r4, fun q => absurd rfl q⟩
        · intro _
          rw [if_pos hz]
          exact ⟨vp.2, vb.2, fun _ => ⟨hh.2, fun _ => r4, fun q => absurd rfl q⟩, fun _ => ⟨hh.2, fun _ => r4, fun q => absurd rfl q⟩⟩
      · have st := stp hz
        rw [if_neg hz]
        have n10 : ¬ (1 : Int32) = 0 := by decide
        by_cases cl : best ≤ p
        · have l : nI best ≤ nI p := (nI_leI (by omega) (by omega)).mpr cl
          by_cases cv : vN U p ≤ vN U best
          · have lv : nI (vN U p) ≤ nI (vN U best) := (nI_leI (by omega) (by omega)).mpr cv
            obtain ⟨r, r1, r2, r3, r4⟩ := skipIh _ (hst.skip (p := p) (by omega)) st
            rw [if_pos lv]
            exact ⟨r, r1, by rw [if_pos l, if_neg n10, if_pos rfl, if_pos rfl]; exact r2, r3, fun q => absurd q cc, fun _ => ⟨pp.2, ab.2, fun _ => ⟨hh.2, fun q => absurd q n10, fun _ => ⟨fun _ => ⟨fun _ => r4, fun q => absurd rfl q⟩, fun q => absurd rfl q⟩⟩, fun q => absurd l q⟩⟩
          · have lv : ¬ nI (vN U p) ≤ nI (vN U best) := fun q => cv ((nI_leI (by omega) (by omega)).mp q)
            obtain ⟨r, r1, r2, r3, r4⟩ := takeIh _ (hst.take (p := p) (by omega)) st
            rw [if_neg lv]
            exact ⟨r, r1, by rw [if_pos l, if_neg n10, if_neg n10]; exact r2, r3, fun q => absurd q cc, fun _ => ⟨pp.2, ab.2, fun _ => ⟨hh.2, fun q => absurd q n10, fun _ => ⟨fun q => absurd q n10, fun _ => r4⟩⟩, fun q => absurd l q⟩⟩
        · have l : ¬ nI best ≤ nI p := fun q => cl ((nI_leI (by omega) (by omega)).mp q)
          by_cases ce : vN U p = vN U best
          · have le : nI (vN U p) = nI (vN U best) := by rw [ce]
            have lv : nI (vN U p) ≤ nI (vN U best) := (nI_leI (by omega) (by omega)).mpr (by omega)
            obtain ⟨r, r1, r2, r3, r4⟩ := takeIh _ (hst.take (p := p) (by omega)) st
            rw [if_pos lv]
            exact ⟨r, r1, by rw [if_neg l, if_pos le, if_neg n10, if_pos rfl, if_neg n10]; exact r2, r3, fun q => absurd q cc, fun _ => ⟨pp.2, ab.2, fun q => absurd q l, fun _ => ⟨vp.2, vb.2, fun _ => ⟨hh.2, fun q => absurd q n10, fun _ => ⟨fun _ => ⟨fun q => absurd q n10, fun _ => r4⟩, fun q => absurd rfl q⟩⟩, fun q => absurd le q⟩⟩⟩
          · have le : ¬ nI (vN U p) = nI (vN U best) := fun q => ce ((nI_eq (by omega) (by omega)).mp q)
            by_cases cv : vN U p ≤ vN U best
            · have lv : nI (vN U p) ≤ nI (vN U best) := (nI_leI (by omega) (by omega)).mpr cv
              obtain ⟨r, r1, r2, r3, r4⟩ := skipIh _ (hst.skip (p := p) (by omega)) st
              rw [if_pos lv]
              exact ⟨r, r1, by rw [if_neg l, if_neg le, if_neg n10, if_pos rfl, if_pos rfl]; exact r2, r3, fun q => absurd q cc, fun _ => ⟨pp.2, ab.2, fun q => absurd q l, fun _ => ⟨vp.2, vb.2, fun q => absurd q le, fun _ => ⟨hh.2, fun q => absurd q n10, fun _ => ⟨fun _ => ⟨fun _ => r4, fun q => absurd rfl q⟩, fun q => absurd rfl q⟩⟩⟩⟩⟩
            · have lv : ¬ nI (vN U p) ≤ nI (vN U best) := fun q => cv ((nI_leI (by omega) (by omega)).mp q)
              obtain ⟨r, r1, r2, r3, r4⟩ := takeIh _ (hst.take (p := p) (by omega)) st
              rw [if_neg lv]
              exact ⟨r, r1, by rw [if_neg l, if_neg le, if_neg n10, if_neg n10]; exact r2, r3, fun q => absurd q cc, fun _ => ⟨pp.2, ab.2, fun q => absurd q l, fun _ => ⟨vp.2, vb.2, fun q => absurd q le, fun _ => ⟨hh.2, fun q => absurd q n10, fun _ => ⟨fun q => absurd q n10, fun _ => r4⟩⟩⟩⟩⟩
theorem m_some {i p : Nat} (hi : i < 4) {V : St} (hB2 : B ≤ 100) (eB : V.1 1 0 0 11 = nI B) (n : Nat) : ∀ (k : Nat) (l : Int32), k ≤ B → B - k < n → (l = 0 ∨ l = 1) → ∃ r : Int32, (r = 0 ∨ r = 1) ∧ f_M_restart_67 (nI i) n V (nI p) l (nI k) = r ∧ (r ≠ 0 ↔ (l ≠ 0 ∨ ∃ c, k ≤ c ∧ c < B ∧ V.1 8 0 0 c = nI p ∧ V.1 19 0 0 (100 * i + c) ≠ 0)) ∧ ok_M_restart_67 (nI i) n V (nI p) l (nI k) := by
  induction n with
  | zero => exact fun k l _ h => absurd h (Nat.not_lt_zero _)
  | succ n ih =>
    intro k l hk hn hl
    rw [f_M_restart_67, ok_M_restart_67, eB]
    by_cases c : k = B
    · subst c
      rw [if_pos (Int32.le_refl _)]
      refine ⟨l, hl, rfl, ⟨fun q => Or.inl q, fun q => ?_⟩, fun _ => trivial, fun q => absurd (Int32.le_refl _) q⟩
      rcases q with q | ⟨c, c1, c2, _⟩
      · exact q
      · omega
    · have cc : ¬ nI B ≤ nI k := fun q => by
        have := (nI_leI (a := B) (b := k) (by omega) (by omega)).mp q
        omega
      have k100 : vp_in (nI k) 100 := vp_in_nI (by omega) (by decide)
      have p400 : vp_in (nI (100 * i + k)) 400 := vp_in_nI (by omega) (by decide)
      have n10 : ¬ (1 : Int32) = 0 := by decide
      rw [if_neg cc, nI_clamp (by omega : k < 2 ^ 31), ix100, nI_clamp (by omega : 100 * i + k < 2 ^ 31), nI_s]
      rcases hl with rfl | rfl
      · rw [if_pos rfl]
        by_cases c1 : V.1 8 0 0 k = nI p
        · rw [if_pos c1]
          by_cases c2 : V.1 19 0 0 (100 * i + k) = 0
          · obtain ⟨r, r0, r1, r2, r3⟩ := ih (k + 1) 0 (by omega) (by omega) (Or.inl rfl)
            rw [if_pos c2]
            refine ⟨r, r0, r1, r2.trans ⟨fun q => ?_, fun q => ?_⟩, fun q => absurd q cc, fun _ => ⟨fun _ => ⟨k100, fun _ => ⟨p400, fun _ => r3, fun q => absurd c2 q⟩, fun q => absurd c1 q⟩, fun q => absurd rfl q⟩⟩
            · rcases q with q | ⟨c, a, b, d, e⟩
              · exact absurd rfl q
              · exact Or.inr ⟨c, by omega, b, d, e⟩
            · rcases q with q | ⟨c, a, b, d, e⟩
              · exact absurd rfl q
              · refine Or.inr ⟨c, ?_, b, d, e⟩
                by_cases ck : c = k
                · subst ck
                  exact absurd c2 e
                · omega
          · obtain ⟨r, r0, r1, r2, r3⟩ := ih (k + 1) 1 (by omega) (by omega) (Or.inr rfl)
            rw [if_neg c2]
            exact ⟨r, r0, r1, r2.trans ⟨fun _ => Or.inr ⟨k, Nat.le_refl _, by omega, c1, c2⟩, fun _ => Or.inl n10⟩, fun q => absurd q cc, fun _ => ⟨fun _ => ⟨k100, fun _ => ⟨p400, fun q => absurd q c2, fun _ => r3⟩, fun q => absurd c1 q⟩, fun q => absurd rfl q⟩⟩
        · obtain ⟨r, r0, r1, r2, r3⟩ := ih (k + 1) 0 (by omega) (by omega) (Or.inl rfl)
          rw [if_neg c1]
          refine ⟨r, r0, r1, r2.trans ⟨fun q => ?_, fun q => ?_⟩, fun q => absurd q cc, fun _ => ⟨fun _ => ⟨k100, fun q => absurd q c1, fun _ => r3⟩, fun q => absurd rfl q⟩⟩
          · rcases q with q | ⟨c, a, b, d, e⟩
            · exact absurd rfl q
            · exact Or.inr ⟨c, by omega, b, d, e⟩
          · rcases q with q | ⟨c, a, b, d, e⟩
            · exact absurd rfl q
            · refine Or.inr ⟨c, ?_, b, d, e⟩
              by_cases ck : c = k
              · subst ck
                exact absurd d c1
              · omega
      · obtain ⟨r, r0, r1, r2, r3⟩ := ih (k + 1) 1 (by omega) (by omega) (Or.inr rfl)
        rw [if_neg n10]
        exact ⟨r, r0, r1, r2.trans ⟨fun _ => Or.inl n10, fun _ => Or.inl n10⟩, fun q => absurd q cc, fun _ => ⟨fun q => absurd q n10, fun _ => r3⟩⟩
theorem si_si (S : St) (k i j x : Nat) (v w : Int32) : si (si S k i j x v) k i j x w = si S k i j x w := by
  refine st_ext (fun a b d y => ?_) (fun _ _ _ _ => rfl) (fun _ _ _ _ => rfl)
  rw [si_i, si_i, si_i]
  by_cases h : a = k ∧ b = i ∧ d = j ∧ y = x
  · rw [if_pos h, if_pos h]
  · rw [if_neg h, if_neg h, if_neg h]
set_option maxHeartbeats 4000000 in
theorem m_highest (h : Ivt sg B T U) {i : Nat} (hi : i < 4) (n : Nat) : ∀ (p hg : Nat), p ≤ B → B - p < n → hg < B → hg < p ∨ hg = 0 → Bst (vN U) (fun q => q < p ∧ Pq U i B q) hg → ∃ r, r < B ∧ f_M_restart_54 (nI i) n (si U 15 0 0 i (nI hg)) (nI p) = (if (1 : Int32) ≤ U.1 16 0 0 i then f_M_restart_189 (nI i) (si U 15 0 0 i (nI r)) (U.1 16 0 0 i) (nI i) else f_M_restart_189 (nI i) (si U 15 0 0 i (nI r)) 1 (nI i)) ∧ Bst (vN U) (Pq U i B) r ∧ (((1 : Int32) ≤ U.1 16 0 0 i → ok_M_restart_189 (nI i) (si U 15 0 0 i (nI r)) (U.1 16 0 0 i) (nI i)) → (¬ (1 : Int32) ≤ U.1 16 0 0 i → ok_M_restart_189 (nI i) (si U 15 0 0 i (nI r)) 1 (nI i)) → ok_M_restart_54 (nI i) n (si U 15 0 0 i (nI hg)) (nI p)) := by
  have hB2 := h.hB2
  have i4 : vp_in (nI i) 4 := vp_in_nI hi (by decide)
  have lim : ∀ q, Pq U i B q → q < B := fun q hq => by
    obtain ⟨a, c, c1, c2, c3, c4⟩ := hq
    obtain ⟨p', hp', ep'⟩ := h.par c (by omega) c2
    have := (nI_eq (by omega) a).mp (ep'.symm.trans c3)
    omega
  induction n with
  | zero => exact fun p hg _ h => absurd h (Nat.not_lt_zero _)
  | succ n ih =>
    intro p hg hp hn hgB hgp hst
    have eB : (si U 15 0 0 i (nI hg)).1 1 0 0 11 = nI B := h.hB
    have e15 : (si U 15 0 0 i (nI hg)).1 15 0 0 i = nI hg := si_rd _ _ _ _ _ _
    have e16 : (si U 15 0 0 i (nI hg)).1 16 0 0 i = U.1 16 0 0 i := rfl
    have e7 : ∀ x, (si U 15 0 0 i (nI hg)).1 7 0 0 x = U.1 7 0 0 x := fun x => rfl
    rw [f_M_restart_54, ok_M_restart_54, eB, nI_clamp (by omega : i < 2 ^ 31), e15, e16, e7, e7]
    by_cases c : p = B
    · subst c
      rw [if_pos (Int32.le_refl _)]
      exact ⟨hg, hgB, rfl, hst.ext (fun q => ⟨fun z => z.2, fun z => ⟨lim q z, z⟩⟩), fun o1 o2 => ⟨fun _ => ⟨i4, fun z => ⟨i4, o1 z⟩, o2⟩, fun q => absurd (Int32.le_refl _) q⟩⟩
    · have cc : ¬ nI B ≤ nI p := fun q => by
        have := (nI_leI (a := B) (b := p) (by omega) (by omega)).mp q
        omega
      have hpB : p < B := by omega
      have np := vN_e h hpB
      have nh := vN_e h hgB
      have p100 : vp_in (nI p) 100 := vp_in_nI (by omega) (by decide)
      have h100 : vp_in (nI hg) 100 := vp_in_nI (by omega) (by decide)
      obtain ⟨r, r0, r1, r2, r3⟩ := m_some (B := B) (p := p) hi (V := si U 15 0 0 i (nI hg)) hB2 eB 200 1 0 h.hB1 (by omega) (Or.inl rfl)
      have r1' : f_M_restart_67 (nI i) 200 (si U 15 0 0 i (nI hg)) (nI p) 0 1 = r := r1
      have r3' : ok_M_restart_67 (nI i) 200 (si U 15 0 0 i (nI hg)) (nI p) 0 1 := r3
      have iff' : r ≠ 0 ↔ Pq U i B p := by
        refine r2.trans ⟨fun q => ?_, fun q => ?_⟩
        · rcases q with q | ⟨c, a, b, d, e⟩
          · exact absurd rfl q
          · exact ⟨by omega, c, a, b, d, e⟩
        · obtain ⟨_, c, a, b, d, e⟩ := q
          exact Or.inr ⟨c, a, b, d, e⟩
      have n10 : ¬ (1 : Int32) = 0 := by decide
      rw [if_neg cc, lt, lt, r1', nI_clamp (by omega : p < 2 ^ 31), nI_clamp (by omega : hg < 2 ^ 31), np.1, nh.1, nI_s]
      repeat rw [lt]
      rw [si_si, si_si]
      rcases r0 with rfl | rfl
      · have no : ¬ Pq U i B p := fun z => absurd rfl (iff'.mpr z)
        obtain ⟨x, x1, x2, x3, x4⟩ := ih (p + 1) hg (by omega) (by omega) hgB (by omega) (hst.ext (fun q => ⟨fun z => ⟨by omega, z.2⟩, fun z => ⟨by
          rcases Nat.lt_or_ge q p with y | y
          · exact y
          · have : q = p := by omega
            subst this
            exact absurd z.2 no, z.2⟩⟩))
        rw [if_pos rfl]
        exact ⟨x, x1, x2, x3, fun o1 o2 => ⟨fun q => absurd q cc, fun _ => ⟨r3', fun _ => ⟨i4, i4, x4 o1 o2⟩, fun q => absurd rfl q⟩⟩⟩
      · have yes : Pq U i B p := iff'.mp n10
        have ex : ∀ q, ((fun q => q < p ∧ Pq U i B q) q ∨ q = p) ↔ (q < p + 1 ∧ Pq U i B q) := fun q => by
          constructor
          · rintro (⟨a, b⟩ | rfl)
            · exact ⟨by omega, b⟩
            · exact ⟨by omega, yes⟩
          · rintro ⟨a, b⟩
            rcases Nat.lt_or_ge q p with y | y
            · exact Or.inl ⟨y, b⟩
            · exact Or.inr (by omega)
        rw [if_neg n10]
        by_cases cv : vN U p ≤ vN U hg
        · have lv : nI (vN U p) ≤ nI (vN U hg) := (nI_leI (by omega) (by omega)).mpr cv
          obtain ⟨x, x1, x2, x3, x4⟩ := ih (p + 1) hg (by omega) (by omega) hgB (by omega) ((hst.skip (p := p) (by omega)).ext ex)
          rw [if_pos lv]
          exact ⟨x, x1, x2, x3, fun o1 o2 => ⟨fun q => absurd q cc, fun _ => ⟨r3', fun q => absurd q n10, fun _ => ⟨p100, i4, h100, fun _ => ⟨i4, i4, x4 o1 o2⟩, fun q => absurd lv q⟩⟩⟩⟩
        · have lv : ¬ nI (vN U p) ≤ nI (vN U hg) := fun q => cv ((nI_leI (by omega) (by omega)).mp q)
          obtain ⟨x, x1, x2, x3, x4⟩ := ih (p + 1) p (by omega) (by omega) hpB (by omega) ((hst.take (p := p) (by omega)).ext ex)
          rw [if_neg lv]
          exact ⟨x, x1, x2, x3, fun o1 o2 => ⟨fun q => absurd q cc, fun _ => ⟨r3', fun q => absurd q n10, fun _ => ⟨p100, i4, h100, fun q => absurd q lv, fun _ => ⟨i4, x4 o1 o2⟩⟩⟩⟩⟩
end
theorem b_restart {sd : Int32} {S U : St} (h : JB sd S U) (a1 : Int32) : ∃ k r S' r' U', f_QC_restart a1 S = (k, r, S') ∧ f_M_restart a1 U = (r', U') ∧ U'.1 1 0 0 1 = nI k ∧ (k = 0 → r = r') ∧ (k ≤ 2 ∧ (k ≠ 0 → S' = S)) ∧ JB sd S' U' ∧ ok_QC_restart a1 S ∧ ok_M_restart a1 U := by
  have e26 : ∀ t : Int32, ¬ t ≤ 0 → f_M_restart_26 a1 U t = (0, si U 1 0 0 1 t) ∧ ok_M_restart_26 a1 U t := fun t p => by
    unfold f_M_restart_26 ok_M_restart_26
    constructor
    · rw [lt, thr_le, if_neg p]
    · rw [lt, thr_le]
      exact ⟨fun q => absurd q p, fun _ => trivial⟩
  have e1 := e26 1 (by decide)
  have e2 := e26 2 (by decide)
  obtain ⟨sg, B, T, h1⟩ := h.go
  rcases nd_or a1 with n | ⟨i, hi, rfl⟩
  · refine ⟨1, 0, S, 0, si U 1 0 0 1 1, ?_, ?_, thr_le _, fun z => by omega, ⟨by decide, fun _ => rfl⟩, h.thr _, ?_, ?_⟩
    · unfold f_QC_restart
      rw [lt, (n S).1, if_pos rfl]
    · unfold f_M_restart
      rw [lt, (n U).2, if_pos rfl]
      exact e1.1
    · unfold ok_QC_restart
      rw [lt, (n S).1]
      exact ⟨fun _ => trivial, fun q => absurd rfl q⟩
    · unfold ok_M_restart
      rw [lt, (n U).2]
      exact ⟨fun _ => e1.2, fun q => absurd rfl q⟩
  · have i4 : vp_in (nI i) 4 := vp_in_nI hi (by decide)
    have eu : S.1 3 i 0 7 = U.1 11 0 0 i := h1.e (Mp.up hi)
    have hB2 := h1.v.hB2
    by_cases cu : U.1 11 0 0 i = 0
    · obtain ⟨U0, hU0⟩ : ∃ z, z = si U 1 0 0 1 0 := ⟨_, rfl⟩
      rw [← hU0] at h1
      have st0 : ∀ (V : St), (∀ x, V.1 7 0 0 x = U0.1 7 0 0 x) → ∀ X : Nat → Prop, (∀ p, ¬ X p) → Bst (vN V) X 0 := fun V e X no => ⟨Or.inl rfl, fun p hp => by
        rcases hp with rfl | z
        · exact Or.inr ⟨rfl, Nat.le_refl _⟩
        · exact absurd z (no p)⟩
      obtain ⟨r, hr, q1, q2, q3⟩ := q_highest h1 hi 200 1 0 (Nat.le_refl _) h1.v.hB1 (by omega) h1.v.hB1 (st0 U0 (fun _ => rfl) _ (fun p z => by
        obtain ⟨_, c, c1, c2, _⟩ := z
        omega))
      have ivu : Ivt sg B T (si U0 11 0 0 i 1) := h1.v.w11 i 1
      obtain ⟨r', hr', p1, p2, p3⟩ := m_highest ivu hi 200 0 0 (Nat.zero_le _) (by omega) h1.v.hB1 (Or.inr rfl) (st0 (si U0 11 0 0 i 1) (fun _ => rfl) _ (fun p z => by omega))
      have er : r = r' := by
        have p2' : Bst (vN U0) (Pq U0 i B) r' := p2
        exact q2.uniq p2'
      subst er
      obtain ⟨w, hw, ew, rw'⟩ := h1.v.voted i hi
      have ewS : S.1 4 i 0 6 = nI w := (h1.e (Mp.voted hi)).trans ew
      -- the new view
      obtain ⟨x, hx1, hx2, rx, ex1, ex2⟩ : ∃ x, 1 ≤ x ∧ x < 128 ∧ Rc sg (U0.1 18 0 0) x ∧ (if nI w < (1 : Int32) then (1 : Int32) else nI w) = nI x ∧ (((1 : Int32) ≤ nI w ∧ x = w) ∨ (¬ (1 : Int32) ≤ nI w ∧ x = 1)) := by
        by_cases cw : w < 1
        · exact ⟨1, Nat.le_refl _, by decide, fun z a b => by omega, if_pos (show nI w < (1 : Int32) from (nI_ltI (a := w) (b := 1) (by omega) (by omega)).mpr cw), Or.inr ⟨fun q => by
            have := (nI_leI (a := 1) (b := w) (by omega) (by omega)).mp q
            omega, rfl⟩⟩
        · exact ⟨w, by omega, hw, rw', if_neg (show ¬ nI w < (1 : Int32) from fun q => cw ((nI_ltI (a := w) (b := 1) (by omega) (by omega)).mp q)), Or.inl ⟨(nI_leI (a := 1) (b := w) (by omega) (by omega)).mpr (by omega), rfl⟩⟩
      have j1 := h1.w (Mp.up hi) 1 (h1.v.w11 i 1)
      have j2 := j1.w (Mp.high hi) (nI r) (j1.v.w15 hr)
      have j3 := j2.w (Mp.span hi) (nI 6) (j2.v.w14 (s := 6) (by decide))
      have j4 := j3.w (Mp.view hi) (nI x) (j3.v.w12 hx1 hx2 rx)
      have j5 := j4.w (Mp.timer hi) (nI 6) (j4.v.w13 i _)
      have eQ : f_QC_restart (nI i) S = (0, 1, si (si (si (si (si S 3 i 0 7 1) 3 i 0 11 (nI r)) 3 i 0 10 (nI 6)) 3 i 0 8 (nI x)) 3 i 0 9 (nI 6)) := by
        unfold f_QC_restart f_QC_highestParent
        rw [lt, q_isNode hi, if_neg (by decide), nI_clamp (by omega), eu, if_pos cu, lt, show f_QC_highestParent_4 i 200 S 0 1 = nI r from q1, lt]
        unfold f_Node_rise
        repeat rw [lt]
        have e6 : (si (si (si S 3 i 0 7 1) 3 i 0 11 (nI r)) 3 i 0 10 6).1 4 i 0 6 = nI w := by
          rw [si_i, if_neg (fun q => by omega), si_i, if_neg (fun q => by omega), si_i, if_neg (fun q => by omega), ewS]
        rw [e6, ex1]
        unfold f_Node_enter
        repeat rw [lt]
        have e10 : (si (si (si (si S 3 i 0 7 1) 3 i 0 11 (nI r)) 3 i 0 10 6) 3 i 0 8 (nI x)).1 3 i 0 10 = 6 := by
          rw [si_i, if_neg (fun q => by omega), si_rd]
        rw [e10]
        rfl
      have okQ : ok_QC_restart (nI i) S := by
        unfold ok_QC_restart ok_QC_highestParent
        rw [lt, q_isNode hi, nI_clamp (by omega), eu]
        exact ⟨fun q => absurd q (by decide), fun _ => ⟨i4, fun _ => ⟨i4, i4, q3, trivial⟩, fun q => absurd cu q⟩⟩
      have e189 : ∀ t : Int32, f_M_restart_189 (nI i) (si (si U0 11 0 0 i 1) 15 0 0 i (nI r)) t (nI i) = (1, si (si (si (si (si U0 11 0 0 i 1) 15 0 0 i (nI r)) 12 0 0 i t) 13 0 0 i 6) 14 0 0 i 6) ∧ ok_M_restart_189 (nI i) (si (si U0 11 0 0 i 1) 15 0 0 i (nI r)) t (nI i) := fun t => by
        unfold f_M_restart_189 ok_M_restart_189
        constructor
        · rw [lt, lt, lt, nI_clamp (by omega)]
        · rw [lt, lt]
          exact ⟨i4, i4, i4, trivial⟩
      have e16' : (si U0 11 0 0 i 1).1 16 0 0 i = nI w := ew
      have eM : f_M_restart (nI i) U = (1, si (si (si (si (si U0 11 0 0 i 1) 15 0 0 i (nI r)) 12 0 0 i (nI x)) 13 0 0 i 6) 14 0 0 i 6) := by
        unfold f_M_restart
        rw [lt, m_isNode hi, if_neg (by decide), nI_clamp (by omega), if_pos cu]
        unfold f_M_restart_26
        rw [lt, thr_le, if_pos (by decide), lt, lt, nI_clamp (by omega), ← hU0]
        refine Eq.trans (show f_M_restart_54 (nI i) 200 (si (si U0 11 0 0 i 1) 15 0 0 i 0) 0 = _ from p1) ?_
        rw [e16']
        rcases ex2 with ⟨a, b⟩ | ⟨a, b⟩
        · rw [if_pos a, b]
          exact (e189 _).1
        · rw [if_neg a, b]
          exact (e189 _).1
      have okM : ok_M_restart (nI i) U := by
        unfold ok_M_restart
        rw [lt, m_isNode hi, nI_clamp (by omega)]
        refine ⟨fun q => absurd q (by decide), fun _ => ⟨i4, fun _ => ?_, fun q => absurd cu q⟩⟩
        unfold ok_M_restart_26
        rw [lt, thr_le]
        refine ⟨fun _ => ⟨i4, ?_⟩, fun q => absurd (by decide) q⟩
        rw [lt, lt, nI_clamp (by omega), ← hU0]
        exact ⟨i4, p3 (fun _ => (e189 _).2) (fun _ => (e189 _).2)⟩
      have eU : si (si (si (si (si U0 11 0 0 i 1) 15 0 0 i (nI r)) 14 0 0 i (nI 6)) 12 0 0 i (nI x)) 13 0 0 i (nI 6) = si (si (si (si (si U0 11 0 0 i 1) 15 0 0 i (nI r)) 12 0 0 i (nI x)) 13 0 0 i 6) 14 0 0 i 6 := by
        rw [si_comm _ (k := 14) (k' := 12) (by decide), si_comm _ (k := 14) (k' := 13) (by decide)]
        rfl
      rw [eU] at j5
      rw [eQ, eM]
      exact ⟨0, 1, _, 1, _, rfl, rfl, j5.t, fun _ => rfl, ⟨by decide, fun z => absurd rfl z⟩, j5.b, okQ, okM⟩
    · refine ⟨2, 0, S, 0, si U 1 0 0 1 2, ?_, ?_, thr_le _, fun z => by omega, ⟨by decide, fun _ => rfl⟩, h.thr _, ?_, ?_⟩
      · unfold f_QC_restart
        rw [lt, q_isNode hi, if_neg (by decide), nI_clamp (by omega), eu, if_neg cu]
      · unfold f_M_restart
        rw [lt, m_isNode hi, if_neg (by decide), nI_clamp (by omega), if_neg cu]
        exact e2.1
      · unfold ok_QC_restart
        rw [lt, q_isNode hi, nI_clamp (by omega), eu]
        exact ⟨fun q => absurd q (by decide), fun _ => ⟨i4, fun q => absurd q cu, fun _ => trivial⟩⟩
      · unfold ok_M_restart
        rw [lt, m_isNode hi, nI_clamp (by omega)]
        exact ⟨fun q => absurd q (by decide), fun _ => ⟨i4, fun q => absurd q cu, fun _ => e2.2⟩⟩
