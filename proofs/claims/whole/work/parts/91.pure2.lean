/-! Inboxes: what adding and sending, dropping and landing do, place by place. -/
def fld (a b c d e : Int32) (x : Nat) : Int32 := if x = 1 then a else if x = 2 then b else if x = 3 then c else if x = 4 then d else e
theorem q_write (i j : Nat) (a b c d : Int32) (S : St) : (∀ k p q x, (f_Message_write i j a b c d S).1 k p q x = if k = 14 ∧ p = i ∧ q = j ∧ 1 ≤ x ∧ x ≤ 5 then fld a b c d (-1) x else S.1 k p q x) ∧ (f_Message_write i j a b c d S).2 = S.2 := by
  unfold f_Message_write
  refine ⟨fun k p q x => ?_, rfl⟩
  rw [lt, lt, lt, lt, lt, si_i, si_i, si_i, si_i, si_i]
  by_cases h : k = 14 ∧ p = i ∧ q = j
  · obtain ⟨rfl, rfl, rfl⟩ := h
    by_cases hx : 1 ≤ x ∧ x ≤ 5
    · rw [if_pos (⟨rfl, rfl, rfl, hx⟩ : _ ∧ _ ∧ _ ∧ _ ∧ _)]
      rcases (by omega : x = 1 ∨ x = 2 ∨ x = 3 ∨ x = 4 ∨ x = 5) with rfl | rfl | rfl | rfl | rfl <;> simp [fld]
    · rw [if_neg (fun z => by omega), if_neg (fun z => by omega), if_neg (fun z => by omega), if_neg (fun z => by omega), if_neg (fun z => by omega), if_neg (fun z => hx z.2.2.2)]
  · rw [if_neg (fun z => h ⟨z.1, z.2.1, z.2.2.1⟩), if_neg (fun z => h ⟨z.1, z.2.1, z.2.2.1⟩), if_neg (fun z => h ⟨z.1, z.2.1, z.2.2.1⟩), if_neg (fun z => h ⟨z.1, z.2.1, z.2.2.1⟩), if_neg (fun z => h ⟨z.1, z.2.1, z.2.2.1⟩), if_neg (fun z => h ⟨z.1, z.2.1, z.2.2.1⟩)]
theorem wl_l (S : St) (k i j : Nat) (f : Nat → Int64) (a b d y : Nat) : (wl S k i j f).2.1 a b d y = if a = k ∧ b = i ∧ d = j then f y else S.2.1 a b d y := by
  unfold wl
  show (if a = k ∧ b = i ∧ d = j then f else S.2.1 a b d) y = _
  split <;> rfl
theorem q_copy (i j i1 j1 : Nat) (S : St) (hne : ¬ (i1 = i ∧ j1 = j)) : (∀ k p q x, (f_Message_copyFrom i j i1 j1 S).1 k p q x = if k = 14 ∧ p = i ∧ q = j ∧ 1 ≤ x ∧ x ≤ 5 then S.1 14 i1 j1 x else S.1 k p q x) ∧ (∀ k p q x, (f_Message_copyFrom i j i1 j1 S).2.1 k p q x = if k = 15 ∧ p = i ∧ q = j ∧ x < 11 then S.2.1 15 i1 j1 x else S.2.1 k p q x) ∧ (f_Message_copyFrom i j i1 j1 S).2.2 = S.2.2 := by
  have w := q_write i j (S.1 14 i1 j1 1) (S.1 14 i1 j1 2) (S.1 14 i1 j1 3) (S.1 14 i1 j1 4) S
  unfold f_Message_copyFrom
  rw [lt, lt, lt]
  generalize f_Message_write i j (S.1 14 i1 j1 1) (S.1 14 i1 j1 2) (S.1 14 i1 j1 3) (S.1 14 i1 j1 4) S = W at w
  refine ⟨fun k p q x => ?_, fun k p q x => ?_, ?_⟩
  · show (si W 14 i j 5 (W.1 14 i1 j1 5)).1 k p q x = _
    rw [si_i, w.1 14 i1 j1 5, if_neg (c := 14 = 14 ∧ _) (fun z => hne ⟨z.2.1, z.2.2.1⟩), w.1 k p q x]
    by_cases h : k = 14 ∧ p = i ∧ q = j ∧ 1 ≤ x ∧ x ≤ 5
    · rw [if_pos h, if_pos h]
      by_cases h5 : x = 5
      · rw [if_pos ⟨h.1, h.2.1, h.2.2.1, h5⟩, h5]
      · rw [if_neg (fun z => h5 z.2.2.2)]
        rcases (by omega : x = 1 ∨ x = 2 ∨ x = 3 ∨ x = 4) with rfl | rfl | rfl | rfl <;> simp [fld]
    · rw [if_neg h, if_neg h, if_neg (fun z => h ⟨z.1, z.2.1, z.2.2.1, by omega⟩)]
  · rw [wl_l]
    show (if k = 15 ∧ p = i ∧ q = j then va_cpy (W.2.1 15 i1 j1) (W.2.1 15 i j) 0 0 11 x else W.2.1 k p q x) = _
    rw [w.2]
    by_cases h : k = 15 ∧ p = i ∧ q = j
    · rw [if_pos h]
      obtain ⟨rfl, rfl, rfl⟩ := h
      unfold va_cpy
      by_cases hx : x < 11
      · rw [if_pos ⟨by omega, by omega⟩, if_pos ⟨rfl, rfl, rfl, hx⟩, Nat.zero_add, Nat.sub_zero]
      · rw [if_neg (fun z => by omega), if_neg (fun z => hx z.2.2.2)]
    · rw [if_neg h, if_neg (fun z => h ⟨z.1, z.2.1, z.2.2.1⟩)]
  · show W.2.2 = _
    rw [w.2]
theorem q_add (i i1 j1 F : Nat) (S : St) (hF : F < 16) (e : S.1 12 i 0 1 = nI F) (hr : S.2.2 13 i 0 F < 16) (hne : ¬ (i1 = i ∧ j1 = S.2.2 13 i 0 F)) : (∀ k p q x, (f_Inbox_add i i1 j1 S).1 k p q x = if k = 14 ∧ p = i ∧ q = S.2.2 13 i 0 F ∧ 1 ≤ x ∧ x ≤ 5 then S.1 14 i1 j1 x else if k = 12 ∧ p = i ∧ q = 0 ∧ x = 1 then nI (F + 1) else S.1 k p q x) ∧ (∀ k p q x, (f_Inbox_add i i1 j1 S).2.1 k p q x = if k = 15 ∧ p = i ∧ q = S.2.2 13 i 0 F ∧ x < 11 then S.2.1 15 i1 j1 x else S.2.1 k p q x) ∧ (f_Inbox_add i i1 j1 S).2.2 = S.2.2 ∧ ok_Inbox_add i i1 j1 S := by
  have w := q_copy i (S.2.2 13 i 0 F) i1 j1 S hne
  have c : ¬ (16 : Int32) ≤ nI F := fun q => by
    have := (nI_leI (a := 16) (b := F) (by omega) (by omega)).mp q
    omega
  unfold f_Inbox_add ok_Inbox_add
  rw [e, if_neg c, lt, lt, nI_clamp (by omega)]
  generalize f_Message_copyFrom i (S.2.2 13 i 0 F) i1 j1 S = W at w
  refine ⟨fun k p q x => ?_, w.2.1, w.2.2, fun q => absurd q c, fun _ => ⟨vp_in_nI hF (by decide), hr, trivial⟩⟩
  rw [si_i, w.1 12 i 0 1, if_neg (c := (12 : Nat) = 14 ∧ _) (fun z => by omega), e, nI_s, w.1 k p q x]
  by_cases h : k = 14 ∧ p = i ∧ q = S.2.2 13 i 0 F ∧ 1 ≤ x ∧ x ≤ 5
  · rw [if_pos h, if_pos h, if_neg (fun z => by omega)]
  · rw [if_neg h, if_neg h]
theorem q_add16 (i i1 j1 : Nat) (S : St) (e : S.1 12 i 0 1 = nI 16) : f_Inbox_add i i1 j1 S = S ∧ ok_Inbox_add i i1 j1 S := by
  unfold f_Inbox_add ok_Inbox_add
  rw [e, if_pos (by decide)]
  exact ⟨rfl, fun _ => trivial, fun q => absurd (by decide) q⟩
theorem ix11 (i n : Nat) : (11 : Int32) * nI i + nI n = nI (11 * i + n) := by
  rw [show (11 : Int32) = nI 11 from rfl, nI_m, nI_add]
theorem ix16 (i n : Nat) : (16 : Int32) * nI i + nI n = nI (16 * i + n) := by
  rw [show (16 : Int32) = nI 16 from rfl, nI_m, nI_add]
theorem m_send82 (a1 a3 a4 a5 : Int32) (i at' : Nat) (hi : i < 4) (ha : at' < 64) (n : Nat) : ∀ (l : Nat) (V : St), l ≤ 11 → 11 - l < n → ∃ V', f_M_send_82 a1 (nI i) a3 a4 a5 n V (nI at') (nI l) = si V' 28 0 0 i (V.1 28 0 0 i + 1) ∧ V'.1 = V.1 ∧ V'.2.2 = V.2.2 ∧ (∀ k p q x, V'.2.1 k p q x = if k = 34 ∧ p = 0 ∧ q = 0 ∧ 11 * at' + l ≤ x ∧ x < 11 * at' + 11 then V.2.1 35 0 0 (x - 11 * at') else V.2.1 k p q x) ∧ ok_M_send_82 a1 (nI i) a3 a4 a5 n V (nI at') (nI l) := by
  induction n with
  | zero => exact fun r V _ h => absurd h (Nat.not_lt_zero _)
  | succ n ih =>
    intro l V hl hn
    rw [f_M_send_82, ok_M_send_82]
    have i4 : vp_in (nI i) 4 := vp_in_nI hi (by decide)
    by_cases h : l = 11
    · subst h
      rw [if_pos (by decide), lt, nI_clamp (by omega)]
      exact ⟨V, rfl, rfl, rfl, fun k p q x => by rw [if_neg (fun z => by omega)], fun _ => ⟨i4, i4, trivial⟩, fun q => absurd (by decide) q⟩
    · have c : ¬ (11 : Int32) ≤ nI l := fun q => by
        have := (nI_leI (a := 11) (b := l) (by omega) (by omega)).mp q
        omega
      rw [if_neg c, lt, lt, ix11, nI_clamp (by omega), nI_clamp (by omega), nI_s]
      obtain ⟨V', e, a, b, d, o⟩ := ih (l + 1) (sl V 34 0 0 (11 * at' + l) (V.2.1 35 0 0 l)) (by omega) (by omega)
      refine ⟨V', e, a, b, fun k p q x => ?_, fun q => absurd q c, fun _ => ⟨vp_in_nI (by omega) (by decide), vp_in_nI (by omega) (by decide), o⟩⟩
      rw [d, sl_l, sl_l, if_neg (c := (35 : Nat) = 34 ∧ _) (fun z => by omega)]
      by_cases h1 : k = 34 ∧ p = 0 ∧ q = 0
      · obtain ⟨rfl, rfl, rfl⟩ := h1
        by_cases h2 : x = 11 * at' + l
        · rw [if_neg (fun z => by omega), if_pos ⟨rfl, rfl, rfl, h2⟩, if_pos ⟨rfl, rfl, rfl, by omega, by omega⟩, h2, Nat.add_sub_cancel_left]
        · rw [if_neg (c := (34 : Nat) = 34 ∧ _ ∧ _ ∧ x = _) (fun z => h2 z.2.2.2)]
          by_cases h3 : 11 * at' + (l + 1) ≤ x ∧ x < 11 * at' + 11
          · rw [if_pos ⟨rfl, rfl, rfl, h3⟩, if_pos ⟨rfl, rfl, rfl, by omega, by omega⟩]
          · rw [if_neg (fun z => h3 z.2.2.2), if_neg (fun z => h3 ⟨by omega, by omega⟩)]
      · rw [if_neg (fun z => h1 ⟨z.1, z.2.1, z.2.2.1⟩), if_neg (fun z => h1 ⟨z.1, z.2.1, z.2.2.1⟩), if_neg (fun z => h1 ⟨z.1, z.2.1, z.2.2.1⟩)]
theorem m_send (a1 a3 a4 a5 : Int32) (i F : Nat) (U : St) (hi : i < 4) (hF : F < 16) (e : U.1 28 0 0 i = nI F) : (∀ k p q x, (f_M_send a1 (nI i) a3 a4 a5 U).1 k p q x = if p = 0 ∧ q = 0 ∧ 29 ≤ k ∧ k ≤ 33 ∧ x = 16 * i + F then fld a3 a1 a4 a5 (if a3 ≤ 3 then U.1 1 0 0 40 else -1) (k - 28) else if k = 28 ∧ p = 0 ∧ q = 0 ∧ x = i then nI (F + 1) else U.1 k p q x) ∧ (∀ k p q x, (f_M_send a1 (nI i) a3 a4 a5 U).2.1 k p q x = if k = 34 ∧ p = 0 ∧ q = 0 ∧ 11 * (16 * i + F) ≤ x ∧ x < 11 * (16 * i + F) + 11 then U.2.1 35 0 0 (x - 11 * (16 * i + F)) else U.2.1 k p q x) ∧ (f_M_send a1 (nI i) a3 a4 a5 U).2.2 = U.2.2 ∧ ok_M_send a1 (nI i) a3 a4 a5 U := by
  have i4 : vp_in (nI i) 4 := vp_in_nI hi (by decide)
  have c : ¬ nI F = (16 : Int32) := fun q => by
    have := (nI_eq (a := F) (b := 16) (by omega) (by omega)).mp q
    omega
  have ha : vp_in (nI (16 * i + F)) 64 := vp_in_nI (by omega) (by decide)
  obtain ⟨W, hW⟩ : ∃ W, W = si (si (si (si (si U 29 0 0 (16 * i + F) a3) 30 0 0 (16 * i + F) a1) 31 0 0 (16 * i + F) a4) 32 0 0 (16 * i + F) a5) 33 0 0 (16 * i + F) (if a3 ≤ 3 then U.1 1 0 0 40 else -1) := ⟨_, rfl⟩
  obtain ⟨V', e', a, b, d, o⟩ := m_send82 a1 a3 a4 a5 i (16 * i + F) hi (by omega) 200 0 W (by omega) (by omega)
  have eW28 : W.1 28 0 0 i = nI F := by rw [hW]; exact e
  have ef : f_M_send a1 (nI i) a3 a4 a5 U = f_M_send_82 a1 (nI i) a3 a4 a5 200 W (nI (16 * i + F)) (nI 0) := by
    unfold f_M_send
    rw [nI_clamp (by omega), e, if_neg c, lt, lt, lt, lt, ix16, nI_clamp (by omega)]
    by_cases h3 : a3 ≤ 3
    · rw [if_pos h3] at hW ⊢
      rw [f_M_send_78, lt, nI_clamp (by omega), hW]
      rfl
    · rw [if_neg h3] at hW ⊢
      rw [f_M_send_78, lt, nI_clamp (by omega), hW]
      rfl
  have eo : ok_M_send a1 (nI i) a3 a4 a5 U := by
    unfold ok_M_send
    rw [nI_clamp (by omega), e, lt, lt, lt, lt, ix16, nI_clamp (by omega)]
    refine ⟨i4, fun q => absurd q c, fun _ => ⟨i4, ha, ha, ha, ha, fun h3 => ?_, fun h3 => ?_⟩⟩
    · rw [if_pos h3] at hW
      rw [ok_M_send_78, lt, nI_clamp (by omega)]
      rw [hW] at o
      exact ⟨ha, o⟩
    · rw [if_neg h3] at hW
      rw [ok_M_send_78, lt, nI_clamp (by omega)]
      rw [hW] at o
      exact ⟨ha, o⟩
  rw [ef, e']
  refine ⟨fun k p q x => ?_, fun k p q x => ?_, ?_, eo⟩
  · rw [si_i, a, eW28, nI_s, hW, si_i, si_i, si_i, si_i, si_i]
    by_cases h : p = 0 ∧ q = 0 ∧ 29 ≤ k ∧ k ≤ 33 ∧ x = 16 * i + F
    · rw [if_pos h]
      obtain ⟨rfl, rfl, h1, h2, rfl⟩ := h
      rcases (by omega : k = 29 ∨ k = 30 ∨ k = 31 ∨ k = 32 ∨ k = 33) with rfl | rfl | rfl | rfl | rfl <;> simp [fld]
    · rw [if_neg h]
      by_cases h28 : k = 28 ∧ p = 0 ∧ q = 0 ∧ x = i
      · rw [if_pos h28, if_pos h28]
      · rw [if_neg h28, if_neg h28, if_neg (fun z => h ⟨z.2.1, z.2.2.1, by omega, by omega, z.2.2.2⟩), if_neg (fun z => h ⟨z.2.1, z.2.2.1, by omega, by omega, z.2.2.2⟩), if_neg (fun z => h ⟨z.2.1, z.2.2.1, by omega, by omega, z.2.2.2⟩), if_neg (fun z => h ⟨z.2.1, z.2.2.1, by omega, by omega, z.2.2.2⟩), if_neg (fun z => h ⟨z.2.1, z.2.2.1, by omega, by omega, z.2.2.2⟩)]
  · show V'.2.1 k p q x = _
    rw [d]
    show (if _ then W.2.1 35 0 0 _ else W.2.1 k p q x) = _
    rw [hW]
    rfl
  · show V'.2.2 = _
    rw [b, hW]
    rfl
theorem m_send16 (a1 a3 a4 a5 : Int32) (i : Nat) (U : St) (hi : i < 4) (e : U.1 28 0 0 i = nI 16) : f_M_send a1 (nI i) a3 a4 a5 U = U ∧ ok_M_send a1 (nI i) a3 a4 a5 U := by
  unfold f_M_send ok_M_send
  rw [nI_clamp (by omega), e, if_pos (by decide)]
  exact ⟨rfl, vp_in_nI hi (by decide), fun _ => trivial, fun q => absurd (by decide) q⟩
/-! Both sides at once: sending. -/
def J (sd : Int32) (sg : Nat → Nat) (B T : Nat) (ak : Int32) (S U : St) : Prop := (Rel sd S U) ∧ (Ivt sg B T U) ∧ (S.1 14 4 1 1 = ak) ∧ (U.1 1 0 0 1 = 0)
theorem J.mk {sd : Int32} {sg : Nat → Nat} {B T : Nat} {ak : Int32} {S U : St} (r : Rel sd S U) (v : Ivt sg B T U) (a : S.1 14 4 1 1 = ak) (t : U.1 1 0 0 1 = 0) : J sd sg B T ak S U := ⟨r, v, a, t⟩
theorem J.r {sd : Int32} {sg : Nat → Nat} {B T : Nat} {ak : Int32} {S U : St} (h : J sd sg B T ak S U) : Rel sd S U := h.1
theorem J.v {sd : Int32} {sg : Nat → Nat} {B T : Nat} {ak : Int32} {S U : St} (h : J sd sg B T ak S U) : Ivt sg B T U := h.2.1
theorem J.a {sd : Int32} {sg : Nat → Nat} {B T : Nat} {ak : Int32} {S U : St} (h : J sd sg B T ak S U) : S.1 14 4 1 1 = ak := h.2.2.1
theorem J.t {sd : Int32} {sg : Nat → Nat} {B T : Nat} {ak : Int32} {S U : St} (h : J sd sg B T ak S U) : U.1 1 0 0 1 = 0 := h.2.2.2
/-- the draft answers to the signature at hand -/
abbrev Dr (S U : St) (k s b v : Int32) : Prop := (S.1 14 4 0 1 = k) ∧ (S.1 14 4 0 2 = s) ∧ (S.1 14 4 0 3 = b) ∧ (S.1 14 4 0 4 = v) ∧ (S.1 14 4 0 5 = if k ≤ 3 then U.1 1 0 0 40 else -1) ∧ (k ≤ 3 → ∀ l, l < 11 → S.2.1 15 4 0 l = U.2.1 35 0 0 l)
theorem Dr.mk {S U : St} {k s b v : Int32} (d1 : S.1 14 4 0 1 = k) (d2 : S.1 14 4 0 2 = s) (d3 : S.1 14 4 0 3 = b) (d4 : S.1 14 4 0 4 = v) (d5 : S.1 14 4 0 5 = if k ≤ 3 then U.1 1 0 0 40 else -1) (ds : k ≤ 3 → ∀ l, l < 11 → S.2.1 15 4 0 l = U.2.1 35 0 0 l) : Dr S U k s b v := ⟨d1, d2, d3, d4, d5, ds⟩
theorem Dr.d1 {S U : St} {k s b v : Int32} (h : Dr S U k s b v) : S.1 14 4 0 1 = k := h.1
theorem Dr.d2 {S U : St} {k s b v : Int32} (h : Dr S U k s b v) : S.1 14 4 0 2 = s := h.2.1
theorem Dr.d3 {S U : St} {k s b v : Int32} (h : Dr S U k s b v) : S.1 14 4 0 3 = b := h.2.2.1
theorem Dr.d4 {S U : St} {k s b v : Int32} (h : Dr S U k s b v) : S.1 14 4 0 4 = v := h.2.2.2.1
theorem Dr.d5 {S U : St} {k s b v : Int32} (h : Dr S U k s b v) : S.1 14 4 0 5 = if k ≤ 3 then U.1 1 0 0 40 else -1 := h.2.2.2.2.1
theorem Dr.ds {S U : St} {k s b v : Int32} (h : Dr S U k s b v) : k ≤ 3 → ∀ l, l < 11 → S.2.1 15 4 0 l = U.2.1 35 0 0 l := h.2.2.2.2.2
theorem Dr.f {S U : St} {k s b v : Int32} (h : Dr S U k s b v) (f : Nat) (h1 : 1 ≤ f) (h5 : f ≤ 5) : S.1 14 4 0 f = fld k s b v (if k ≤ 3 then U.1 1 0 0 40 else -1) f := by
  rcases (by omega : f = 1 ∨ f = 2 ∨ f = 3 ∨ f = 4 ∨ f = 5) with rfl | rfl | rfl | rfl | rfl <;> simp [fld, h.d1, h.d2, h.d3, h.d4, h.d5]
theorem r_send {sd : Int32} {S U : St} {k s b v : Int32} {i F : Nat} (h : Rel sd S U) (hi : i < 4) (hF : F ≤ 16) (e : U.1 28 0 0 i = nI F) (d : Dr S U k s b v) : Rel sd (f_Inbox_add i 4 0 S) (f_M_send s (nI i) k b v U) ∧ Dr (f_Inbox_add i 4 0 S) (f_M_send s (nI i) k b v U) k s b v ∧ (f_Inbox_add i 4 0 S).1 14 4 = S.1 14 4 ∧ ok_Inbox_add i 4 0 S ∧ ok_M_send s (nI i) k b v U := by
  have eS : S.1 12 i 0 1 = nI F := (h.m (Mp.flying hi)).trans e
  by_cases h16 : F = 16
  · subst h16
    have a := q_add16 i 4 0 S eS
    have m := m_send16 s k b v i U hi e
    rw [a.1, m.1]
    exact ⟨h, d, rfl, a.2, m.2⟩
  · have hF' : F < 16 := by omega
    have hr := h.row i hi F hF'
    have a := q_add i 4 0 F S hF' eS hr (fun q => by omega)
    have m := m_send s k b v i F U hi hF' e
    generalize hm : S.2.2 13 i 0 F = R at a hr
    generalize f_Inbox_add i 4 0 S = S' at a ⊢
    generalize f_M_send s (nI i) k b v U = U' at m ⊢
    have eF : (U.1 28 0 0 i).toNatClampNeg = F := by rw [e, nI_clamp (by omega)]
    have eU : ∀ k', k' < 28 → ∀ x, U'.1 k' 0 0 x = U.1 k' 0 0 x := fun k' hk x => by
      rw [m.1, if_neg (fun z => by omega), if_neg (fun z => by omega)]
    have e28 : ∀ x, x ≠ i → U'.1 28 0 0 x = U.1 28 0 0 x := fun x hx => by
      rw [m.1, if_neg (fun z => by omega), if_neg (fun z => hx z.2.2.2)]
    have e28i : U'.1 28 0 0 i = nI (F + 1) := by
      rw [m.1, if_neg (fun z => by omega), if_pos ⟨rfl, rfl, rfl, rfl⟩]
    have eU' : ∀ f, 1 ≤ f → f ≤ 5 → ∀ x, x ≠ 16 * i + F → U'.1 (28 + f) 0 0 x = U.1 (28 + f) 0 0 x := fun f h1 h5 x hx => by
      rw [m.1, if_neg (fun z => hx z.2.2.2.2), if_neg (fun z => by omega)]
    have eS4 : S'.1 14 4 = S.1 14 4 := funext fun q => funext fun x => by
      rw [a.1, if_neg (fun z => by omega), if_neg (fun z => by omega)]
    have eS' : ∀ k' p q x, k' ≠ 12 → k' ≠ 14 → S'.1 k' p q x = S.1 k' p q x := fun k' p q x h1 h2 => by
      rw [a.1, if_neg (fun z => h2 z.1), if_neg (fun z => h1 z.1)]
    refine ⟨(Rel.mk (m := ?_) (id := ?_) (se := ?_) (ow := ?_) (us := ?_) (tr := ?_) (row := ?_) (inj := ?_) (msg := ?_) (sg := ?_) (bc := ?_)), (Dr.mk (d1 := ?_) (d2 := ?_) (d3 := ?_) (d4 := ?_) (d5 := ?_) (ds := ?_)), eS4, a.2.2.2, m.2.2.2⟩
    · intro k1 p q x k' y hm'
      have nt := hm'.nt
      have iff' := (Mp.flying hi).iff hm'
      rw [a.1, if_neg (fun z => nt.2.1 z.1)]
      by_cases c : k1 = 12 ∧ p = i ∧ q = 0 ∧ x = 1
      · have c' := iff'.mp c
        rw [if_pos c, c'.1, c'.2, e28i]
      · rw [if_neg c, m.1, if_neg (fun z => by omega), if_neg (fun z => c (iff'.mpr ⟨z.1, z.2.2.2⟩))]
        exact h.m hm'
    · intro i' hi'
      rw [eS' _ _ _ _ (by decide) (by decide)]
      exact h.id i' hi'
    · intro i' hi'
      rw [eS' _ _ _ _ (by decide) (by decide)]
      exact h.se i' hi'
    · intro i' hi'
      rw [eS' _ _ _ _ (by decide) (by decide)]
      exact h.ow i' hi'
    · rw [m.2.1, if_neg (fun z => by omega)]
      exact h.us
    · intro i' hi' x hx
      rw [a.2.1, if_neg (fun z => by omega), m.2.1, if_neg (fun z => by omega)]
      exact h.tr i' hi' x hx
    · rw [a.2.2.1]
      exact h.row
    · rw [a.2.2.1]
      exact h.inj
    · intro i' hi' k1 hk1 hf f h1 h5
      rw [a.2.2.1]
      by_cases ci : i' = i
      · subst ci
        by_cases ck : k1 = F
        · subst ck
          rw [hm, a.1, if_pos ⟨rfl, rfl, rfl, h1, h5⟩, m.1, if_pos ⟨rfl, rfl, by omega, by omega, rfl⟩, d.f f h1 h5, Nat.add_sub_cancel_left]
        · rw [e28i, nI_clamp (by omega)] at hf
          have hk2 : k1 < F := by omega
          have hne : S.2.2 13 i' 0 k1 ≠ R := fun q => ck (h.inj i' hi' k1 hk1 F hF' (q.trans hm.symm))
          rw [a.1, if_neg (fun z => hne z.2.2.1), if_neg (fun z => by omega), eU' f h1 h5 _ (by omega)]
          exact h.msg i' hi' k1 hk1 (by rw [eF]; exact hk2) f h1 h5
      · rw [e28 i' ci] at hf
        rw [a.1, if_neg (fun z => ci z.2.1), if_neg (fun z => by omega), eU' f h1 h5 _ (by omega)]
        exact h.msg i' hi' k1 hk1 hf f h1 h5
    · intro i' hi' k1 hk1 hf h3 l hl
      rw [a.2.2.1]
      by_cases ci : i' = i
      · subst ci
        by_cases ck : k1 = F
        · subst ck
          rw [m.1, if_pos ⟨rfl, rfl, by omega, by omega, rfl⟩] at h3
          rw [hm, a.2.1, if_pos ⟨rfl, rfl, rfl, hl⟩, m.2.1, if_pos ⟨rfl, rfl, rfl, by omega, by omega⟩, Nat.add_sub_cancel_left]
          exact d.ds h3 l hl
        · rw [e28i, nI_clamp (by omega)] at hf
          have hk2 : k1 < F := by omega
          have hne : S.2.2 13 i' 0 k1 ≠ R := fun q => ck (h.inj i' hi' k1 hk1 F hF' (q.trans hm.symm))
          rw [eU' 1 (by decide) (by decide) _ (by omega)] at h3
          rw [a.2.1, if_neg (fun z => hne z.2.2.1), m.2.1, if_neg (fun z => by omega)]
          exact h.sg i' hi' k1 hk1 (by rw [eF]; exact hk2) h3 l hl
      · rw [e28 i' ci] at hf
        rw [eU' 1 (by decide) (by decide) _ (by omega)] at h3
        rw [a.2.1, if_neg (fun z => ci z.2.1), m.2.1, if_neg (fun z => by omega)]
        exact h.sg i' hi' k1 hk1 hf h3 l hl
    · intro i' hi'
      rw [eS' _ _ _ _ (by decide) (by decide), h.bc i' hi']
      simp only [eU 19 (by decide)]
    · rw [eS4]
      exact d.d1
    · rw [eS4]
      exact d.d2
    · rw [eS4]
      exact d.d3
    · rw [eS4]
      exact d.d4
    · rw [eS4, eU 1 (by decide)]
      exact d.d5
    · intro h3 l hl
      rw [a.2.1, if_neg (fun z => by omega), m.2.1, if_neg (fun z => by omega)]
      exact d.ds h3 l hl
/-- the reference's invariant over a send -/
theorem m_send_ivt {sg : Nat → Nat} {B T : Nat} {U : St} {k s b v : Int32} {i : Nat} (h : Ivt sg B T U) (hi : i < 4) (hm : MsgOk sg B (U.1 18 0 0) (U.1 7 0 0) k s b v (if k ≤ 3 then U.1 1 0 0 40 else -1)) : Ivt sg B T (f_M_send s (nI i) k b v U) ∧ (∀ k', k' < 28 → (f_M_send s (nI i) k b v U).1 k' 0 0 = U.1 k' 0 0) := by
  obtain ⟨F, hF, e⟩ := h.fly i hi
  by_cases h16 : F = 16
  · subst h16
    have m := m_send16 s k b v i U hi e
    rw [m.1]
    exact ⟨h, fun _ _ => rfl⟩
  · have hF' : F < 16 := by omega
    have m := m_send s k b v i F U hi hF' e
    have eF : (U.1 28 0 0 i).toNatClampNeg = F := by rw [e, nI_clamp (by omega)]
    generalize f_M_send s (nI i) k b v U = U' at m ⊢
    have eU : ∀ k', k' < 28 → U'.1 k' 0 0 = U.1 k' 0 0 := fun k' hk => funext fun x => by
      rw [m.1, if_neg (fun z => by omega), if_neg (fun z => by omega)]
    have e28 : ∀ x, x ≠ i → U'.1 28 0 0 x = U.1 28 0 0 x := fun x hx => by
      rw [m.1, if_neg (fun z => by omega), if_neg (fun z => hx z.2.2.2)]
    have e28i : U'.1 28 0 0 i = nI (F + 1) := by
      rw [m.1, if_neg (fun z => by omega), if_pos ⟨rfl, rfl, rfl, rfl⟩]
    have eU' : ∀ f, 1 ≤ f → f ≤ 5 → ∀ x, x ≠ 16 * i + F → U'.1 (28 + f) 0 0 x = U.1 (28 + f) 0 0 x := fun f h1 h5 x hx => by
      rw [m.1, if_neg (fun z => hx z.2.2.2.2), if_neg (fun z => by omega)]
    have eN : ∀ f, 1 ≤ f → f ≤ 5 → U'.1 (28 + f) 0 0 (16 * i + F) = fld k s b v (if k ≤ 3 then U.1 1 0 0 40 else -1) f := fun f h1 h5 => by
      rw [m.1, if_pos ⟨rfl, rfl, by omega, by omega, rfl⟩, Nat.add_sub_cancel_left]
    refine ⟨?_, eU⟩
    apply Ivt.mk
    case fly =>
      intro i' hi'
      by_cases c : i' = i
      · subst c
        exact ⟨F + 1, by omega, e28i⟩
      · rw [e28 i' c]
        exact h.fly i' hi'
    case msgs =>
      intro i' hi' k1 hk1 hf
      rw [eU 18 (by decide), eU 7 (by decide)]
      by_cases c : i' = i
      · subst c
        by_cases ck : k1 = F
        · subst ck
          rw [eN 1 (by decide) (by decide), eN 2 (by decide) (by decide), eN 3 (by decide) (by decide), eN 4 (by decide) (by decide), eN 5 (by decide) (by decide)]
          exact hm
        · rw [e28i, nI_clamp (by omega)] at hf
          rw [eU' 1 (by decide) (by decide) _ (by omega), eU' 2 (by decide) (by decide) _ (by omega), eU' 3 (by decide) (by decide) _ (by omega), eU' 4 (by decide) (by decide) _ (by omega), eU' 5 (by decide) (by decide) _ (by omega)]
          exact h.msgs i' hi' k1 hk1 (by rw [eF]; omega)
      · rw [e28 i' c] at hf
        rw [eU' 1 (by decide) (by decide) _ (by omega), eU' 2 (by decide) (by decide) _ (by omega), eU' 3 (by decide) (by decide) _ (by omega), eU' 4 (by decide) (by decide) _ (by omega), eU' 5 (by decide) (by decide) _ (by omega)]
        exact h.msgs i' hi' k1 hk1 hf
    all_goals try simp only [eU 1 (by decide), eU 8 (by decide), eU 7 (by decide), eU 9 (by decide), eU 3 (by decide), eU 4 (by decide), eU 12 (by decide), eU 14 (by decide), eU 15 (by decide), eU 17 (by decide), eU 16 (by decide), eU 18 (by decide), eU 19 (by decide), eU 20 (by decide), eU 21 (by decide), eU 22 (by decide), eU 23 (by decide), eU 24 (by decide), eU 25 (by decide)]
    · exact h.hB
    · exact h.hB1
    · exact h.hB2
    · exact h.hT
    · exact h.hT2
    · exact h.par0
    · exact h.par
    · exact h.vw0
    · exact h.vw
    · exact h.car
    · exact h.fr
    · exact h.to
    · exact h.view
    · exact h.span
    · exact h.high
    · exact h.locked
    · exact h.voted
    · exact h.used
    · exact h.has0
    · exact h.hasB
    · exact h.hasV
    · exact h.votes
    · exact h.votesB
    · exact h.votesM
    · exact h.touts
    · exact h.toutsM
    · exact h.pooled
    · exact h.pool
    · exact h.poolD
    · exact h.logged
    · exact h.log0
    · exact h.log
    · exact h.logP
theorem j_send {sd : Int32} {sg : Nat → Nat} {B T : Nat} {ak : Int32} {S U : St} {k s b v : Int32} {i : Nat} (h : J sd sg B T ak S U) (hi : i < 4) (d : Dr S U k s b v) (hm : MsgOk sg B (U.1 18 0 0) (U.1 7 0 0) k s b v (if k ≤ 3 then U.1 1 0 0 40 else -1)) : J sd sg B T ak (f_Inbox_add i 4 0 S) (f_M_send s (nI i) k b v U) ∧ Dr (f_Inbox_add i 4 0 S) (f_M_send s (nI i) k b v U) k s b v ∧ (∀ k', k' < 28 → (f_M_send s (nI i) k b v U).1 k' 0 0 = U.1 k' 0 0) ∧ ok_Inbox_add i 4 0 S ∧ ok_M_send s (nI i) k b v U := by
  obtain ⟨F, hF, e⟩ := h.v.fly i hi
  have a := r_send h.r hi hF e d
  have b' := m_send_ivt h.v hi hm
  exact ⟨J.mk a.1 b'.1 (by rw [a.2.2.1]; exact h.a) (by rw [b'.2 1 (by decide)]; exact h.t), a.2.1, b'.2, a.2.2.2.1, a.2.2.2.2⟩
theorem m_copy62 (a b : Nat) (ha : a < 64) (hb : b < 64) (hab : a ≠ b) (n : Nat) : ∀ (l : Nat) (V : St), l ≤ 11 → 11 - l < n → (f_M_copyMessage_62 (nI a) (nI b) n V (nI l)).1 = V.1 ∧ (f_M_copyMessage_62 (nI a) (nI b) n V (nI l)).2.2 = V.2.2 ∧ (∀ k p q x, (f_M_copyMessage_62 (nI a) (nI b) n V (nI l)).2.1 k p q x = if k = 34 ∧ p = 0 ∧ q = 0 ∧ 11 * b + l ≤ x ∧ x < 11 * b + 11 then V.2.1 34 0 0 (11 * a + (x - 11 * b)) else V.2.1 k p q x) ∧ ok_M_copyMessage_62 (nI a) (nI b) n V (nI l) := by
  induction n with
  | zero => exact fun r V _ h => absurd h (Nat.not_lt_zero _)
  | succ n ih =>
    intro l V hl hn
    rw [f_M_copyMessage_62, ok_M_copyMessage_62]
    by_cases h : l = 11
    · subst h
      rw [if_pos (by decide)]
      exact ⟨rfl, rfl, fun k p q x => by rw [if_neg (fun z => by omega)], fun _ => trivial, fun q => absurd (by decide) q⟩
    · have c : ¬ (11 : Int32) ≤ nI l := fun q => by
        have := (nI_leI (a := 11) (b := l) (by omega) (by omega)).mp q
        omega
      rw [if_neg c, lt, lt, ix11, ix11, nI_clamp (by omega), nI_clamp (by omega), nI_s]
      obtain ⟨e, f, d, o⟩ := ih (l + 1) (sl V 34 0 0 (11 * b + l) (V.2.1 34 0 0 (11 * a + l))) (by omega) (by omega)
      refine ⟨e, f, fun k p q x => ?_, fun q => absurd q c, fun _ => ⟨vp_in_nI (by omega) (by decide), vp_in_nI (by omega) (by decide), o⟩⟩
      rw [d, sl_l, sl_l]
      by_cases h1 : k = 34 ∧ p = 0 ∧ q = 0
      · obtain ⟨rfl, rfl, rfl⟩ := h1
        by_cases h2 : x = 11 * b + l
        · rw [if_neg (fun z => by omega), if_pos ⟨rfl, rfl, rfl, h2⟩, if_pos ⟨rfl, rfl, rfl, by omega, by omega⟩, h2, Nat.add_sub_cancel_left]
        · by_cases h3 : 11 * b + (l + 1) ≤ x ∧ x < 11 * b + 11
          · rw [if_pos ⟨rfl, rfl, rfl, h3⟩, if_neg (fun z => by omega), if_pos ⟨rfl, rfl, rfl, by omega, by omega⟩]
          · rw [if_neg (fun z => h3 z.2.2.2), if_neg (fun z => h2 z.2.2.2), if_neg (fun z => h3 ⟨by omega, by omega⟩)]
      · rw [if_neg (fun z => h1 ⟨z.1, z.2.1, z.2.2.1⟩), if_neg (fun z => h1 ⟨z.1, z.2.1, z.2.2.1⟩), if_neg (fun z => h1 ⟨z.1, z.2.1, z.2.2.1⟩)]
theorem m_copy (a b : Nat) (ha : a < 64) (hb : b < 64) (hab : a ≠ b) (U : St) : (∀ k p q x, (f_M_copyMessage (nI a) (nI b) U).1 k p q x = if p = 0 ∧ q = 0 ∧ 29 ≤ k ∧ k ≤ 33 ∧ x = b then U.1 k 0 0 a else U.1 k p q x) ∧ (∀ k p q x, (f_M_copyMessage (nI a) (nI b) U).2.1 k p q x = if k = 34 ∧ p = 0 ∧ q = 0 ∧ 11 * b ≤ x ∧ x < 11 * b + 11 then U.2.1 34 0 0 (11 * a + (x - 11 * b)) else U.2.1 k p q x) ∧ (f_M_copyMessage (nI a) (nI b) U).2.2 = U.2.2 ∧ ok_M_copyMessage (nI a) (nI b) U := by
  have va : vp_in (nI a) 64 := vp_in_nI ha (by decide)
  have vb : vp_in (nI b) 64 := vp_in_nI hb (by decide)
  unfold f_M_copyMessage ok_M_copyMessage
  rw [nI_clamp (by omega), nI_clamp (by omega), lt, lt, lt, lt, lt, lt, lt, lt, lt, lt]
  obtain ⟨W, hW⟩ : ∃ W, W = si (si (si (si (si U 29 0 0 b (U.1 29 0 0 a)) 30 0 0 b (U.1 30 0 0 a)) 31 0 0 b (U.1 31 0 0 a)) 32 0 0 b (U.1 32 0 0 a)) 33 0 0 b (U.1 33 0 0 a) := ⟨_, rfl⟩
  have g := m_copy62 a b ha hb hab 200 0 W (by omega) (by omega)
  rw [show (0 : Int32) = nI 0 from rfl]
  rw [hW] at g
  refine ⟨fun k p q x => ?_, fun k p q x => ?_, ?_, va, vb, va, vb, va, vb, va, vb, va, vb, g.2.2.2⟩
  · refine (congrFun (congrFun (congrFun (congrFun g.1 k) p) q) x).trans ?_
    rw [si_i, si_i, si_i, si_i, si_i]
    by_cases h : p = 0 ∧ q = 0 ∧ 29 ≤ k ∧ k ≤ 33 ∧ x = b
    · rw [if_pos h]
      obtain ⟨rfl, rfl, h1, h2, rfl⟩ := h
      rcases (by omega : k = 29 ∨ k = 30 ∨ k = 31 ∨ k = 32 ∨ k = 33) with rfl | rfl | rfl | rfl | rfl <;> simp
    · rw [if_neg h, if_neg (fun z => h ⟨z.2.1, z.2.2.1, by omega, by omega, z.2.2.2⟩), if_neg (fun z => h ⟨z.2.1, z.2.2.1, by omega, by omega, z.2.2.2⟩), if_neg (fun z => h ⟨z.2.1, z.2.2.1, by omega, by omega, z.2.2.2⟩), if_neg (fun z => h ⟨z.2.1, z.2.2.1, by omega, by omega, z.2.2.2⟩), if_neg (fun z => h ⟨z.2.1, z.2.2.1, by omega, by omega, z.2.2.2⟩)]
  · exact g.2.2.1 k p q x
  · exact g.2.1
theorem m_land15 (i F : Nat) (hi : i < 4) (hF : F < 16) (U : St) (e : U.1 28 0 0 i = nI F) (n : Nat) : ∀ (j : Nat) (V : St), j ≤ F → F - j < n → (∀ k p q x, V.1 k p q x = if p = 0 ∧ q = 0 ∧ 29 ≤ k ∧ k ≤ 33 ∧ 16 * i ≤ x ∧ x < 16 * i + j then U.1 k 0 0 (x + 1) else U.1 k p q x) → (∀ k p q x, V.2.1 k p q x = if k = 34 ∧ p = 0 ∧ q = 0 ∧ 11 * (16 * i) ≤ x ∧ x < 11 * (16 * i + j) then U.2.1 34 0 0 (x + 11) else U.2.1 k p q x) → V.2.2 = U.2.2 → (∀ k p q x, (f_M_land_15 (nI i) n V (nI (16 * i + j))).1 k p q x = if p = 0 ∧ q = 0 ∧ 29 ≤ k ∧ k ≤ 33 ∧ 16 * i ≤ x ∧ x < 16 * i + F then U.1 k 0 0 (x + 1) else U.1 k p q x) ∧ (∀ k p q x, (f_M_land_15 (nI i) n V (nI (16 * i + j))).2.1 k p q x = if k = 34 ∧ p = 0 ∧ q = 0 ∧ 11 * (16 * i) ≤ x ∧ x < 11 * (16 * i + F) then U.2.1 34 0 0 (x + 11) else U.2.1 k p q x) ∧ (f_M_land_15 (nI i) n V (nI (16 * i + j))).2.2 = U.2.2 ∧ ok_M_land_15 (nI i) n V (nI (16 * i + j)) := by
  induction n with
  | zero => exact fun r V _ h => absurd h (Nat.not_lt_zero _)
  | succ n ih =>
    intro j V hj hn v1 v2 v3
    have i4 : vp_in (nI i) 4 := vp_in_nI hi (by decide)
    have eV : V.1 28 0 0 i = nI F := by rw [v1, if_neg (fun z => by omega), e]
    rw [f_M_land_15, ok_M_land_15, nI_clamp (by omega), eV, ix16]
    by_cases h : j = F
    · subst h
      rw [if_pos (Int32.le_refl _)]
      exact ⟨v1, v2, v3, i4, fun _ => trivial, fun q => absurd (Int32.le_refl _) q⟩
    · have c : ¬ nI (16 * i + F) ≤ nI (16 * i + j) := fun q => by
        have := (nI_leI (a := 16 * i + F) (b := 16 * i + j) (by omega) (by omega)).mp q
        omega
      have m := m_copy (16 * i + j + 1) (16 * i + j) (by omega) (by omega) (by omega) V
      rw [if_neg c, lt, lt, nI_s]
      generalize f_M_copyMessage (nI (16 * i + j + 1)) (nI (16 * i + j)) V = W at m ⊢
      have g := ih (j + 1) W (by omega) (by omega) (fun k p q x => by
        rw [m.1, v1]
        by_cases h1 : p = 0 ∧ q = 0 ∧ 29 ≤ k ∧ k ≤ 33 ∧ x = 16 * i + j
        · rw [if_pos h1, if_neg (fun z => by omega), if_pos ⟨h1.1, h1.2.1, h1.2.2.1, h1.2.2.2.1, by omega, by omega⟩, h1.2.2.2.2]
        · rw [if_neg h1, v1]
          by_cases h2 : p = 0 ∧ q = 0 ∧ 29 ≤ k ∧ k ≤ 33 ∧ 16 * i ≤ x ∧ x < 16 * i + j
          · rw [if_pos h2, if_pos (by omega)]
          · rw [if_neg h2, if_neg (by omega)]) (fun k p q x => by
        rw [m.2.1, v2]
        by_cases h1 : k = 34 ∧ p = 0 ∧ q = 0 ∧ 11 * (16 * i + j) ≤ x ∧ x < 11 * (16 * i + j) + 11
        · rw [if_pos h1, if_neg (fun z => by omega), if_pos ⟨h1.1, h1.2.1, h1.2.2.1, by omega, by omega⟩]
          rw [show 11 * (16 * i + j + 1) + (x - 11 * (16 * i + j)) = x + 11 by omega]
        · rw [if_neg h1, v2]
          by_cases h2 : k = 34 ∧ p = 0 ∧ q = 0 ∧ 11 * (16 * i) ≤ x ∧ x < 11 * (16 * i + j)
          · rw [if_pos h2, if_pos ⟨h2.1, h2.2.1, h2.2.2.1, by omega, by omega⟩]
          · rw [if_neg h2, if_neg (fun z => by omega)]) (m.2.2.1.trans v3)
      exact ⟨g.1, g.2.1, g.2.2.1, i4, fun q => absurd q c, fun _ => ⟨m.2.2.2, g.2.2.2⟩⟩
theorem m_land (i F : Nat) (hi : i < 4) (hF : F < 16) (U : St) (e : U.1 28 0 0 i = nI (F + 1)) : (∀ k p q x, (f_M_land (nI i) U).1 k p q x = if p = 0 ∧ q = 0 ∧ 29 ≤ k ∧ k ≤ 33 ∧ 16 * i ≤ x ∧ x < 16 * i + F then U.1 k 0 0 (x + 1) else if k = 28 ∧ p = 0 ∧ q = 0 ∧ x = i then nI F else U.1 k p q x) ∧ (∀ k p q x, (f_M_land (nI i) U).2.1 k p q x = if k = 34 ∧ p = 0 ∧ q = 0 ∧ 11 * (16 * i) ≤ x ∧ x < 11 * (16 * i + F) then U.2.1 34 0 0 (x + 11) else U.2.1 k p q x) ∧ (f_M_land (nI i) U).2.2 = U.2.2 ∧ ok_M_land (nI i) U := by
  have i4 : vp_in (nI i) 4 := vp_in_nI hi (by decide)
  have em : nI (F + 1) - (1 : Int32) = nI F := nI_pred F
  have g := m_land15 i F hi hF (si U 28 0 0 i (nI F)) (si_rd _ _ _ _ _ _) 200 0 (si U 28 0 0 i (nI F)) (by omega) (by omega) (fun k p q x => by rw [if_neg (fun z => by omega)]) (fun k p q x => by rw [if_neg (fun z => by omega)]) rfl
  have e16 : (16 : Int32) * nI i = nI (16 * i + 0) := by
    rw [show (16 : Int32) = nI 16 from rfl, nI_m]
    rfl
  unfold f_M_land ok_M_land
  rw [lt, lt, nI_clamp (by omega), e, em, e16]
  refine ⟨fun k p q x => ?_, g.2.1, g.2.2.1, i4, i4, g.2.2.2⟩
  rw [g.1, si_i, si_i]
  by_cases h : p = 0 ∧ q = 0 ∧ 29 ≤ k ∧ k ≤ 33 ∧ 16 * i ≤ x ∧ x < 16 * i + F
  · rw [if_pos h, if_pos h, if_neg (fun z => by omega)]
  · rw [if_neg h, if_neg h]
def rot (F : Nat) (g : Nat → Nat) (x : Nat) : Nat := if x + 1 < F then g (x + 1) else if x + 1 = F then g 0 else g x
theorem q_move9 (i F : Nat) (hF : F ≤ 16) (S : St) (e : S.1 12 i 0 1 = nI F) (hrow : ∀ k, k < 16 → S.2.2 13 i 0 k < 16) (n : Nat) : ∀ (k : Nat) (V : St), 1 ≤ k → k ≤ F → F - k < n → V.1 = S.1 → V.2.1 = S.2.1 → (∀ a b c x, V.2.2 a b c x = if a = 13 ∧ b = i ∧ c = 0 then rot k (S.2.2 13 i 0) x else S.2.2 a b c x) → (f_Inbox_moveFirstBehind_9 i n V (S.2.2 13 i 0 0) (nI k)).1 = S.1 ∧ (f_Inbox_moveFirstBehind_9 i n V (S.2.2 13 i 0 0) (nI k)).2.1 = S.2.1 ∧ (∀ a b c x, (f_Inbox_moveFirstBehind_9 i n V (S.2.2 13 i 0 0) (nI k)).2.2 a b c x = if a = 13 ∧ b = i ∧ c = 0 then rot F (S.2.2 13 i 0) x else S.2.2 a b c x) ∧ ok_Inbox_moveFirstBehind_9 i n V (S.2.2 13 i 0 0) (nI k) := by
  induction n with
  | zero => exact fun k V _ _ h => absurd h (Nat.not_lt_zero _)
  | succ n ih =>
    intro k V h1 hk hn v1 v2 v3
    rw [f_Inbox_moveFirstBehind_9, ok_Inbox_moveFirstBehind_9, v1, e]
    by_cases h : k = F
    · subst h
      rw [if_pos (Int32.le_refl _)]
      exact ⟨v1, v2, v3, fun _ => trivial, fun q => absurd (Int32.le_refl _) q⟩
    · have c : ¬ nI F ≤ nI k := fun q => by
        have := (nI_leI (a := F) (b := k) (by omega) (by omega)).mp q
        omega
      have em : nI k - (1 : Int32) = nI (k - 1) := nI_sub (b := 1) h1
      have ek : V.2.2 13 i 0 k = S.2.2 13 i 0 k := by
        rw [v3, if_pos ⟨rfl, rfl, rfl⟩]
        unfold rot
        rw [if_neg (by omega), if_neg (by omega)]
      rw [if_neg c, lt, lt, lt, lt, em, nI_clamp (by omega), nI_clamp (by omega), nI_s, ek]
      have g := ih (k + 1) (sp (sp V 13 i 0 (k - 1) (S.2.2 13 i 0 k)) 13 i 0 k (S.2.2 13 i 0 0)) (by omega) (by omega) (by omega) v1 v2 (fun a b c x => by
        rw [sp_p, sp_p, v3]
        by_cases h2 : a = 13 ∧ b = i ∧ c = 0
        · rw [if_pos h2, if_pos h2]
          unfold rot
          by_cases h3 : x = k
          · rw [if_pos ⟨h2.1, h2.2.1, h2.2.2, h3⟩, if_neg (by omega), if_pos (by omega)]
          · rw [if_neg (fun z => h3 z.2.2.2)]
            by_cases h4 : x = k - 1
            · rw [if_pos ⟨h2.1, h2.2.1, h2.2.2, h4⟩, if_pos (by omega), show x + 1 = k by omega]
            · rw [if_neg (fun z => h4 z.2.2.2)]
              by_cases h5 : x + 1 < k
              · rw [if_pos h5, if_pos (by omega)]
              · rw [if_neg h5, if_neg (by omega), if_neg (by omega), if_neg (by omega)]
        · rw [if_neg h2, if_neg h2, if_neg (fun z => h2 ⟨z.1, z.2.1, z.2.2.1⟩), if_neg (fun z => h2 ⟨z.1, z.2.1, z.2.2.1⟩)])
      exact ⟨g.1, g.2.1, g.2.2.1, fun q => absurd q c, fun _ => ⟨vp_in_nI (by omega) (by decide), hrow k (by omega), vp_in_nI (by omega) (by decide), vp_in_nI (by omega) (by decide), g.2.2.2⟩⟩
theorem q_move (i F : Nat) (h1 : 1 ≤ F) (hF : F ≤ 16) (S : St) (e : S.1 12 i 0 1 = nI F) (hrow : ∀ k, k < 16 → S.2.2 13 i 0 k < 16) : (f_Inbox_moveFirstBehind i S).1 = S.1 ∧ (f_Inbox_moveFirstBehind i S).2.1 = S.2.1 ∧ (∀ a b c x, (f_Inbox_moveFirstBehind i S).2.2 a b c x = if a = 13 ∧ b = i ∧ c = 0 then rot F (S.2.2 13 i 0) x else S.2.2 a b c x) ∧ ok_Inbox_moveFirstBehind i S := by
  have g := q_move9 i F hF S e hrow 200 1 S (by omega) h1 (by omega) rfl rfl (fun a b c x => by
    by_cases h2 : a = 13 ∧ b = i ∧ c = 0
    · rw [if_pos h2]
      unfold rot
      rw [if_neg (by omega), h2.1, h2.2.1, h2.2.2]
      by_cases h3 : x + 1 = 1
      · rw [if_pos h3, show x = 0 by omega]
      · rw [if_neg h3]
    · rw [if_neg h2])
  exact ⟨g.1, g.2.1, g.2.2.1, hrow 0 (by decide), g.2.2.2⟩
/-! A message more, a message less: cores over any pair of states that look so. -/
abbrev AppU (i F : Nat) (fd : Nat → Int32) (sv : Nat → Int64) (U U' : St) : Prop := (∀ k, k < 28 → U'.1 k 0 0 = U.1 k 0 0) ∧ (U'.1 28 0 0 i = nI (F + 1)) ∧ (∀ x, x ≠ i → U'.1 28 0 0 x = U.1 28 0 0 x) ∧ (∀ f, 1 ≤ f → f ≤ 5 → U'.1 (28 + f) 0 0 (16 * i + F) = fd f) ∧ (∀ f, 1 ≤ f → f ≤ 5 → ∀ x, x ≠ 16 * i + F → U'.1 (28 + f) 0 0 x = U.1 (28 + f) 0 0 x) ∧ (∀ k, k ≠ 34 → U'.2.1 k 0 0 = U.2.1 k 0 0) ∧ (∀ l, l < 11 → U'.2.1 34 0 0 (11 * (16 * i + F) + l) = sv l) ∧ (∀ x, x < 11 * (16 * i + F) ∨ 11 * (16 * i + F) + 11 ≤ x → U'.2.1 34 0 0 x = U.2.1 34 0 0 x)
theorem AppU.mk {i F : Nat} {fd : Nat → Int32} {sv : Nat → Int64} {U U' : St} (b1 : ∀ k, k < 28 → U'.1 k 0 0 = U.1 k 0 0) (b2 : U'.1 28 0 0 i = nI (F + 1)) (b3 : ∀ x, x ≠ i → U'.1 28 0 0 x = U.1 28 0 0 x) (b4 : ∀ f, 1 ≤ f → f ≤ 5 → U'.1 (28 + f) 0 0 (16 * i + F) = fd f) (b5 : ∀ f, 1 ≤ f → f ≤ 5 → ∀ x, x ≠ 16 * i + F → U'.1 (28 + f) 0 0 x = U.1 (28 + f) 0 0 x) (l1 : ∀ k, k ≠ 34 → U'.2.1 k 0 0 = U.2.1 k 0 0) (l2 : ∀ l, l < 11 → U'.2.1 34 0 0 (11 * (16 * i + F) + l) = sv l) (l3 : ∀ x, x < 11 * (16 * i + F) ∨ 11 * (16 * i + F) + 11 ≤ x → U'.2.1 34 0 0 x = U.2.1 34 0 0 x) : AppU i F fd sv U U' := ⟨b1, b2, b3, b4, b5, l1, l2, l3⟩
theorem AppU.b1 {i F : Nat} {fd : Nat → Int32} {sv : Nat → Int64} {U U' : St} (h : AppU i F fd sv U U') : ∀ k, k < 28 → U'.1 k 0 0 = U.1 k 0 0 := h.1
theorem AppU.b2 {i F : Nat} {fd : Nat → Int32} {sv : Nat → Int64} {U U' : St} (h : AppU i F fd sv U U') : U'.1 28 0 0 i = nI (F + 1) := h.2.1
theorem AppU.b3 {i F : Nat} {fd : Nat → Int32} {sv : Nat → Int64} {U U' : St} (h : AppU i F fd sv U U') : ∀ x, x ≠ i → U'.1 28 0 0 x = U.1 28 0 0 x := h.2.2.1
theorem AppU.b4 {i F : Nat} {fd : Nat → Int32} {sv : Nat → Int64} {U U' : St} (h : AppU i F fd sv U U') : ∀ f, 1 ≤ f → f ≤ 5 → U'.1 (28 + f) 0 0 (16 * i + F) = fd f := h.2.2.2.1
theorem AppU.b5 {i F : Nat} {fd : Nat → Int32} {sv : Nat → Int64} {U U' : St} (h : AppU i F fd sv U U') : ∀ f, 1 ≤ f → f ≤ 5 → ∀ x, x ≠ 16 * i + F → U'.1 (28 + f) 0 0 x = U.1 (28 + f) 0 0 x := h.2.2.2.2.1
theorem AppU.l1 {i F : Nat} {fd : Nat → Int32} {sv : Nat → Int64} {U U' : St} (h : AppU i F fd sv U U') : ∀ k, k ≠ 34 → U'.2.1 k 0 0 = U.2.1 k 0 0 := h.2.2.2.2.2.1
theorem AppU.l2 {i F : Nat} {fd : Nat → Int32} {sv : Nat → Int64} {U U' : St} (h : AppU i F fd sv U U') : ∀ l, l < 11 → U'.2.1 34 0 0 (11 * (16 * i + F) + l) = sv l := h.2.2.2.2.2.2.1
theorem AppU.l3 {i F : Nat} {fd : Nat → Int32} {sv : Nat → Int64} {U U' : St} (h : AppU i F fd sv U U') : ∀ x, x < 11 * (16 * i + F) ∨ 11 * (16 * i + F) + 11 ≤ x → U'.2.1 34 0 0 x = U.2.1 34 0 0 x := h.2.2.2.2.2.2.2
abbrev AppS (i F R : Nat) (fd : Nat → Int32) (sv : Nat → Int64) (S S' : St) : Prop := (∀ k p q x, ¬ (k = 14 ∧ p = i ∧ q = R) → ¬ (k = 12 ∧ p = i ∧ q = 0 ∧ x = 1) → S'.1 k p q x = S.1 k p q x) ∧ (S'.1 12 i 0 1 = nI (F + 1)) ∧ (∀ f, 1 ≤ f → f ≤ 5 → S'.1 14 i R f = fd f) ∧ (∀ k p q x, ¬ (k = 15 ∧ p = i ∧ q = R) → S'.2.1 k p q x = S.2.1 k p q x) ∧ (fd 1 ≤ 3 → ∀ l, l < 11 → S'.2.1 15 i R l = sv l) ∧ (S'.2.2 = S.2.2)
theorem AppS.mk {i F R : Nat} {fd : Nat → Int32} {sv : Nat → Int64} {S S' : St} (a1 : ∀ k p q x, ¬ (k = 14 ∧ p = i ∧ q = R) → ¬ (k = 12 ∧ p = i ∧ q = 0 ∧ x = 1) → S'.1 k p q x = S.1 k p q x) (a2 : S'.1 12 i 0 1 = nI (F + 1)) (a3 : ∀ f, 1 ≤ f → f ≤ 5 → S'.1 14 i R f = fd f) (a4 : ∀ k p q x, ¬ (k = 15 ∧ p = i ∧ q = R) → S'.2.1 k p q x = S.2.1 k p q x) (a5 : fd 1 ≤ 3 → ∀ l, l < 11 → S'.2.1 15 i R l = sv l) (a6 : S'.2.2 = S.2.2) : AppS i F R fd sv S S' := ⟨a1, a2, a3, a4, a5, a6⟩
theorem AppS.a1 {i F R : Nat} {fd : Nat → Int32} {sv : Nat → Int64} {S S' : St} (h : AppS i F R fd sv S S') : ∀ k p q x, ¬ (k = 14 ∧ p = i ∧ q = R) → ¬ (k = 12 ∧ p = i ∧ q = 0 ∧ x = 1) → S'.1 k p q x = S.1 k p q x := h.1
theorem AppS.a2 {i F R : Nat} {fd : Nat → Int32} {sv : Nat → Int64} {S S' : St} (h : AppS i F R fd sv S S') : S'.1 12 i 0 1 = nI (F + 1) := h.2.1
theorem AppS.a3 {i F R : Nat} {fd : Nat → Int32} {sv : Nat → Int64} {S S' : St} (h : AppS i F R fd sv S S') : ∀ f, 1 ≤ f → f ≤ 5 → S'.1 14 i R f = fd f := h.2.2.1
theorem AppS.a4 {i F R : Nat} {fd : Nat → Int32} {sv : Nat → Int64} {S S' : St} (h : AppS i F R fd sv S S') : ∀ k p q x, ¬ (k = 15 ∧ p = i ∧ q = R) → S'.2.1 k p q x = S.2.1 k p q x := h.2.2.2.1
theorem AppS.a5 {i F R : Nat} {fd : Nat → Int32} {sv : Nat → Int64} {S S' : St} (h : AppS i F R fd sv S S') : fd 1 ≤ 3 → ∀ l, l < 11 → S'.2.1 15 i R l = sv l := h.2.2.2.2.1
theorem AppS.a6 {i F R : Nat} {fd : Nat → Int32} {sv : Nat → Int64} {S S' : St} (h : AppS i F R fd sv S S') : S'.2.2 = S.2.2 := h.2.2.2.2.2
theorem r_app {sd : Int32} {S U S' U' : St} {i F : Nat} {fd : Nat → Int32} {sv : Nat → Int64} (h : Rel sd S U) (hi : i < 4) (hF : F < 16) (e : U.1 28 0 0 i = nI F) (a : AppS i F (S.2.2 13 i 0 F) fd sv S S') (b : AppU i F fd sv U U') : Rel sd S' U' := by
  have eF : (U.1 28 0 0 i).toNatClampNeg = F := by rw [e, nI_clamp (by omega)]
  have eS' : ∀ k' p q x, k' ≠ 12 → k' ≠ 14 → S'.1 k' p q x = S.1 k' p q x := fun k' p q x h1 h2 => a.a1 _ _ _ _ (fun z => h2 z.1) (fun z => h1 z.1)
  refine (Rel.mk (m := ?_) (id := ?_) (se := ?_) (ow := ?_) (us := ?_) (tr := ?_) (row := ?_) (inj := ?_) (msg := ?_) (sg := ?_) (bc := ?_))
  · intro k1 p q x k' y hm'
    have nt := hm'.nt
    have iff' := (Mp.flying hi).iff hm'
    by_cases c : k1 = 12 ∧ p = i ∧ q = 0 ∧ x = 1
    · have c' := iff'.mp c
      rw [c.1, c.2.1, c.2.2.1, c.2.2.2, c'.1, c'.2, b.b2, a.a2]
    · rw [a.a1 k1 p q x (fun z => nt.2.1 z.1) c, h.m hm']
      by_cases c28 : k' = 28
      · subst c28
        rw [b.b3 y (fun z => c (iff'.mpr ⟨rfl, z⟩))]
      · rw [b.b1 k' (by omega)]
  · intro i' hi'
    rw [eS' _ _ _ _ (by decide) (by decide)]
    exact h.id i' hi'
  · intro i' hi'
    rw [eS' _ _ _ _ (by decide) (by decide)]
    exact h.se i' hi'
  · intro i' hi'
    rw [eS' _ _ _ _ (by decide) (by decide)]
    exact h.ow i' hi'
  · rw [b.l1 1 (by decide)]
    exact h.us
  · intro i' hi' x hx
    rw [a.a4 _ _ _ _ (fun z => by omega), b.l1 2 (by decide)]
    exact h.tr i' hi' x hx
  · rw [a.a6]
    exact h.row
  · rw [a.a6]
    exact h.inj
  · intro i' hi' k1 hk1 hf f h1 h5
    rw [a.a6]
    by_cases ci : i' = i
    · subst ci
      by_cases ck : k1 = F
      · subst ck
        rw [a.a3 f h1 h5, b.b4 f h1 h5]
      · rw [b.b2, nI_clamp (by omega)] at hf
        have hne : S.2.2 13 i' 0 k1 ≠ S.2.2 13 i' 0 F := fun q => ck (h.inj i' hi' k1 hk1 F hF q)
        rw [a.a1 _ _ _ _ (fun z => hne z.2.2) (fun z => by omega), b.b5 f h1 h5 _ (by omega)]
        exact h.msg i' hi' k1 hk1 (by rw [eF]; omega) f h1 h5
    · rw [b.b3 i' ci] at hf
      rw [a.a1 _ _ _ _ (fun z => ci z.2.1) (fun z => by omega), b.b5 f h1 h5 _ (by omega)]
      exact h.msg i' hi' k1 hk1 hf f h1 h5
  · intro i' hi' k1 hk1 hf h3 l hl
    rw [a.a6]
    by_cases ci : i' = i
    · subst ci
      by_cases ck : k1 = F
      · subst ck
        rw [b.b4 1 (by decide) (by decide)] at h3
        rw [a.a5 h3 l hl, b.l2 l hl]
      · rw [b.b2, nI_clamp (by omega)] at hf
        have hne : S.2.2 13 i' 0 k1 ≠ S.2.2 13 i' 0 F := fun q => ck (h.inj i' hi' k1 hk1 F hF q)
        rw [b.b5 1 (by decide) (by decide) _ (by omega)] at h3
        rw [a.a4 _ _ _ _ (fun z => hne z.2.2), b.l3 _ (by omega)]
        exact h.sg i' hi' k1 hk1 (by rw [eF]; omega) h3 l hl
    · rw [b.b3 i' ci] at hf
      rw [b.b5 1 (by decide) (by decide) _ (by omega)] at h3
      rw [a.a4 _ _ _ _ (fun z => ci z.2.1), b.l3 _ (by omega)]
      exact h.sg i' hi' k1 hk1 hf h3 l hl
  · intro i' hi'
    rw [eS' _ _ _ _ (by decide) (by decide), h.bc i' hi', b.b1 19 (by decide)]
/-- what of the reference the invariant looks at, but for inboxes -/
theorem Ivt.box {sg : Nat → Nat} {B T : Nat} {U U' : St} (h : Ivt sg B T U) (eU : ∀ k, k < 28 → U'.1 k 0 0 = U.1 k 0 0) (fly : ∀ i, i < 4 → ∃ n, n ≤ 16 ∧ U'.1 28 0 0 i = nI n) (msgs : ∀ i, i < 4 → ∀ k, k < 16 → k < (U'.1 28 0 0 i).toNatClampNeg → MsgOk sg B (U.1 18 0 0) (U.1 7 0 0) (U'.1 29 0 0 (16 * i + k)) (U'.1 30 0 0 (16 * i + k)) (U'.1 31 0 0 (16 * i + k)) (U'.1 32 0 0 (16 * i + k)) (U'.1 33 0 0 (16 * i + k))) : Ivt sg B T U' := by
  apply Ivt.mk
  case fly => exact fly
  case msgs =>
    rw [eU 18 (by decide), eU 7 (by decide)]
    exact msgs
  all_goals try simp only [eU 1 (by decide), eU 8 (by decide), eU 7 (by decide), eU 9 (by decide), eU 3 (by decide), eU 4 (by decide), eU 12 (by decide), eU 14 (by decide), eU 15 (by decide), eU 17 (by decide), eU 16 (by decide), eU 18 (by decide), eU 19 (by decide), eU 20 (by decide), eU 21 (by decide), eU 22 (by decide), eU 23 (by decide), eU 24 (by decide), eU 25 (by decide)]
  · exact h.hB
  · exact h.hB1
  · exact h.hB2
  · exact h.hT
  · exact h.hT2
  · exact h.par0
  · exact h.par
  · exact h.vw0
  · exact h.vw
  · exact h.car
  · exact h.fr
  · exact h.to
  · exact h.view
  · exact h.span
  · exact h.high
  · exact h.locked
  · exact h.voted
  · exact h.used
  · exact h.has0
  · exact h.hasB
  · exact h.hasV
  · exact h.votes
  · exact h.votesB
  · exact h.votesM
  · exact h.touts
  · exact h.toutsM
  · exact h.pooled
  · exact h.pool
  · exact h.poolD
  · exact h.logged
  · exact h.log0
  · exact h.log
  · exact h.logP
theorem m_app {sg : Nat → Nat} {B T : Nat} {U U' : St} {i F : Nat} {fd : Nat → Int32} {sv : Nat → Int64} (h : Ivt sg B T U) (hi : i < 4) (hF : F < 16) (e : U.1 28 0 0 i = nI F) (b : AppU i F fd sv U U') (hm : MsgOk sg B (U.1 18 0 0) (U.1 7 0 0) (fd 1) (fd 2) (fd 3) (fd 4) (fd 5)) : Ivt sg B T U' := by
  have eF : (U.1 28 0 0 i).toNatClampNeg = F := by rw [e, nI_clamp (by omega)]
  refine h.box b.b1 (fun i' hi' => ?_) (fun i' hi' k1 hk1 hf => ?_)
  · by_cases c : i' = i
    · subst c
      exact ⟨F + 1, by omega, b.b2⟩
    · rw [b.b3 i' c]
      exact h.fly i' hi'
  · by_cases c : i' = i
    · subst c
      by_cases ck : k1 = F
      · subst ck
        rw [b.b4 1 (by decide) (by decide), b.b4 2 (by decide) (by decide), b.b4 3 (by decide) (by decide), b.b4 4 (by decide) (by decide), b.b4 5 (by decide) (by decide)]
        exact hm
      · rw [b.b2, nI_clamp (by omega)] at hf
        rw [b.b5 1 (by decide) (by decide) _ (by omega), b.b5 2 (by decide) (by decide) _ (by omega), b.b5 3 (by decide) (by decide) _ (by omega), b.b5 4 (by decide) (by decide) _ (by omega), b.b5 5 (by decide) (by decide) _ (by omega)]
        exact h.msgs i' hi' k1 hk1 (by rw [eF]; omega)
    · rw [b.b3 i' c] at hf
      rw [b.b5 1 (by decide) (by decide) _ (by omega), b.b5 2 (by decide) (by decide) _ (by omega), b.b5 3 (by decide) (by decide) _ (by omega), b.b5 4 (by decide) (by decide) _ (by omega), b.b5 5 (by decide) (by decide) _ (by omega)]
      exact h.msgs i' hi' k1 hk1 hf
theorem m_send_app (a1 a3 a4 a5 : Int32) (i F : Nat) (U : St) (hi : i < 4) (hF : F < 16) (e : U.1 28 0 0 i = nI F) : AppU i F (fld a3 a1 a4 a5 (if a3 ≤ 3 then U.1 1 0 0 40 else -1)) (U.2.1 35 0 0) U (f_M_send a1 (nI i) a3 a4 a5 U) := by
  have m := m_send a1 a3 a4 a5 i F U hi hF e
  generalize f_M_send a1 (nI i) a3 a4 a5 U = U' at m ⊢
  apply AppU.mk
  · intro k hk
    funext x
    rw [m.1, if_neg (fun z => by omega), if_neg (fun z => by omega)]
  · rw [m.1, if_neg (fun z => by omega), if_pos ⟨rfl, rfl, rfl, rfl⟩]
  · intro x hx
    rw [m.1, if_neg (fun z => by omega), if_neg (fun z => hx z.2.2.2)]
  · intro f h1 h5
    rw [m.1, if_pos ⟨rfl, rfl, by omega, by omega, rfl⟩, Nat.add_sub_cancel_left]
  · intro f h1 h5 x hx
    rw [m.1, if_neg (fun z => hx z.2.2.2.2), if_neg (fun z => by omega)]
  · intro k hk
    funext x
    rw [m.2.1, if_neg (fun z => hk z.1)]
  · intro l hl
    rw [m.2.1, if_pos ⟨rfl, rfl, rfl, by omega, by omega⟩, Nat.add_sub_cancel_left]
  · intro x hx
    rw [m.2.1, if_neg (fun z => by omega)]
def rix (F x : Nat) : Nat := if x + 1 < F then x + 1 else if x + 1 = F then 0 else x
theorem rot_rix (F : Nat) (g : Nat → Nat) (x : Nat) : rot F g x = g (rix F x) := by
  unfold rot rix
  split
  · rfl
  · split <;> rfl
theorem rix_lt {F x : Nat} (hF : F ≤ 16) (hx : x < 16) : rix F x < 16 := by
  unfold rix
  split
  · omega
  · split <;> omega
theorem rix_inj {F x y : Nat} (h : rix F x = rix F y) : x = y := by
  unfold rix at h
  by_cases a : x + 1 < F
  · rw [if_pos a] at h
    by_cases b : y + 1 < F
    · rw [if_pos b] at h
      omega
    · rw [if_neg b] at h
      by_cases d : y + 1 = F
      · rw [if_pos d] at h
        omega
      · rw [if_neg d] at h
        omega
  · rw [if_neg a] at h
    by_cases c : x + 1 = F
    · rw [if_pos c] at h
      by_cases b : y + 1 < F
      · rw [if_pos b] at h
        omega
      · rw [if_neg b] at h
        by_cases d : y + 1 = F
        · omega
        · rw [if_neg d] at h
          omega
    · rw [if_neg c] at h
      by_cases b : y + 1 < F
      · rw [if_pos b] at h
        omega
      · rw [if_neg b] at h
        by_cases d : y + 1 = F
        · rw [if_pos d] at h
          omega
        · rw [if_neg d] at h
          omega
/-- a message less -/
theorem r_drop {sd : Int32} {S U : St} {i F : Nat} (h : Rel sd S U) (hi : i < 4) (hF : F < 16) (e : U.1 28 0 0 i = nI (F + 1)) : Rel sd (f_Inbox_dropFirst i S) (f_M_land (nI i) U) ∧ (f_Inbox_dropFirst i S).1 14 = S.1 14 ∧ (f_Inbox_dropFirst i S).2.1 = S.2.1 ∧ (f_Inbox_dropFirst i S).2.2 13 i 0 = rot (F + 1) (S.2.2 13 i 0) ∧ f_Inbox_dropFirst i S = si (f_Inbox_moveFirstBehind i S) 12 i 0 1 (nI F) ∧ ok_Inbox_dropFirst i S ∧ ok_M_land (nI i) U := by
  have eS : S.1 12 i 0 1 = nI (F + 1) := (h.m (Mp.flying hi)).trans e
  have q := q_move i (F + 1) (by omega) (by omega) S eS (h.row i hi)
  have m := m_land i F hi hF U e
  have c : ¬ nI (F + 1) ≤ 0 := fun z => by
    have := (nI_leI (a := F + 1) (b := 0) (by omega) (by omega)).mp z
    omega
  have em : nI (F + 1) - (1 : Int32) = nI F := nI_pred F
  have ed : f_Inbox_dropFirst i S = si (f_Inbox_moveFirstBehind i S) 12 i 0 1 (nI F) := by
    unfold f_Inbox_dropFirst
    rw [eS, if_neg c, lt, lt, q.1, eS, em]
  have ok1 : ok_Inbox_dropFirst i S := by
    unfold ok_Inbox_dropFirst
    rw [eS]
    exact ⟨fun z => absurd z c, fun _ => ⟨q.2.2.2, trivial⟩⟩
  rw [ed]
  generalize f_Inbox_moveFirstBehind i S = W at q ⊢
  generalize f_M_land (nI i) U = U' at m ⊢
  have w14 : (si W 12 i 0 1 (nI F)).1 14 = S.1 14 := by
    show W.1 14 = _
    rw [q.1]
  have eF : (U.1 28 0 0 i).toNatClampNeg = F + 1 := by rw [e, nI_clamp (by omega)]
  have w13 : W.2.2 13 i 0 = rot (F + 1) (S.2.2 13 i 0) := by
    funext x
    rw [q.2.2.1, if_pos ⟨rfl, rfl, rfl⟩]
  have w13' : ∀ i', i' ≠ i → W.2.2 13 i' 0 = S.2.2 13 i' 0 := fun i' hne => by
    funext x
    rw [q.2.2.1, if_neg (fun z => hne z.2.1)]
  have e28i : U'.1 28 0 0 i = nI F := by
    rw [m.1, if_neg (fun z => by omega), if_pos ⟨rfl, rfl, rfl, rfl⟩]
  have e28 : ∀ x, x ≠ i → U'.1 28 0 0 x = U.1 28 0 0 x := fun x hx => by
    rw [m.1, if_neg (fun z => by omega), if_neg (fun z => hx z.2.2.2)]
  have eS' : ∀ k p q' x, k ≠ 12 → (si W 12 i 0 1 (nI F)).1 k p q' x = S.1 k p q' x := fun k p q' x hk => by
    rw [si_i, if_neg (fun z => hk z.1), q.1]
  refine ⟨(Rel.mk (m := ?_) (id := ?_) (se := ?_) (ow := ?_) (us := ?_) (tr := ?_) (row := ?_) (inj := ?_) (msg := ?_) (sg := ?_) (bc := ?_)), w14, q.2.1, w13, rfl, ok1, m.2.2.2⟩
  · intro k1 p q' x k' y hm'
    have nt := hm'.nt
    have iff' := (Mp.flying hi).iff hm'
    rw [si_i, q.1]
    by_cases c : k1 = 12 ∧ p = i ∧ q' = 0 ∧ x = 1
    · have c' := iff'.mp c
      rw [if_pos c, c'.1, c'.2, e28i]
    · rw [if_neg c, m.1, if_neg (fun z => by omega), if_neg (fun z => c (iff'.mpr ⟨z.1, z.2.2.2⟩))]
      exact h.m hm'
  · intro i' hi'
    rw [eS' _ _ _ _ (by decide)]
    exact h.id i' hi'
  · intro i' hi'
    rw [eS' _ _ _ _ (by decide)]
    exact h.se i' hi'
  · intro i' hi'
    rw [eS' _ _ _ _ (by decide)]
    exact h.ow i' hi'
  · rw [m.2.1, if_neg (fun z => by omega)]
    exact h.us
  · intro i' hi' x hx
    show W.2.1 11 i' 0 x = _
    rw [q.2.1, m.2.1, if_neg (fun z => by omega)]
    exact h.tr i' hi' x hx
  · intro i' hi' k1 hk1
    show W.2.2 13 i' 0 k1 < 16
    by_cases ci : i' = i
    · subst ci
      rw [w13]
      unfold rot
      split
      · exact h.row i' hi' _ (by omega)
      · split
        · exact h.row i' hi' _ (by omega)
        · exact h.row i' hi' _ hk1
    · rw [w13' i' ci]
      exact h.row i' hi' k1 hk1
  · intro i' hi' k1 hk1 k2 hk2
    show W.2.2 13 i' 0 k1 = W.2.2 13 i' 0 k2 → _
    by_cases ci : i' = i
    · subst ci
      rw [w13, rot_rix, rot_rix]
      intro hh
      have := h.inj i' hi' _ (rix_lt (by omega) hk1) _ (rix_lt (by omega) hk2) hh
      exact rix_inj this
    · rw [w13' i' ci]
      exact h.inj i' hi' k1 hk1 k2 hk2
  · intro i' hi' k1 hk1 hf f h1 h5
    rw [w14]
    show S.1 14 i' (W.2.2 13 i' 0 k1) f = _
    by_cases ci : i' = i
    · subst ci
      rw [e28i, nI_clamp (by omega)] at hf
      rw [w13]
      unfold rot
      rw [if_pos (by omega), m.1, if_pos ⟨rfl, rfl, by omega, by omega, by omega, by omega⟩]
      exact h.msg i' hi' (k1 + 1) (by omega) (by rw [eF]; omega) f h1 h5
    · rw [e28 i' ci] at hf
      rw [w13' i' ci, m.1, if_neg (fun z => by omega), if_neg (fun z => by omega)]
      exact h.msg i' hi' k1 hk1 hf f h1 h5
  · intro i' hi' k1 hk1 hf h3 l hl
    show W.2.1 15 i' (W.2.2 13 i' 0 k1) l = _
    rw [q.2.1]
    by_cases ci : i' = i
    · subst ci
      rw [e28i, nI_clamp (by omega)] at hf
      rw [m.1, if_pos ⟨rfl, rfl, by omega, by omega, by omega, by omega⟩] at h3
      rw [w13]
      unfold rot
      rw [if_pos (by omega), m.2.1, if_pos ⟨rfl, rfl, rfl, by omega, by omega⟩]
      have := h.sg i' hi' (k1 + 1) (by omega) (by rw [eF]; omega) h3 l hl
      rw [this, show 11 * (16 * i' + (k1 + 1)) + l = 11 * (16 * i' + k1) + l + 11 by omega]
    · rw [e28 i' ci] at hf
      rw [m.1, if_neg (fun z => by omega), if_neg (fun z => by omega)] at h3
      rw [w13' i' ci, m.2.1, if_neg (fun z => by omega)]
      exact h.sg i' hi' k1 hk1 hf h3 l hl
  · intro i' hi'
    rw [eS' _ _ _ _ (by decide), h.bc i' hi']
    have e19 : ∀ x, U'.1 19 0 0 x = U.1 19 0 0 x := fun x => by rw [m.1, if_neg (fun z => by omega), if_neg (fun z => by omega)]
    simp only [e19]
theorem m_drop {sg : Nat → Nat} {B T : Nat} {U : St} {i F : Nat} (h : Ivt sg B T U) (hi : i < 4) (hF : F < 16) (e : U.1 28 0 0 i = nI (F + 1)) : Ivt sg B T (f_M_land (nI i) U) ∧ (f_M_land (nI i) U).1 28 0 0 i = nI F ∧ (∀ k, k < 28 → (f_M_land (nI i) U).1 k 0 0 = U.1 k 0 0) ∧ (f_M_land (nI i) U).2.1 35 = U.2.1 35 := by
  have m := m_land i F hi hF U e
  generalize f_M_land (nI i) U = U' at m ⊢
  have eF : (U.1 28 0 0 i).toNatClampNeg = F + 1 := by rw [e, nI_clamp (by omega)]
  have e28i : U'.1 28 0 0 i = nI F := by
    rw [m.1, if_neg (fun z => by omega), if_pos ⟨rfl, rfl, rfl, rfl⟩]
  have e28 : ∀ x, x ≠ i → U'.1 28 0 0 x = U.1 28 0 0 x := fun x hx => by
    rw [m.1, if_neg (fun z => by omega), if_neg (fun z => hx z.2.2.2)]
  have eU : ∀ k, k < 28 → U'.1 k 0 0 = U.1 k 0 0 := fun k hk => funext fun x => by
    rw [m.1, if_neg (fun z => by omega), if_neg (fun z => by omega)]
  have e35 : U'.2.1 35 = U.2.1 35 := funext fun p => funext fun q => funext fun x => by
    rw [m.2.1, if_neg (fun z => by omega)]
  refine ⟨h.box eU (fun i' hi' => ?_) (fun i' hi' k1 hk1 hf => ?_), e28i, eU, e35⟩
  · by_cases c : i' = i
    · subst c
      exact ⟨F, by omega, e28i⟩
    · rw [e28 i' c]
      exact h.fly i' hi'
  · by_cases c : i' = i
    · subst c
      rw [e28i, nI_clamp (by omega)] at hf
      have sh : ∀ k, 29 ≤ k → k ≤ 33 → U'.1 k 0 0 (16 * i' + k1) = U.1 k 0 0 (16 * i' + (k1 + 1)) := fun k a b => by
        rw [m.1, if_pos ⟨rfl, rfl, a, b, by omega, by omega⟩]
        rfl
      rw [sh 29 (by decide) (by decide), sh 30 (by decide) (by decide), sh 31 (by decide) (by decide), sh 32 (by decide) (by decide), sh 33 (by decide) (by decide)]
      exact h.msgs i' hi' (k1 + 1) (by omega) (by rw [eF]; omega)
    · rw [e28 i' c] at hf
      have sh : ∀ k, 29 ≤ k → k ≤ 33 → U'.1 k 0 0 (16 * i' + k1) = U.1 k 0 0 (16 * i' + k1) := fun k a b => by
        rw [m.1, if_neg (fun z => by omega), if_neg (fun z => by omega)]
      rw [sh 29 (by decide) (by decide), sh 30 (by decide) (by decide), sh 31 (by decide) (by decide), sh 32 (by decide) (by decide), sh 33 (by decide) (by decide)]
      exact h.msgs i' hi' k1 hk1 hf
/-! The invariant over single stores (written by wip/whole/pure/geni.py). -/
theorem Ivt.w12 {sg : Nat → Nat} {B T : Nat} {U : St} (h : Ivt sg B T U) {i v : Nat} (h1 : 1 ≤ v) (h2 : v < 128) (hr : Rc sg (U.1 18 0 0) v) : Ivt sg B T (si U 12 0 0 i (nI v)) := Ivt.mk
  (hB := h.hB)
  (hB1 := h.hB1)
  (hB2 := h.hB2)
  (hT := h.hT)
  (hT2 := h.hT2)
  (par0 := h.par0)
  (par := h.par)
  (vw0 := h.vw0)
  (vw := h.vw)
  (car := h.car)
  (fr := h.fr)
  (to := h.to)
  (view := fun i' hi' => by
    rw [si_i]
    by_cases c : i' = i
    · rw [if_pos ⟨rfl, rfl, rfl, c⟩]
      exact ⟨v, h1, h2, rfl, hr⟩
    · rw [if_neg (fun z => c z.2.2.2)]
      exact h.view i' hi')
  (span := h.span)
  (high := h.high)
  (locked := h.locked)
  (voted := h.voted)
  (used := h.used)
  (has0 := h.has0)
  (hasB := h.hasB)
  (hasV := h.hasV)
  (votes := h.votes)
  (votesB := h.votesB)
  (votesM := h.votesM)
  (touts := h.touts)
  (toutsM := h.toutsM)
  (pooled := h.pooled)
  (pool := h.pool)
  (poolD := h.poolD)
  (logged := h.logged)
  (log0 := h.log0)
  (log := h.log)
  (logP := h.logP)
  (fly := h.fly)
  (msgs := h.msgs)
theorem Ivt.w14 {sg : Nat → Nat} {B T : Nat} {U : St} (h : Ivt sg B T U) {i s : Nat} (h1 : s ≤ 24) : Ivt sg B T (si U 14 0 0 i (nI s)) := Ivt.mk
  (hB := h.hB)
  (hB1 := h.hB1)
  (hB2 := h.hB2)
  (hT := h.hT)
  (hT2 := h.hT2)
  (par0 := h.par0)
  (par := h.par)
  (vw0 := h.vw0)
  (vw := h.vw)
  (car := h.car)
  (fr := h.fr)
  (to := h.to)
  (view := h.view)
  (span := fun i' hi' => by
    rw [si_i]
    by_cases c : i' = i
    · rw [if_pos ⟨rfl, rfl, rfl, c⟩]
      exact ⟨s, h1, rfl⟩
    · rw [if_neg (fun z => c z.2.2.2)]
      exact h.span i' hi')
  (high := h.high)
  (locked := h.locked)
  (voted := h.voted)
  (used := h.used)
  (has0 := h.has0)
  (hasB := h.hasB)
  (hasV := h.hasV)
  (votes := h.votes)
  (votesB := h.votesB)
  (votesM := h.votesM)
  (touts := h.touts)
  (toutsM := h.toutsM)
  (pooled := h.pooled)
  (pool := h.pool)
  (poolD := h.poolD)
  (logged := h.logged)
  (log0 := h.log0)
  (log := h.log)
  (logP := h.logP)
  (fly := h.fly)
  (msgs := h.msgs)
theorem Ivt.w15 {sg : Nat → Nat} {B T : Nat} {U : St} (h : Ivt sg B T U) {i b : Nat} (h1 : b < B) : Ivt sg B T (si U 15 0 0 i (nI b)) := Ivt.mk
  (hB := h.hB)
  (hB1 := h.hB1)
  (hB2 := h.hB2)
  (hT := h.hT)
  (hT2 := h.hT2)
  (par0 := h.par0)
  (par := h.par)
  (vw0 := h.vw0)
  (vw := h.vw)
  (car := h.car)
  (fr := h.fr)
  (to := h.to)
  (view := h.view)
  (span := h.span)
  (high := fun i' hi' => by
    rw [si_i]
    by_cases c : i' = i
    · rw [if_pos ⟨rfl, rfl, rfl, c⟩]
      exact ⟨b, h1, rfl⟩
    · rw [if_neg (fun z => c z.2.2.2)]
      exact h.high i' hi')
  (locked := h.locked)
  (voted := h.voted)
  (used := h.used)
  (has0 := h.has0)
  (hasB := h.hasB)
  (hasV := h.hasV)
  (votes := h.votes)
  (votesB := h.votesB)
  (votesM := h.votesM)
  (touts := h.touts)
  (toutsM := h.toutsM)
  (pooled := h.pooled)
  (pool := h.pool)
  (poolD := h.poolD)
  (logged := h.logged)
  (log0 := h.log0)
  (log := h.log)
  (logP := h.logP)
  (fly := h.fly)
  (msgs := h.msgs)
theorem Ivt.w17 {sg : Nat → Nat} {B T : Nat} {U : St} (h : Ivt sg B T U) {i b : Nat} (h1 : b < B) : Ivt sg B T (si U 17 0 0 i (nI b)) := Ivt.mk
  (hB := h.hB)
  (hB1 := h.hB1)
  (hB2 := h.hB2)
  (hT := h.hT)
  (hT2 := h.hT2)
  (par0 := h.par0)
  (par := h.par)
  (vw0 := h.vw0)
  (vw := h.vw)
  (car := h.car)
  (fr := h.fr)
  (to := h.to)
  (view := h.view)
  (span := h.span)
  (high := h.high)
  (locked := fun i' hi' => by
    rw [si_i]
    by_cases c : i' = i
    · rw [if_pos ⟨rfl, rfl, rfl, c⟩]
      exact ⟨b, h1, rfl⟩
    · rw [if_neg (fun z => c z.2.2.2)]
      exact h.locked i' hi')
  (voted := h.voted)
  (used := h.used)
  (has0 := h.has0)
  (hasB := h.hasB)
  (hasV := h.hasV)
  (votes := h.votes)
  (votesB := h.votesB)
  (votesM := h.votesM)
  (touts := h.touts)
  (toutsM := h.toutsM)
  (pooled := h.pooled)
  (pool := h.pool)
  (poolD := h.poolD)
  (logged := h.logged)
  (log0 := h.log0)
  (log := h.log)
  (logP := h.logP)
  (fly := h.fly)
  (msgs := h.msgs)
theorem Ivt.w16 {sg : Nat → Nat} {B T : Nat} {U : St} (h : Ivt sg B T U) {i v : Nat} (h2 : v < 128) (hr : Rc sg (U.1 18 0 0) v) : Ivt sg B T (si U 16 0 0 i (nI v)) := Ivt.mk
  (hB := h.hB)
  (hB1 := h.hB1)
  (hB2 := h.hB2)
  (hT := h.hT)
  (hT2 := h.hT2)
  (par0 := h.par0)
  (par := h.par)
  (vw0 := h.vw0)
  (vw := h.vw)
  (car := h.car)
  (fr := h.fr)
  (to := h.to)
  (view := h.view)
  (span := h.span)
  (high := h.high)
  (locked := h.locked)
  (voted := fun i' hi' => by
    rw [si_i]
    by_cases c : i' = i
    · rw [if_pos ⟨rfl, rfl, rfl, c⟩]
      exact ⟨v, h2, rfl, hr⟩
    · rw [if_neg (fun z => c z.2.2.2)]
      exact h.voted i' hi')
  (used := h.used)
  (has0 := h.has0)
  (hasB := h.hasB)
  (hasV := h.hasV)
  (votes := h.votes)
  (votesB := h.votesB)
  (votesM := h.votesM)
  (touts := h.touts)
  (toutsM := h.toutsM)
  (pooled := h.pooled)
  (pool := h.pool)
  (poolD := h.poolD)
  (logged := h.logged)
  (log0 := h.log0)
  (log := h.log)
  (logP := h.logP)
  (fly := h.fly)
  (msgs := h.msgs)
theorem Ivt.w10 {sg : Nat → Nat} {B T : Nat} {U : St} (h : Ivt sg B T U) (x : Nat) (w : Int32) : Ivt sg B T (si U 10 0 0 x w) := Ivt.mk
  (hB := h.hB)
  (hB1 := h.hB1)
  (hB2 := h.hB2)
  (hT := h.hT)
  (hT2 := h.hT2)
  (par0 := h.par0)
  (par := h.par)
  (vw0 := h.vw0)
  (vw := h.vw)
  (car := h.car)
  (fr := h.fr)
  (to := h.to)
  (view := h.view)
  (span := h.span)
  (high := h.high)
  (locked := h.locked)
  (voted := h.voted)
  (used := h.used)
  (has0 := h.has0)
  (hasB := h.hasB)
  (hasV := h.hasV)
  (votes := h.votes)
  (votesB := h.votesB)
  (votesM := h.votesM)
  (touts := h.touts)
  (toutsM := h.toutsM)
  (pooled := h.pooled)
  (pool := h.pool)
  (poolD := h.poolD)
  (logged := h.logged)
  (log0 := h.log0)
  (log := h.log)
  (logP := h.logP)
  (fly := h.fly)
  (msgs := h.msgs)
theorem Ivt.w11 {sg : Nat → Nat} {B T : Nat} {U : St} (h : Ivt sg B T U) (x : Nat) (w : Int32) : Ivt sg B T (si U 11 0 0 x w) := Ivt.mk
  (hB := h.hB)
  (hB1 := h.hB1)
  (hB2 := h.hB2)
  (hT := h.hT)
  (hT2 := h.hT2)
  (par0 := h.par0)
  (par := h.par)
  (vw0 := h.vw0)
  (vw := h.vw)
  (car := h.car)
  (fr := h.fr)
  (to := h.to)
  (view := h.view)
  (span := h.span)
  (high := h.high)
  (locked := h.locked)
  (voted := h.voted)
  (used := h.used)
  (has0 := h.has0)
  (hasB := h.hasB)
  (hasV := h.hasV)
  (votes := h.votes)
  (votesB := h.votesB)
  (votesM := h.votesM)
  (touts := h.touts)
  (toutsM := h.toutsM)
  (pooled := h.pooled)
  (pool := h.pool)
  (poolD := h.poolD)
  (logged := h.logged)
  (log0 := h.log0)
  (log := h.log)
  (logP := h.logP)
  (fly := h.fly)
  (msgs := h.msgs)
theorem Ivt.w13 {sg : Nat → Nat} {B T : Nat} {U : St} (h : Ivt sg B T U) (x : Nat) (w : Int32) : Ivt sg B T (si U 13 0 0 x w) := Ivt.mk
  (hB := h.hB)
  (hB1 := h.hB1)
  (hB2 := h.hB2)
  (hT := h.hT)
  (hT2 := h.hT2)
  (par0 := h.par0)
  (par := h.par)
  (vw0 := h.vw0)
  (vw := h.vw)
  (car := h.car)
  (fr := h.fr)
  (to := h.to)
  (view := h.view)
  (span := h.span)
  (high := h.high)
  (locked := h.locked)
  (voted := h.voted)
  (used := h.used)
  (has0 := h.has0)
  (hasB := h.hasB)
  (hasV := h.hasV)
  (votes := h.votes)
  (votesB := h.votesB)
  (votesM := h.votesM)
  (touts := h.touts)
  (toutsM := h.toutsM)
  (pooled := h.pooled)
  (pool := h.pool)
  (poolD := h.poolD)
  (logged := h.logged)
  (log0 := h.log0)
  (log := h.log)
  (logP := h.logP)
  (fly := h.fly)
  (msgs := h.msgs)
theorem Ivt.w26 {sg : Nat → Nat} {B T : Nat} {U : St} (h : Ivt sg B T U) (x : Nat) (w : Int32) : Ivt sg B T (si U 26 0 0 x w) := Ivt.mk
  (hB := h.hB)
  (hB1 := h.hB1)
  (hB2 := h.hB2)
  (hT := h.hT)
  (hT2 := h.hT2)
  (par0 := h.par0)
  (par := h.par)
  (vw0 := h.vw0)
  (vw := h.vw)
  (car := h.car)
  (fr := h.fr)
  (to := h.to)
  (view := h.view)
  (span := h.span)
  (high := h.high)
  (locked := h.locked)
  (voted := h.voted)
  (used := h.used)
  (has0 := h.has0)
  (hasB := h.hasB)
  (hasV := h.hasV)
  (votes := h.votes)
  (votesB := h.votesB)
  (votesM := h.votesM)
  (touts := h.touts)
  (toutsM := h.toutsM)
  (pooled := h.pooled)
  (pool := h.pool)
  (poolD := h.poolD)
  (logged := h.logged)
  (log0 := h.log0)
  (log := h.log)
  (logP := h.logP)
  (fly := h.fly)
  (msgs := h.msgs)
theorem Ivt.w27 {sg : Nat → Nat} {B T : Nat} {U : St} (h : Ivt sg B T U) (x : Nat) (w : Int32) : Ivt sg B T (si U 27 0 0 x w) := Ivt.mk
  (hB := h.hB)
  (hB1 := h.hB1)
  (hB2 := h.hB2)
  (hT := h.hT)
  (hT2 := h.hT2)
  (par0 := h.par0)
  (par := h.par)
  (vw0 := h.vw0)
  (vw := h.vw)
  (car := h.car)
  (fr := h.fr)
  (to := h.to)
  (view := h.view)
  (span := h.span)
  (high := h.high)
  (locked := h.locked)
  (voted := h.voted)
  (used := h.used)
  (has0 := h.has0)
  (hasB := h.hasB)
  (hasV := h.hasV)
  (votes := h.votes)
  (votesB := h.votesB)
  (votesM := h.votesM)
  (touts := h.touts)
  (toutsM := h.toutsM)
  (pooled := h.pooled)
  (pool := h.pool)
  (poolD := h.poolD)
  (logged := h.logged)
  (log0 := h.log0)
  (log := h.log)
  (logP := h.logP)
  (fly := h.fly)
  (msgs := h.msgs)
theorem Ivt.w1c {sg : Nat → Nat} {B T : Nat} {U : St} (h : Ivt sg B T U) (w : Int32) : Ivt sg B T (si U 1 0 0 2 w) := Ivt.mk
  (hB := h.hB)
  (hB1 := h.hB1)
  (hB2 := h.hB2)
  (hT := h.hT)
  (hT2 := h.hT2)
  (par0 := h.par0)
  (par := h.par)
  (vw0 := h.vw0)
  (vw := h.vw)
  (car := h.car)
  (fr := h.fr)
  (to := h.to)
  (view := h.view)
  (span := h.span)
  (high := h.high)
  (locked := h.locked)
  (voted := h.voted)
  (used := h.used)
  (has0 := h.has0)
  (hasB := h.hasB)
  (hasV := h.hasV)
  (votes := h.votes)
  (votesB := h.votesB)
  (votesM := h.votesM)
  (touts := h.touts)
  (toutsM := h.toutsM)
  (pooled := h.pooled)
  (pool := h.pool)
  (poolD := h.poolD)
  (logged := h.logged)
  (log0 := h.log0)
  (log := h.log)
  (logP := h.logP)
  (fly := h.fly)
  (msgs := h.msgs)
theorem Ivt.w1b {sg : Nat → Nat} {B T : Nat} {U : St} (h : Ivt sg B T U) (w : Int32) : Ivt sg B T (si U 1 0 0 3 w) := Ivt.mk
  (hB := h.hB)
  (hB1 := h.hB1)
  (hB2 := h.hB2)
  (hT := h.hT)
  (hT2 := h.hT2)
  (par0 := h.par0)
  (par := h.par)
  (vw0 := h.vw0)
  (vw := h.vw)
  (car := h.car)
  (fr := h.fr)
  (to := h.to)
  (view := h.view)
  (span := h.span)
  (high := h.high)
  (locked := h.locked)
  (voted := h.voted)
  (used := h.used)
  (has0 := h.has0)
  (hasB := h.hasB)
  (hasV := h.hasV)
  (votes := h.votes)
  (votesB := h.votesB)
  (votesM := h.votesM)
  (touts := h.touts)
  (toutsM := h.toutsM)
  (pooled := h.pooled)
  (pool := h.pool)
  (poolD := h.poolD)
  (logged := h.logged)
  (log0 := h.log0)
  (log := h.log)
  (logP := h.logP)
  (fly := h.fly)
  (msgs := h.msgs)
theorem J.w {sd : Int32} {sg : Nat → Nat} {B T : Nat} {ak : Int32} {S U : St} (h : J sd sg B T ak S U) {k i j x k' y : Nat} (hm : Mp k i j x k' y) (v : Int32) (hv : Ivt sg B T (si U k' 0 0 y v)) (h19 : k' ≠ 19 := by decide) (h28 : k' ≠ 28 := by decide) : J sd sg B T ak (si S k i j x v) (si U k' 0 0 y v) :=
  J.mk (h.r.w hm h19 h28 v) hv (by
    rw [si_i, if_neg (fun z => hm.nt.2.1 z.1.symm)]
    exact h.a) (by
    rw [si_i, if_neg (fun z => hm.nt.2.2.2.2.2 ⟨z.1.symm, Or.inl z.2.2.2.symm⟩)]
    exact h.t)
theorem J.scr {sd : Int32} {sg : Nat → Nat} {B T : Nat} {ak : Int32} {S U U' : St} (h : J sd sg B T ak S U) (g : Scr U U') : J sd sg B T ak S U' := J.mk (g.rel h.r) (g.ivt h.v) h.a ((g.i 1 1 (by decide) (by decide)).trans h.t)
def upn (f : Nat → Nat) (k x : Nat) : Nat → Nat := fun j => if j = k then x else f j
theorem Mk.mono {sg : Nat → Nat} {us : Nat → Int32} {i u w0 s w : Nat} (hu : us i = nI u) (hu32 : u < 32) (hs : s < 4) (hus : ∃ n, n ≤ 32 ∧ us s = nI n) (h : Mk sg us s w) : Mk (upn sg (32 * i + u) w0) (upd us i (nI (u + 1))) s w := by
  obtain ⟨k, hk, e⟩ := h
  obtain ⟨n, hn, en⟩ := hus
  rw [en, nI_clamp (by omega)] at hk
  refine ⟨k, ?_, ?_⟩
  · unfold upd
    by_cases c : s = i
    · rw [if_pos c, nI_clamp (by omega)]
      rw [c, hu] at en
      have := (nI_eq (by omega) (by omega)).mp en
      omega
    · rw [if_neg c, en, nI_clamp (by omega)]
      exact hk
  · unfold upn
    rw [if_neg ?_]
    · exact e
    · intro q
      by_cases c : s = i
      · rw [c, hu] at en
        have := (nI_eq (by omega) (by omega)).mp en
        omega
      · omega
theorem Mk.new {sg : Nat → Nat} {us : Nat → Int32} {i u w0 : Nat} (hu32 : u < 32) : Mk (upn sg (32 * i + u) w0) (upd us i (nI (u + 1))) i w0 := by
  refine ⟨u, ?_, ?_⟩
  · unfold upd
    rw [if_pos rfl, nI_clamp (by omega)]
    omega
  · unfold upn
    rw [if_pos rfl]
theorem Rc.mono {sg : Nat → Nat} {us : Nat → Int32} {i u w0 v : Nat} (hu : us i = nI u) (hu32 : u < 32) (hus : ∀ s, s < 4 → ∃ n, n ≤ 32 ∧ us s = nI n) (h : Rc sg us v) : Rc (upn sg (32 * i + u) w0) (upd us i (nI (u + 1))) v := by
  intro w h60 hw
  obtain ⟨a, b, c, h1, h2, h3, m1, m2, m3⟩ := h w h60 hw
  exact ⟨a, b, c, h1, h2, h3, m1.mono hu hu32 (by omega) (hus a (by omega)), m2.mono hu hu32 (by omega) (hus b (by omega)), m3.mono hu hu32 (by omega) (hus c (by omega))⟩
theorem MsgOk.mono {sg : Nat → Nat} {B : Nat} {us vw : Nat → Int32} {i u w0 : Nat} {kd se bk vi ke : Int32} (hu : us i = nI u) (hu32 : u < 32) (hus : ∀ s, s < 4 → ∃ n, n ≤ 32 ∧ us s = nI n) (h : MsgOk sg B us vw kd se bk vi ke) : MsgOk (upn sg (32 * i + u) w0) B (upd us i (nI (u + 1))) vw kd se bk vi ke := by
  obtain ⟨s, hs, es⟩ := h.sender
  have e4 : se.toNatClampNeg < 4 := by
    rw [es, nI_clamp (by omega)]
    exact hs
  exact (MsgOk.mk (kind := h.kind) (sender := h.sender) (block := h.block) (view := h.view) (key := h.key) (nokey := h.nokey) (vote := fun q => (h.vote q).mono hu hu32 e4 (hus _ e4)) (tout := fun q => ⟨(h.tout q).1.mono hu hu32 e4 (hus _ e4), (h.tout q).2.1, (h.tout q).2.2.mono hu hu32 hus⟩))
theorem si_k (U : St) (k x : Nat) (v : Int32) : (si U k 0 0 x v).1 k 0 0 = upd (U.1 k 0 0) x v := by
  funext y
  rw [si_i]
  unfold upd
  by_cases c : y = x
  · rw [if_pos ⟨rfl, rfl, rfl, c⟩, if_pos c]
  · rw [if_neg (fun z => c z.2.2.2), if_neg c]
theorem Ivt.w18 {sg : Nat → Nat} {B T : Nat} {U : St} (h : Ivt sg B T U) {i u : Nat} (w0 : Nat) (hi : i < 4) (hu32 : u < 32) (hu : U.1 18 0 0 i = nI u) : Ivt (upn sg (32 * i + u) w0) B T (si U 18 0 0 i (nI (u + 1))) := by
  have hus := h.used
  exact (Ivt.mk (hB := h.hB) (hB1 := h.hB1) (hB2 := h.hB2) (hT := h.hT) (hT2 := h.hT2) (par0 := h.par0) (par := h.par) (vw0 := h.vw0) (vw := fun b h0 hb => by
      obtain ⟨v, h1, h2, e, r⟩ := h.vw b h0 hb
      rw [si_k]
      exact ⟨v, h1, h2, e, r.mono hu hu32 hus⟩) (car := h.car) (fr := h.fr) (to := h.to) (view := fun b hb => by
      obtain ⟨v, h1, h2, e, r⟩ := h.view b hb
      rw [si_k]
      exact ⟨v, h1, h2, e, r.mono hu hu32 hus⟩) (span := h.span) (high := h.high) (locked := h.locked) (voted := fun b hb => by
      obtain ⟨v, h1, e, r⟩ := h.voted b hb
      rw [si_k]
      exact ⟨v, h1, e, r.mono hu hu32 hus⟩) (used := fun i' hi' => by
      rw [si_k]
      unfold upd
      by_cases c : i' = i
      · rw [if_pos c]
        exact ⟨u + 1, by omega, rfl⟩
      · rw [if_neg c]
        exact hus i' hi') (has0 := h.has0) (hasB := h.hasB) (hasV := h.hasV) (votes := h.votes) (votesB := h.votesB) (votesM := fun i' hi' b hb s hs q => by
      rw [si_k]
      exact (h.votesM i' hi' b hb s hs q).mono hu hu32 hs (hus s hs)) (touts := h.touts) (toutsM := fun i' hi' b hb s hs q => by
      rw [si_k]
      exact (h.toutsM i' hi' b hb s hs q).mono hu hu32 hs (hus s hs)) (pooled := h.pooled) (pool := h.pool) (poolD := h.poolD) (logged := h.logged) (log0 := h.log0) (log := h.log) (logP := h.logP) (fly := h.fly) (msgs := fun i' hi' k hk hf => by
      rw [si_k]
      exact (h.msgs i' hi' k hk hf).mono hu hu32 hus))
theorem EqL.scs {S V : St} (h : EqL S V) : ScS S V := ⟨fun k i j x _ => by rw [h.i], fun k i j x a => h.l k i j x (fun q => a ⟨q.1, q.2.1⟩), h.p⟩
theorem q_write_scs (a b c d : Int32) (S : St) : ScS S (f_Message_write 4 0 a b c d S) := by
  have w := q_write 4 0 a b c d S
  refine ⟨fun k i j x q => ?_, fun k i j x _ => ?_, ?_⟩
  · rw [w.1, if_neg (fun z => q ⟨z.1, z.2.1⟩)]
  · rw [w.2]
  · rw [w.2]
theorem nrw_1 : narrow .boolean (.int 1) = .int 1 := rfl
theorem nrw_0 : narrow .boolean (.int 0) = .int 0 := rfl
/-- signing, both sides; w0: what the key is booked for -/
theorem j_sign {sd : Int32} {sg : Nat → Nat} {B T : Nat} {ak : Int32} {S U : St} (h : J sd sg B T ak S U) {i u : Nat} (hi : i < 4) (hu32 : u < 32) (hu : U.1 18 0 0 i = nI u) (k b v : Int32) (hk : k ≤ 3) (w0 : Nat) (z : Int64) : ∃ S' U', f_QC_writeSigned i k b v S = (1, S') ∧ f_M_signs (nI i) (mean k v b) (fo U z) = (1, U') ∧ J sd (upn sg (32 * i + u) w0) B T ak S' U' ∧ Dr S' U' k (nI i) b v ∧ U'.1 1 0 0 40 = nI u ∧ (∀ k', k' ≠ 1 → k' ≠ 18 → k' ≠ 36 → U'.1 k' 0 0 = U.1 k' 0 0) ∧ U'.1 18 0 0 = upd (U.1 18 0 0) i (nI (u + 1)) ∧ ok_QC_writeSigned i k b v S ∧ ok_M_signs (nI i) (mean k v b) (fo U z) := by
  have eid := h.r.id i hi
  have w := q_write 4 0 k (nI i) b v S
  have wsc := q_write_scs k (nI i) b v S
  have r1 := wsc.rel h.r
  have ews : ∀ x, (f_Message_write 4 0 k (nI i) b v S).1 10 i 0 x = S.1 10 i 0 x := fun x => by rw [w.1, if_neg (fun q => by omega)]
  obtain ⟨V, e1, a1, s1, o1⟩ := q_sign (f_Message_write 4 0 k (nI i) b v S) sd i u hi hu32 (r1.se i hi) (r1.ow i hi) ((r1.m (Mp.used hi)).trans hu)
  obtain ⟨U', e2, sc, k40, s2, o2⟩ := m_sign (fo U z) i u hi hu32 (mean k v b) hu
  have wf : ∀ f, 1 ≤ f → f ≤ 5 → (f_Message_write 4 0 k (nI i) b v S).1 14 4 0 f = fld k (nI i) b v (-1) f := fun f p q => by rw [w.1, if_pos ⟨rfl, rfl, rfl, p, q⟩]
  rw [wf 1 (by decide) (by decide), wf 4 (by decide) (by decide), wf 3 (by decide) (by decide)] at s1
  have ewr : f_QC_writeSigned i k b v S = (1, V) := by
    unfold f_QC_writeSigned
    rw [eid, lt, lt, e1]
  have eok : ok_QC_writeSigned i k b v S := by
    unfold ok_QC_writeSigned
    rw [eid, lt, lt, e1]
    exact ⟨o1, nrw_1, trivial⟩
  generalize f_Message_write 4 0 k (nI i) b v S = W at *
  have rW : Rel sd (si W 14 4 0 5 (nI u)) (fo U z) := (Scr.ff U z).rel ((ScS.wi W 0 5 (nI u)).rel r1)
  have rW2 : Rel sd (si (si W 14 4 0 5 (nI u)) 10 i 0 3 (nI (u + 1))) (si (fo U z) 18 0 0 i (nI (u + 1))) := rW.w (Mp.used hi) (by decide) (by decide) _
  have rV : Rel sd V U' := sc.rel (a1.scs.rel rW2)
  have iv : Ivt (upn sg (32 * i + u) w0) B T U' := sc.ivt (((Scr.ff U z).ivt h.v).w18 w0 hi hu32 hu)
  have dV : ∀ x, x ≠ 5 → V.1 14 4 0 x = W.1 14 4 0 x := fun x hx => by
    rw [a1.i, si_i, if_neg (fun q => by omega), si_i, if_neg (fun q => hx q.2.2.2)]
  refine ⟨V, U', ewr, e2, J.mk rV iv ?_ ((sc.i 1 1 (by decide) (by decide)).trans h.t), ⟨?_, ?_, ?_, ?_, ?_, ?_⟩, k40, fun k' n1 n18 n36 => ?_, ?_, eok, o2⟩
  · rw [a1.i, si_i, if_neg (fun q => by omega), si_i, if_neg (fun q => by omega), w.1, if_neg (fun q => by omega)]
    exact h.a
  · rw [dV 1 (by decide), wf 1 (by decide) (by decide)]
    rfl
  · rw [dV 2 (by decide), wf 2 (by decide) (by decide)]
    rfl
  · rw [dV 3 (by decide), wf 3 (by decide) (by decide)]
    rfl
  · rw [dV 4 (by decide), wf 4 (by decide) (by decide)]
    rfl
  · rw [if_pos hk, k40, a1.i, si_i, if_neg (fun q => by omega), si_rd]
  · intro _ l hl
    rw [s1 l hl, s2 l hl]
    have us : (fo U z).2.1 1 0 0 0 = sd.toInt64 := by
      rw [fo_l _ _ _ _ (by decide)]
      exact h.r.us
    rw [us]
    unfold sigF
    by_cases h6 : l < 6
    · rw [if_pos h6, if_pos h6]
      rfl
    · rw [if_neg h6, if_neg h6]
      have sb : sib ((32 + u) / 2 ^ (l - 6)) < 64 := sib_lt (Nat.lt_of_le_of_lt (Nat.div_le_self _ _) (by omega))
      show W.2.1 11 i 0 _ = (fo U z).2.1 2 0 0 _
      rw [fo_l _ _ _ _ (by omega)]
      exact r1.tr i hi _ sb
  · rw [sc.k k' n1 n36]
    funext y
    rw [si_i, if_neg (fun q => n18 q.1)]
    rfl
  · rw [sc.k 18, si_k]
    rfl
theorem j_sign0 {sd : Int32} {sg : Nat → Nat} {B T : Nat} {ak : Int32} {S U : St} (h : J sd sg B T ak S U) {i : Nat} (hi : i < 4) (hu : U.1 18 0 0 i = nI 32) (k b v : Int32) (z : Int64) : ∃ S', f_QC_writeSigned i k b v S = (0, S') ∧ f_M_signs (nI i) (mean k v b) (fo U z) = (0, fo U z) ∧ J sd sg B T ak S' (fo U z) ∧ ok_QC_writeSigned i k b v S ∧ ok_M_signs (nI i) (mean k v b) (fo U z) := by
  have eid := h.r.id i hi
  have w := q_write 4 0 k (nI i) b v S
  have wsc := q_write_scs k (nI i) b v S
  have r1 := wsc.rel h.r
  have q := q_sign0 (f_Message_write 4 0 k (nI i) b v S) i ((r1.m (Mp.used hi)).trans hu)
  have m := m_sign0 (fo U z) i hi (mean k v b) hu
  refine ⟨f_Message_write 4 0 k (nI i) b v S, ?_, m.1, J.mk ((Scr.ff U z).rel r1) ((Scr.ff U z).ivt h.v) ?_ h.t, ?_, m.2⟩
  · unfold f_QC_writeSigned
    rw [eid, lt, lt, q.1]
  · rw [w.1, if_neg (fun q => by omega)]
    exact h.a
  · unfold ok_QC_writeSigned
    rw [eid, lt, lt, q.1]
    exact ⟨q.2, nrw_0, trivial⟩
/-! Sending to all; the clock. -/
theorem lit4n {j : Nat} (h : j < 4) : ¬ (4 : Int32) ≤ nI j := fun q => by
  have := (nI_leI (a := 4) (b := j) (by omega) (by omega)).mp q
  omega
theorem q_isNode {i : Nat} (hi : i < 4) (S : St) : f_QC_isNode (nI i) S = 1 := by
  unfold f_QC_isNode
  rw [if_neg (nI_pos (by omega)), if_neg (lit4n hi)]
theorem j_all1 {sd : Int32} {sg : Nat → Nat} {B T : Nat} {ak : Int32} {s b : Int32} (n : Nat) : ∀ (m j : Nat) (S U : St), j ≤ 4 → 4 - j < n → 4 - j < m → J sd sg B T ak S U → Dr S U 1 s b 0 → MsgOk sg B (U.1 18 0 0) (U.1 7 0 0) 1 s b 0 (U.1 1 0 0 40) → J sd sg B T ak (f_QC_sendDraftToAll_2 n S (nI j)) (f_M_propose_112 s m U b (nI j)) ∧ ok_QC_sendDraftToAll_2 n S (nI j) ∧ ok_M_propose_112 s m U b (nI j) := by
  induction n with
  | zero => exact fun m j S U _ h => absurd h (Nat.not_lt_zero _)
  | succ n ih =>
    intro m j S U hj hn hm h d ms
    obtain ⟨m, rfl⟩ : ∃ m', m = m' + 1 := ⟨m - 1, by omega⟩
    rw [f_QC_sendDraftToAll_2, f_M_propose_112, ok_QC_sendDraftToAll_2, ok_M_propose_112]
    by_cases h4 : j = 4
    · subst h4
      rw [if_pos (by decide), if_pos (by decide)]
      exact ⟨h, ⟨fun _ => trivial, fun q => absurd (by decide) q⟩, ⟨fun _ => trivial, fun q => absurd (by decide) q⟩⟩
    · have c := lit4n (j := j) (by omega)
      have g := j_send h (i := j) (by omega) d (by rw [if_pos (by decide)]; exact ms)
      rw [if_neg c, if_neg c, lt, lt, lt, lt, nI_clamp (by omega), nI_s]
      have k := ih m (j + 1) _ _ (by omega) (by omega) (by omega) g.1 g.2.1 (by
        rw [g.2.2.1 18 (by decide), g.2.2.1 7 (by decide), g.2.2.1 1 (by decide)]
        exact ms)
      exact ⟨k.1, ⟨fun q => absurd q c, fun _ => ⟨vp_in_nI (by omega) (by decide), g.2.2.2.1, k.2.1⟩⟩, ⟨fun q => absurd q c, fun _ => ⟨g.2.2.2.2, k.2.2⟩⟩⟩
theorem j_all3 {sd : Int32} {sg : Nat → Nat} {B T : Nat} {ak : Int32} {i : Nat} (hi : i < 4) (n : Nat) : ∀ (m j : Nat) (S U : St), j ≤ 4 → 4 - j < n → 4 - j < m → J sd sg B T ak S U → Dr S U 3 (nI i) (U.1 15 0 0 i) (U.1 12 0 0 i) → MsgOk sg B (U.1 18 0 0) (U.1 7 0 0) 3 (nI i) (U.1 15 0 0 i) (U.1 12 0 0 i) (U.1 1 0 0 40) → ∃ U', f_M_beats_83 (nI i) m U (nI j) = f_M_beats_113 (nI i) U' ∧ J sd sg B T ak (f_QC_sendDraftToAll_2 n S (nI j)) U' ∧ ok_QC_sendDraftToAll_2 n S (nI j) ∧ (ok_M_beats_113 (nI i) U' → ok_M_beats_83 (nI i) m U (nI j)) := by
  induction n with
  | zero => exact fun m j S U _ h => absurd h (Nat.not_lt_zero _)
  | succ n ih =>
    intro m j S U hj hn hm h d ms
    obtain ⟨m, rfl⟩ : ∃ m', m = m' + 1 := ⟨m - 1, by omega⟩
    have i4 : vp_in (nI i) 4 := vp_in_nI hi (by decide)
    rw [f_QC_sendDraftToAll_2, f_M_beats_83, ok_QC_sendDraftToAll_2, ok_M_beats_83]
    by_cases h4 : j = 4
    · subst h4
      rw [if_pos (by decide), if_pos (by decide)]
      exact ⟨U, rfl, h, ⟨fun _ => trivial, fun q => absurd (by decide) q⟩, fun o => ⟨fun _ => o, fun q => absurd (by decide) q⟩⟩
    · have c := lit4n (j := j) (by omega)
      have g := j_send h (i := j) (by omega) d (by rw [if_pos (by decide)]; exact ms)
      rw [if_neg c, if_neg c, lt, lt, lt, lt, nI_clamp (by omega : j < 2 ^ 31), nI_clamp (by omega : i < 2 ^ 31), nI_s]
      obtain ⟨U', e, a, b, o⟩ := ih m (j + 1) _ _ (by omega) (by omega) (by omega) g.1 (by
        rw [g.2.2.1 15 (by decide), g.2.2.1 12 (by decide)]
        exact g.2.1) (by
        rw [g.2.2.1 18 (by decide), g.2.2.1 7 (by decide), g.2.2.1 1 (by decide), g.2.2.1 15 (by decide), g.2.2.1 12 (by decide)]
        exact ms)
      exact ⟨U', e, a, ⟨fun q => absurd q c, fun _ => ⟨vp_in_nI (by omega) (by decide), g.2.2.2.1, b⟩⟩, fun z => ⟨fun q => absurd q c, fun _ => ⟨i4, i4, g.2.2.2.2, o z⟩⟩⟩
theorem J.e {sd : Int32} {sg : Nat → Nat} {B T : Nat} {ak : Int32} {S U : St} (h : J sd sg B T ak S U) {k i j x k' y : Nat} (hm : Mp k i j x k' y) : S.1 k i j x = U.1 k' 0 0 y := h.r.m hm
theorem j_span {sd : Int32} {sg : Nat → Nat} {B T : Nat} {ak : Int32} {S U : St} {i : Nat} (h : J sd sg B T ak S U) (hi : i < 4) : J sd sg B T ak (f_QC_countDown_60 i S) (f_M_beats_113 (nI i) U) ∧ ok_M_beats_113 (nI i) U := by
  have i4 : vp_in (nI i) 4 := vp_in_nI hi (by decide)
  obtain ⟨s, hs, e⟩ := h.v.span i hi
  have eS : S.1 3 i 0 10 = nI s := (h.e (Mp.span hi)).trans e
  have e2 : (2 : Int32) * nI s = nI (2 * s) := nI_m 2 s
  have key : ∀ v, v ≤ 24 → J sd sg B T ak (si (si S 3 i 0 10 (nI v)) 3 i 0 9 (nI v)) (si (si U 14 0 0 i (nI v)) 13 0 0 i (nI v)) := fun v hv =>
    (h.w (Mp.span hi) (nI v) (h.v.w14 hv)).w (Mp.timer hi) (nI v) ((h.v.w14 hv).w13 i (nI v))
  unfold f_QC_countDown_60 f_M_beats_113 ok_M_beats_113
  rw [lt, lt, si_rd, nI_clamp (by omega), eS, e, e2]
  by_cases c : s ≤ 12
  · have c1 : nI s ≤ (12 : Int32) := (nI_leI (a := s) (b := 12) (by omega) (by omega)).mpr c
    have c2 : ¬ (24 : Int32) < nI (2 * s) := fun q => by
      have := (nI_ltI (a := 24) (b := 2 * s) (by omega) (by omega)).mp q
      omega
    rw [if_pos c1, if_neg c2, f_M_beats_142, lt, lt, nI_clamp (by omega), si_rd]
    exact ⟨key (2 * s) (by omega), i4, fun _ => ⟨i4, i4, i4, i4, trivial⟩, fun q => absurd c1 q⟩
  · have c1 : ¬ nI s ≤ (12 : Int32) := fun q => c ((nI_leI (a := s) (b := 12) (by omega) (by omega)).mp q)
    have c2 : (24 : Int32) < nI (2 * s) := (nI_ltI (a := 24) (b := 2 * s) (by omega) (by omega)).mpr (by omega)
    rw [if_neg c1, if_pos c2, f_M_beats_142, lt, lt, nI_clamp (by omega), si_rd]
    exact ⟨key 24 (by omega), i4, fun q => absurd q c1, fun _ => ⟨i4, i4, i4, trivial⟩⟩
theorem m_mean3 (v b : Int32) (U : St) : ∃ z, f_M_meant 3 v b U = (mean 3 v b, fo U z) := m_mean 3 v b U
theorem upd_same (f : Nat → Int32) (k : Nat) (x : Int32) : upd f k x k = x := by
  unfold upd
  rw [if_pos rfl]
theorem j_count {sd : Int32} {sg : Nat → Nat} {B T : Nat} {ak : Int32} {S U : St} {i : Nat} (h : J sd sg B T ak S U) (hi : i < 4) : ∃ sg', J sd sg' B T ak (f_QC_countDown i S) (f_M_beats (nI i) U) ∧ ok_QC_countDown i S ∧ ok_M_beats (nI i) U := by
  have i4 : vp_in (nI i) 4 := vp_in_nI hi (by decide)
  have et := h.e (Mp.timer hi)
  have h1 := h.w (Mp.timer hi) (U.1 13 0 0 i - 1) (h.v.w13 i _)
  unfold f_QC_countDown f_M_beats ok_QC_countDown ok_M_beats
  simp only [lt]
  rw [nI_clamp (by omega), et]
  generalize si S 3 i 0 9 (U.1 13 0 0 i - 1) = S1 at h1 ⊢
  generalize si U 13 0 0 i (U.1 13 0 0 i - 1) = U1 at h1 ⊢
  rw [h1.e (Mp.timer hi)]
  by_cases c : U1.1 13 0 0 i ≤ 0
  · rw [if_pos c, if_pos c]
    obtain ⟨v, hv1, hv2, ev, rv⟩ := h1.v.view i hi
    obtain ⟨w, hw2, ew, rw'⟩ := h1.v.voted i hi
    have evS : S1.1 3 i 0 8 = nI v := (h1.e (Mp.view hi)).trans ev
    have ewS : S1.1 4 i 0 6 = nI w := (h1.e (Mp.voted hi)).trans ew
    obtain ⟨x, hx2, rx, ex1, ex2⟩ : ∃ x, x < 128 ∧ Rc sg (U1.1 18 0 0) x ∧ (if nI w < nI v then nI v else nI w) = nI x ∧ ((nI v ≤ nI w ∧ x = w) ∨ (¬ nI v ≤ nI w ∧ x = v)) := by
      by_cases cw : w < v
      · exact ⟨v, hv2, rv, if_pos ((nI_ltI (by omega) (by omega)).mpr cw), Or.inr ⟨fun q => by
          have := (nI_leI (by omega) (by omega)).mp q
          omega, rfl⟩⟩
      · exact ⟨w, hw2, rw', if_neg (fun q => cw ((nI_ltI (by omega) (by omega)).mp q)), Or.inl ⟨(nI_leI (by omega) (by omega)).mpr (by omega), rfl⟩⟩
    have h2 := h1.w (Mp.voted hi) (nI x) (h1.v.w16 hx2 rx)
    have eb : (if nI v ≤ nI w then f_M_beats_55 (nI i) U1 (nI w) (nI i) else f_M_beats_55 (nI i) U1 (nI v) (nI i)) = f_M_beats_55 (nI i) U1 (nI x) (nI i) := by
      rcases ex2 with ⟨p, q⟩ | ⟨p, q⟩
      · rw [if_pos p, q]
      · rw [if_neg p, q]
    rw [evS, ewS, ev, ew, ex1, eb]
    have ok5 : (P : Prop) → (ok_M_beats_55 (nI i) U1 (nI x) (nI i)) → (vp_in (nI i) 4 ∧ vp_in (nI i) 4 ∧ vp_in (nI i) 4 ∧ (U1.1 13 0 0 i ≤ 0 → vp_in (nI i) 4 ∧ vp_in (nI i) 4 ∧ (nI v ≤ nI w → vp_in (nI i) 4 ∧ ok_M_beats_55 (nI i) U1 (nI w) (nI i)) ∧ (¬ nI v ≤ nI w → vp_in (nI i) 4 ∧ ok_M_beats_55 (nI i) U1 (nI v) (nI i))) ∧ (¬ U1.1 13 0 0 i ≤ 0 → True)) := fun _ o => by
      refine ⟨i4, i4, i4, fun _ => ⟨i4, i4, fun p => ⟨i4, ?_⟩, fun p => ⟨i4, ?_⟩⟩, fun _ => trivial⟩
      · rcases ex2 with ⟨_, q⟩ | ⟨p', _⟩
        · rw [← q]; exact o
        · exact absurd p p'
      · rcases ex2 with ⟨p', _⟩ | ⟨_, q⟩
        · exact absurd p' p
        · rw [← q]; exact o
    have vw2 : (si U1 16 0 0 i (nI x)).1 12 0 0 i = nI v := ev
    have f55 : f_M_beats_55 (nI i) U1 (nI x) (nI i) = lt (f_M_meant 3 ((si U1 16 0 0 i (nI x)).1 12 0 0 i) ((si U1 16 0 0 i (nI x)).1 15 0 0 i) (si U1 16 0 0 i (nI x))) fun r15 => lt (f_M_signs (nI i) r15.1 r15.2) fun r17 => if r17.1 = 0 then f_M_beats_113 (nI i) r17.2 else f_M_beats_83 (nI i) 200 r17.2 0 := by
      unfold f_M_beats_55
      rw [lt, nI_clamp (by omega)]
    have o55 : ok_M_beats_55 (nI i) U1 (nI x) (nI i) = (vp_in (nI i) 4 ∧ vp_in (nI i) 4 ∧ vp_in (nI i) 4 ∧ lt (f_M_meant 3 ((si U1 16 0 0 i (nI x)).1 12 0 0 i) ((si U1 16 0 0 i (nI x)).1 15 0 0 i) (si U1 16 0 0 i (nI x))) fun r15 => ok_M_signs (nI i) r15.1 r15.2 ∧ lt (f_M_signs (nI i) r15.1 r15.2) fun r17 => (r17.1 = 0 → ok_M_beats_113 (nI i) r17.2) ∧ (¬ r17.1 = 0 → ok_M_beats_83 (nI i) 200 r17.2 0)) := by
      unfold ok_M_beats_55
      rw [lt, nI_clamp (by omega)]
    generalize si S1 4 i 0 6 (nI x) = S2 at h2 ⊢
    generalize si U1 16 0 0 i (nI x) = U2 at h2 vw2 f55 o55
    have evS2 : S2.1 3 i 0 8 = nI v := (h2.e (Mp.view hi)).trans vw2
    obtain ⟨b, hb, ehi⟩ := h2.v.high i hi
    have ehS : S2.1 3 i 0 11 = nI b := (h2.e (Mp.high hi)).trans ehi
    obtain ⟨u, hu, eu⟩ := h2.v.used i hi
    obtain ⟨v', hv1', hv2', ev', rv'⟩ := h2.v.view i hi
    have evv : v' = v := (nI_eq (by omega) (by omega)).mp (ev'.symm.trans vw2)
    subst evv
    obtain ⟨z, ez⟩ := m_mean3 (nI v') (nI b) U2
    rw [vw2, ehi, ez, lt, lt] at f55
    rw [vw2, ehi, ez, lt, lt] at o55
    rw [evS2, ehS]
    by_cases hu32 : u = 32
    · subst hu32
      obtain ⟨S3, e1, e2, j3, o1, o2⟩ := j_sign0 h2 hi eu 3 (nI b) (nI v') z
      have sp := j_span j3 hi
      rw [e2, if_pos rfl] at f55
      rw [e2] at o55
      rw [e1, f55, if_pos rfl]
      refine ⟨sg, sp.1, ⟨fun _ => ⟨o1, fun _ => trivial, fun q => absurd rfl q⟩, fun q => absurd c q⟩, ok5 True ?_⟩
      rw [o55]
      exact ⟨i4, i4, i4, o2, fun _ => sp.2, fun q => absurd rfl q⟩
    · obtain ⟨S3, U3, e1, e2, j3, d3, k40, fr, e18, o1, o2⟩ := j_sign h2 hi (u := u) (by omega) eu 3 (nI b) (nI v') (by decide) v' z
      have n10 : ¬ (1 : Int32) = 0 := by decide
      have e15 : U3.1 15 0 0 i = nI b := by rw [fr 15 (by decide) (by decide) (by decide)]; exact ehi
      have e12 : U3.1 12 0 0 i = nI v' := by rw [fr 12 (by decide) (by decide) (by decide)]; exact vw2
      have ms : MsgOk (upn sg (32 * i + u) v') B (U3.1 18 0 0) (U3.1 7 0 0) 3 (nI i) (U3.1 15 0 0 i) (U3.1 12 0 0 i) (U3.1 1 0 0 40) := by
        rw [e15, e12, k40]
        refine ⟨⟨3, by decide, by decide, rfl⟩, ⟨i, hi, rfl⟩, ⟨b, hb, rfl, fun q => absurd rfl q⟩, ⟨v', hv2, rfl⟩, fun _ => ⟨u, by omega, rfl⟩, fun q => absurd (by decide) q, fun q => absurd q (by decide), fun _ => ?_⟩
        rw [nI_clamp (by omega), nI_clamp (by omega), e18]
        exact ⟨Mk.new (by omega), hv1, rv'.mono eu (by omega) h2.v.used⟩
      rw [← e15, ← e12] at d3
      obtain ⟨U4, e4, j4, o4, o5⟩ := j_all3 hi 200 200 0 S3 U3 (by omega) (by omega) (by omega) j3 d3 ms
      have sp := j_span j4 hi
      rw [e2, if_neg n10] at f55
      rw [e2] at o55
      rw [e1, f55, if_neg n10]
      refine ⟨upn sg (32 * i + u) v', ?_, ⟨fun _ => ⟨o1, fun q => absurd q n10, fun _ => ⟨o4, trivial⟩⟩, fun q => absurd c q⟩, ok5 True ?_⟩
      · have := sp.1
        rw [← e4] at this
        exact this
      · rw [o55]
        exact ⟨i4, i4, i4, o2, fun q => absurd q n10, fun _ => o5 sp.2⟩
  · rw [if_neg c, if_neg c]
    exact ⟨sg, h1, ⟨fun q => absurd q c, fun _ => trivial⟩, i4, i4, i4, fun q => absurd q c, fun _ => trivial⟩
theorem j_tick_l {sd : Int32} {B T : Nat} {ak : Int32} (n : Nat) : ∀ (m j : Nat) (sg : Nat → Nat) (S U : St), j ≤ 4 → 4 - j < n → 4 - j < m → J sd sg B T ak S U → ∃ sg' S' U' r, f_QC_tick_12 n S (nI j) = (r, S') ∧ f_M_tick_17 m U (nI j) = (r, U') ∧ J sd sg' B T ak S' U' ∧ ok_QC_tick_12 n S (nI j) ∧ ok_M_tick_17 m U (nI j) := by
  induction n with
  | zero => exact fun m j sg S U _ h => absurd h (Nat.not_lt_zero _)
  | succ n ih =>
    intro m j sg S U hj hn hm h
    obtain ⟨m, rfl⟩ : ∃ m', m = m' + 1 := ⟨m - 1, by omega⟩
    rw [f_QC_tick_12, f_M_tick_17, ok_QC_tick_12, ok_M_tick_17]
    by_cases h4 : j = 4
    · subst h4
      rw [if_pos (by decide), if_pos (by decide), h.e Mp.clock]
      exact ⟨sg, S, U, _, rfl, rfl, h, ⟨fun _ => trivial, fun q => absurd (by decide) q⟩, ⟨fun _ => trivial, fun q => absurd (by decide) q⟩⟩
    · have hj4 : j < 4 := by omega
      have c := lit4n hj4
      have j4 : vp_in (nI j) 4 := vp_in_nI hj4 (by decide)
      rw [if_neg c, if_neg c, nI_clamp (by omega), h.e (Mp.up hj4)]
      by_cases u : U.1 11 0 0 j = 0
      · rw [if_pos u, if_pos u, nI_s]
        obtain ⟨sg', S', U', r, e1, e2, a, o1, o2⟩ := ih m (j + 1) sg S U (by omega) (by omega) (by omega) h
        exact ⟨sg', S', U', r, e1, e2, a, ⟨fun q => absurd q c, fun _ => ⟨j4, fun _ => o1, fun q => absurd u q⟩⟩, ⟨fun q => absurd q c, fun _ => ⟨j4, fun _ => o2, fun q => absurd u q⟩⟩⟩
      · obtain ⟨sg1, j1, p1, p2⟩ := j_count h hj4
        rw [if_neg u, if_neg u, lt, lt, lt, lt, nI_s]
        obtain ⟨sg', S', U', r, e1, e2, a, o1, o2⟩ := ih m (j + 1) sg1 _ _ (by omega) (by omega) (by omega) j1
        exact ⟨sg', S', U', r, e1, e2, a, ⟨fun q => absurd q c, fun _ => ⟨j4, fun q => absurd q u, fun _ => ⟨j4, p1, o1⟩⟩⟩, ⟨fun q => absurd q c, fun _ => ⟨j4, fun q => absurd q u, fun _ => ⟨p2, o2⟩⟩⟩⟩
/-- between calls: the two states belong together -/
def JB (sd : Int32) (S U : St) : Prop := ∃ sg B T, Rel sd S U ∧ Ivt sg B T U
theorem J.b {sd : Int32} {sg : Nat → Nat} {B T : Nat} {ak : Int32} {S U : St} (h : J sd sg B T ak S U) : JB sd S U := ⟨sg, B, T, h.r, h.v⟩
theorem JB.thr {sd : Int32} {S U : St} (h : JB sd S U) (v : Int32) : JB sd S (si U 1 0 0 1 v) := by
  obtain ⟨sg, B, T, r, i⟩ := h
  exact ⟨sg, B, T, (Scw.thr U v).rel r, (Scw.thr U v).ivt i⟩
theorem JB.go {sd : Int32} {S U : St} (h : JB sd S U) : ∃ sg B T, J sd sg B T (S.1 14 4 1 1) S (si U 1 0 0 1 0) := by
  obtain ⟨sg, B, T, r, i⟩ := h
  exact ⟨sg, B, T, J.mk ((Scw.thr U 0).rel r) ((Scw.thr U 0).ivt i) rfl (si_rd _ _ _ _ _ _)⟩
theorem b_tick {sd : Int32} {S U : St} (h : JB sd S U) : ∃ S' U' r, f_QC_tick S = (r, S') ∧ f_M_tick U = (r, U') ∧ JB sd S' U' ∧ ok_QC_tick S ∧ ok_M_tick U := by
  obtain ⟨sg, B, T, h1⟩ := h.go
  have h2 := h1.w Mp.clock ((si U 1 0 0 1 0).1 1 0 0 2 + 1) (h1.v.w1c _)
  obtain ⟨sg', S', U', r, e1, e2, a, o1, o2⟩ := j_tick_l 200 200 0 sg _ _ (by omega) (by omega) (by omega) h2
  unfold f_QC_tick f_M_tick ok_QC_tick ok_M_tick
  repeat rw [lt]
  rw [h1.e Mp.clock]
  exact ⟨S', U', r, e1, e2, a.b, o1, o2⟩
