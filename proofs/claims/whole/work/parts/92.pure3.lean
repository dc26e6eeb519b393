/-! Blocks: looking up, chains of parents. -/
theorem nI_ne1 {n : Nat} (h : n < 2 ^ 31) : ¬ nI n = -1 := fun q => nI_pos h (by rw [q]; decide)
theorem lit100n {j : Nat} (h : j < 100) : ¬ (100 : Int32) ≤ nI j := fun q => by
  have := (nI_leI (a := 100) (b := j) (by omega) (by omega)).mp q
  omega
theorem q_ex {b B : Nat} {S : St} (e : S.1 19 0 0 4 = nI B) (hb : b < B) (hB : B ≤ 100) : f_Blocks_exists (nI b) S = 1 := by
  unfold f_Blocks_exists
  rw [e, if_neg (nI_pos (by omega)), if_neg (fun q => by
    have := (nI_leI (a := B) (b := b) (by omega) (by omega)).mp q
    omega)]
theorem q_exm {S : St} : f_Blocks_exists (-1) S = 0 := by
  unfold f_Blocks_exists
  rw [if_pos (by decide)]
section
variable {sd : Int32} {sg : Nat → Nat} {B T : Nat} {ak : Int32} {S U : St}
theorem J.eB (h : J sd sg B T ak S U) : S.1 19 0 0 4 = nI B := (h.e Mp.blocks).trans h.v.hB
theorem q_viewOf (h : J sd sg B T ak S U) {b : Nat} (hb : b < B) : f_Blocks_viewOf (nI b) S = U.1 7 0 0 b ∧ ok_Blocks_viewOf (nI b) S := by
  have := h.v.hB2
  unfold f_Blocks_viewOf ok_Blocks_viewOf
  simp only [lt]
  rw [q_ex h.eB hb h.v.hB2, if_neg (by decide), nI_clamp (by omega)]
  exact ⟨h.e (Mp.vw (by omega)), fun q => absurd q (by decide), fun _ => ⟨vp_in_nI (by omega) (by decide), trivial⟩⟩
theorem q_parentOf (h : J sd sg B T ak S U) {b : Nat} (hb : b < B) : f_Blocks_parentOf (nI b) S = U.1 8 0 0 b ∧ ok_Blocks_parentOf (nI b) S := by
  have := h.v.hB2
  unfold f_Blocks_parentOf ok_Blocks_parentOf
  simp only [lt]
  rw [q_ex h.eB hb h.v.hB2, if_neg (by decide), nI_clamp (by omega)]
  exact ⟨h.e (Mp.par (by omega)), fun q => absurd q (by decide), fun _ => ⟨vp_in_nI (by omega) (by decide), trivial⟩⟩
theorem q_txOf (h : J sd sg B T ak S U) {b : Nat} (hb : b < B) : f_Blocks_transactionOf (nI b) S = U.1 9 0 0 b ∧ ok_Blocks_transactionOf (nI b) S := by
  have := h.v.hB2
  unfold f_Blocks_transactionOf ok_Blocks_transactionOf
  simp only [lt]
  rw [q_ex h.eB hb h.v.hB2, if_neg (by decide), nI_clamp (by omega)]
  exact ⟨h.e (Mp.car (by omega)), fun q => absurd q (by decide), fun _ => ⟨vp_in_nI (by omega) (by decide), trivial⟩⟩
theorem q_isCert (h : J sd sg B T ak S U) {b : Nat} (hb : b < B) : f_Blocks_isCertified (nI b) S = (if U.1 10 0 0 b = 0 then 0 else 1) ∧ ok_Blocks_isCertified (nI b) S := by
  have := h.v.hB2
  unfold f_Blocks_isCertified ok_Blocks_isCertified
  simp only [lt]
  rw [q_ex h.eB hb h.v.hB2, if_neg (by decide), nI_clamp (by omega), h.e (Mp.cer (by omega))]
  exact ⟨rfl, fun q => absurd q (by decide), fun _ => ⟨vp_in_nI (by omega) (by decide), trivial⟩⟩
theorem q_hasBlock (h : J sd sg B T ak S U) {i b : Nat} (hi : i < 4) (hb : b < 100) : f_Store_hasBlock i (nI b) S = (if U.1 19 0 0 (100 * i + b) = 0 then 0 else 1) ∧ ok_Store_hasBlock i (nI b) S := by
  unfold f_Store_hasBlock ok_Store_hasBlock
  rw [if_neg (nI_pos (by omega)), if_neg (lit100n hb), nI_clamp (by omega), h.e (Mp.has hi hb)]
  exact ⟨rfl, fun q => absurd q (nI_pos (by omega)), fun _ => ⟨fun q => absurd q (lit100n hb), fun _ => ⟨vp_in_nI (by omega) (by decide), trivial⟩⟩⟩
theorem q_isAbove (h : J sd sg B T ak S U) {a b : Nat} (ha : a < B) (hb : b < B) : f_Blocks_isAbove (nI a) (nI b) S = (if U.1 7 0 0 a ≤ U.1 7 0 0 b then 0 else 1) ∧ ok_Blocks_isAbove (nI a) (nI b) S := by
  have va := q_viewOf h ha
  have vb := q_viewOf h hb
  unfold f_Blocks_isAbove ok_Blocks_isAbove
  simp only [lt]
  rw [va.1, vb.1]
  exact ⟨rfl, va.2, vb.2, trivial⟩
theorem q_isNext (h : J sd sg B T ak S U) {a b : Nat} (ha : a < B) (hb : b < B) : f_Blocks_isNextView (nI a) (nI b) S = (if U.1 7 0 0 a = U.1 7 0 0 b + 1 then 1 else 0) ∧ ok_Blocks_isNextView (nI a) (nI b) S := by
  have va := q_viewOf h ha
  have vb := q_viewOf h hb
  unfold f_Blocks_isNextView ok_Blocks_isNextView
  simp only [lt]
  rw [va.1, vb.1]
  exact ⟨rfl, va.2, vb.2, trivial⟩
end
/-- steps from a block down its parents, to c (true) or past block 0 (false) -/
def Stq (f : Nat → Int32) (B : Nat) (c : Int32) : Nat → Int32 → Bool → Prop
  | 0, x, r => (r = true ∧ x = c ∧ c ≠ -1) ∨ (r = false ∧ x = -1)
  | d + 1, x, r => ∃ a, a < B ∧ x = nI a ∧ nI a ≠ c ∧ Stq f B c d (f a) r
theorem Stq.hit {f : Nat → Int32} {B : Nat} {c : Int32} (h : c ≠ -1) : Stq f B c 0 c true := Or.inl ⟨rfl, rfl, h⟩
theorem Stq.out {f : Nat → Int32} {B : Nat} {c : Int32} : Stq f B c 0 (-1) false := Or.inr ⟨rfl, rfl⟩
theorem Stq.s {f : Nat → Int32} {B : Nat} {c : Int32} {a d : Nat} {r : Bool} (ha : a < B) (hc : nI a ≠ c) (h : Stq f B c d (f a) r) : Stq f B c (d + 1) (nI a) r := ⟨a, ha, rfl, hc, h⟩
theorem Stq.elim {f : Nat → Int32} {B : Nat} {c : Int32} {motive : ∀ (d : Nat) (x : Int32) (r : Bool), Stq f B c d x r → Prop} {d : Nat} {x : Int32} {r : Bool} (g : Stq f B c d x r) (hit : ∀ h : c ≠ -1, motive 0 c true (Stq.hit h)) (out : motive 0 (-1) false Stq.out) (s : ∀ {a d : Nat} {r : Bool} (ha : a < B) (hc : nI a ≠ c) (h : Stq f B c d (f a) r), motive d (f a) r h → motive (d + 1) (nI a) r (Stq.s ha hc h)) : motive d x r g := by
  induction d generalizing x r with
  | zero =>
    have g' := g
    rw [Stq] at g'
    rcases g' with ⟨rfl, rfl, h⟩ | ⟨rfl, rfl⟩
    · exact hit h
    · exact out
  | succ d ih =>
    have g' := g
    rw [Stq] at g'
    obtain ⟨a, ha, rfl, hc, k⟩ := g'
    exact s ha hc k (ih k)
theorem stp_ex {sg : Nat → Nat} {B T : Nat} {U : St} (h : Ivt sg B T U) {c : Int32} (hc : c ≠ -1) (a : Nat) : a < B → ∃ d r, d ≤ a + 1 ∧ (r = true → d ≤ a) ∧ Stq (U.1 8 0 0) B c d (nI a) r := by
  have hB2 := h.hB2
  induction a using Nat.strongRecOn with
  | ind a ih =>
    intro ha
    by_cases e : nI a = c
    · exact ⟨0, true, by omega, fun _ => by omega, by rw [e]; exact Stq.hit hc⟩
    · by_cases a0 : a = 0
      · subst a0
        exact ⟨1, false, by omega, (fun q => by cases q), Stq.s ha e (by rw [h.par0]; exact Stq.out)⟩
      · obtain ⟨p, hp, ep⟩ := h.par a (by omega) ha
        obtain ⟨d, r, h1, h2, h3⟩ := ih p hp (by omega)
        exact ⟨d + 1, r, by omega, fun q => by have := h2 q; omega, Stq.s ha e (by rw [ep]; exact h3)⟩
/-- from below c one never comes to c -/
theorem stp_lt {sg : Nat → Nat} {B T : Nat} {U : St} (h : Ivt sg B T U) {c d : Nat} {x : Int32} {r : Bool} (hc : c < B) (g : Stq (U.1 8 0 0) B (nI c) d x r) : (x = -1 ∨ ∃ p, p < c ∧ x = nI p) → r = false := by
  have hB2 := h.hB2
  induction g using Stq.elim with
  | hit _ =>
    intro q
    rcases q with q | ⟨p, hp, q⟩
    · exact absurd q (nI_ne1 (by omega))
    · have := (nI_eq (by omega) (by omega)).mp q
      omega
  | out => exact fun _ => rfl
  | @s a d r ha hcc _ ih =>
    intro q
    rcases q with q | ⟨p, hp, q⟩
    · exact absurd q (nI_ne1 (by omega))
    · have e := (nI_eq (by omega) (by omega)).mp q
      apply ih
      by_cases a0 : a = 0
      · subst a0
        exact Or.inl h.par0
      · obtain ⟨p', hp', ep⟩ := h.par a (by omega) ha
        exact Or.inr ⟨p', by omega, ep⟩
theorem stp_self {f : Nat → Int32} {B : Nat} {c : Int32} {d : Nat} {x : Int32} {r : Bool} (g : Stq f B c d x r) (e : x = c) (hc : c ≠ -1) : d = 0 ∧ r = true := by
  cases g using Stq.elim with
  | hit => exact ⟨rfl, rfl⟩
  | out => exact absurd e.symm hc
  | s _ k => exact absurd e k
theorem stp_inv {f : Nat → Int32} {B : Nat} {c : Int32} {d a : Nat} {x : Int32} {r : Bool} (g : Stq f B c d x r) (e : x = nI a) (ha : a < 2 ^ 31) (hB : B < 2 ^ 31) (hne : nI a ≠ c) : ∃ d', d = d' + 1 ∧ Stq f B c d' (f a) r := by
  cases g using Stq.elim with
  | hit => exact absurd e.symm hne
  | out => exact absurd e.symm (nI_ne1 ha)
  | s ka _ kh =>
    have := (nI_eq (by omega) ha).mp e
    subst this
    exact ⟨_, rfl, kh⟩
theorem q_steps_l {sd : Int32} {sg : Nat → Nat} {B T : Nat} {ak : Int32} {S U : St} (h : J sd sg B T ak S U) (a1 : Int32) {c : Int32} {d : Nat} {x : Int32} {r : Bool} (g : Stq (U.1 8 0 0) B c d x r) : ∀ (n s : Nat), d < n → s + d ≤ 100 → (r = true → s + d < 100) → f_Blocks_stepsDown_5 a1 c n S x (nI s) = (if r then nI (s + d) else -1) ∧ ok_Blocks_stepsDown_5 a1 c n S x (nI s) := by
  have hB2 := h.v.hB2
  induction g using Stq.elim with
  | hit hc =>
    intro n s hn hs ht
    obtain ⟨n, rfl⟩ : ∃ n', n = n' + 1 := ⟨n - 1, by omega⟩
    rw [f_Blocks_stepsDown_5, ok_Blocks_stepsDown_5, if_neg (lit100n (j := s) (by have := ht rfl; omega)), if_neg hc, if_pos rfl]
    exact ⟨rfl, fun _ => trivial, fun _ => ⟨fun q => absurd q hc, fun _ => ⟨fun _ => trivial, fun q => absurd rfl q⟩⟩⟩
  | out =>
    intro n s hn hs ht
    obtain ⟨n, rfl⟩ : ∃ n', n = n' + 1 := ⟨n - 1, by omega⟩
    rw [f_Blocks_stepsDown_5, ok_Blocks_stepsDown_5]
    refine ⟨?_, fun _ => trivial, fun _ => ⟨fun _ => trivial, fun q => absurd rfl q⟩⟩
    split
    · rfl
    · rw [if_pos rfl]
      rfl
  | @s a d r ha hcc _ ih =>
    intro n s hn hs ht
    obtain ⟨n, rfl⟩ : ∃ n', n = n' + 1 := ⟨n - 1, by omega⟩
    have l := lit100n (j := s) (by omega)
    have m1 := nI_ne1 (n := a) (by omega)
    have p := q_parentOf h ha
    have k := ih n (s + 1) (by omega) (by omega) (fun q => by have := ht q; omega)
    rw [f_Blocks_stepsDown_5, ok_Blocks_stepsDown_5, if_neg l, if_neg m1, if_neg hcc, lt, lt, p.1, nI_s]
    refine ⟨?_, fun q => absurd q l, fun _ => ⟨fun q => absurd q m1, fun _ => ⟨fun q => absurd q hcc, fun _ => ⟨p.2, k.2⟩⟩⟩⟩
    rw [k.1, show s + 1 + d = s + (d + 1) by omega]
theorem q_steps {sd : Int32} {sg : Nat → Nat} {B T : Nat} {ak : Int32} {S U : St} (h : J sd sg B T ak S U) {c : Int32} {a d : Nat} {r : Bool} (ha : a < B) (h1 : d ≤ a + 1) (h2 : r = true → d ≤ a) (g : Stq (U.1 8 0 0) B c d (nI a) r) : f_Blocks_stepsDown (nI a) c S = (if r then nI d else -1) ∧ ok_Blocks_stepsDown (nI a) c S := by
  have hB2 := h.v.hB2
  have k := q_steps_l h (nI a) g 200 0 (by omega) (by omega) (fun q => by have := h2 q; omega)
  rw [Nat.zero_add] at k
  exact k
theorem m_below_l {sg : Nat → Nat} {B T : Nat} {U : St} (h : Ivt sg B T U) (a2 : Int32) {c : Int32} {d : Nat} {x : Int32} {r : Bool} (hc : c ≠ -1) (g : Stq (U.1 8 0 0) B c d x r) : ∀ (n : Nat), d < n → f_M_below_7 c a2 n U x = (if r then 1 else 0) ∧ ok_M_below_7 c a2 n U x := by
  have hB2 := h.hB2
  induction g using Stq.elim with
  | hit hc =>
    intro n hn
    obtain ⟨n, rfl⟩ : ∃ n', n = n' + 1 := ⟨n - 1, by omega⟩
    rw [f_M_below_7, ok_M_below_7, if_neg hc, if_pos rfl, f_M_below_27, if_pos rfl]
    exact ⟨rfl, fun _ => trivial, fun _ => ⟨fun _ => trivial, fun q => absurd rfl q⟩⟩
  | out =>
    intro n hn
    obtain ⟨n, rfl⟩ : ∃ n', n = n' + 1 := ⟨n - 1, by omega⟩
    rw [f_M_below_7, ok_M_below_7, if_pos rfl, f_M_below_27, if_neg (fun q => hc q.symm)]
    exact ⟨rfl, fun _ => trivial, fun q => absurd rfl q⟩
  | @s a d r ha hcc _ ih =>
    intro n hn
    obtain ⟨n, rfl⟩ : ∃ n', n = n' + 1 := ⟨n - 1, by omega⟩
    have m1 := nI_ne1 (n := a) (by omega)
    have k := ih n (by omega)
    rw [f_M_below_7, ok_M_below_7, if_neg m1, if_neg hcc, nI_clamp (by omega)]
    exact ⟨k.1, fun q => absurd q m1, fun _ => ⟨fun q => absurd q hcc, fun _ => ⟨vp_in_nI (by omega) (by decide), k.2⟩⟩⟩
/-- is a block below another: both sides -/
theorem j_below {sd : Int32} {sg : Nat → Nat} {B T : Nat} {ak : Int32} {S U : St} (h : J sd sg B T ak S U) {a c : Nat} (ha : a < B) (hc : c < B) : ∃ r : Int32, (r = 0 ∨ r = 1) ∧ f_Blocks_isBelow (nI c) (nI a) S = r ∧ f_M_below (nI c) (nI a) U = r ∧ ok_Blocks_isBelow (nI c) (nI a) S ∧ ok_M_below (nI c) (nI a) U := by
  have hB2 := h.v.hB2
  have c1 : nI c ≠ -1 := nI_ne1 (by omega)
  obtain ⟨d, r, h1, h2, g⟩ := stp_ex h.v c1 a ha
  have q := q_steps h ha h1 h2 g
  have a100 : vp_in (nI a) 100 := vp_in_nI (by omega) (by decide)
  have er : ∀ (d' : Nat) (r' : Bool), Stq (U.1 8 0 0) B (nI c) d' (U.1 8 0 0 a) r' → d' < 200 → (f_M_below (nI c) (nI a) U = if r' then 1 else 0) ∧ ok_M_below (nI c) (nI a) U := fun d' r' g' hd' => by
    have m := m_below_l h.v (nI a) c1 g' 200 hd'
    unfold f_M_below ok_M_below
    rw [nI_clamp (by omega)]
    exact ⟨m.1, a100, m.2⟩
  unfold f_Blocks_isBelow ok_Blocks_isBelow
  simp only [lt]
  rw [q.1]
  by_cases eq : nI a = nI c
  · -- the block itself
    have ac := (nI_eq (by omega) (by omega)).mp eq
    subst ac
    obtain ⟨d', r', hd', g', rf⟩ : ∃ d' r', d' < 200 ∧ Stq (U.1 8 0 0) B (nI a) d' (U.1 8 0 0 a) r' ∧ r' = false := by
      by_cases a0 : a = 0
      · subst a0
        rw [h.v.par0]
        exact ⟨0, false, by omega, Stq.out, rfl⟩
      · obtain ⟨p, hp, ep⟩ := h.v.par a (by omega) ha
        obtain ⟨d', r', k1, k2, k3⟩ := stp_ex h.v c1 p (by omega)
        rw [ep]
        exact ⟨d', r', by omega, k3, stp_lt h.v ha k3 (Or.inr ⟨p, hp, rfl⟩)⟩
    subst rf
    have m := er d' false g' hd'
    have d0 := stp_self g rfl c1
    rw [d0.1, d0.2]
    exact ⟨0, Or.inl rfl, by decide, m.1, ⟨q.2, trivial⟩, m.2⟩
  · obtain ⟨d', e', g'⟩ := stp_inv g rfl (by omega) (by omega) eq
    have m := er d' r g' (by omega)
    cases r with
    | true =>
      have dd := h2 rfl
      refine ⟨1, Or.inr rfl, ?_, m.1, ⟨q.2, trivial⟩, m.2⟩
      rw [if_pos rfl, if_neg (fun z => by
        have := (nI_leI (a := d) (b := 0) (by omega) (by omega)).mp z
        omega)]
    | false => exact ⟨0, Or.inl rfl, if_pos (show (-1 : Int32) ≤ 0 by decide), m.1, ⟨q.2, trivial⟩, m.2⟩
/-- a chain down past block 0 -/
def Chn (f : Nat → Int32) (B : Nat) : Nat → Int32 → Prop
  | 0, x => x = -1
  | d + 1, x => ∃ a, a < B ∧ x = nI a ∧ Chn f B d (f a)
theorem Chn.out {f : Nat → Int32} {B : Nat} : Chn f B 0 (-1) := rfl
theorem Chn.s {f : Nat → Int32} {B a d : Nat} (ha : a < B) (h : Chn f B d (f a)) : Chn f B (d + 1) (nI a) := ⟨a, ha, rfl, h⟩
theorem Chn.elim {f : Nat → Int32} {B : Nat} {motive : ∀ (d : Nat) (x : Int32), Chn f B d x → Prop} {d : Nat} {x : Int32} (g : Chn f B d x) (out : motive 0 (-1) Chn.out) (s : ∀ {a d : Nat} (ha : a < B) (h : Chn f B d (f a)), motive d (f a) h → motive (d + 1) (nI a) (Chn.s ha h)) : motive d x g := by
  induction d generalizing x with
  | zero =>
    have g' := g
    rw [Chn] at g'
    subst g'
    exact out
  | succ d ih =>
    have g' := g
    rw [Chn] at g'
    obtain ⟨a, ha, rfl, k⟩ := g'
    exact s ha k (ih k)
theorem chn_ex {sg : Nat → Nat} {B T : Nat} {U : St} (h : Ivt sg B T U) (a : Nat) : a < B → ∃ d, d ≤ a + 1 ∧ Chn (U.1 8 0 0) B d (nI a) := by
  induction a using Nat.strongRecOn with
  | ind a ih =>
    intro ha
    by_cases a0 : a = 0
    · subst a0
      exact ⟨1, by omega, Chn.s ha (by rw [h.par0]; exact Chn.out)⟩
    · obtain ⟨p, hp, ep⟩ := h.par a (by omega) ha
      obtain ⟨d, h1, h3⟩ := ih p hp (by omega)
      exact ⟨d + 1, by omega, Chn.s ha (by rw [ep]; exact h3)⟩
theorem m_inChain1 {sg : Nat → Nat} {B T : Nat} {U : St} (h : Ivt sg B T U) (t a2 : Int32) {d : Nat} {x : Int32} (g : Chn (U.1 8 0 0) B d x) : ∀ (n : Nat), d < n → f_M_inChain_5 t a2 n U 1 x = 1 ∧ ok_M_inChain_5 t a2 n U 1 x := by
  have hB2 := h.hB2
  induction g using Chn.elim with
  | out =>
    intro n hn
    obtain ⟨n, rfl⟩ : ∃ n', n = n' + 1 := ⟨n - 1, by omega⟩
    rw [f_M_inChain_5, ok_M_inChain_5, if_pos rfl]
    exact ⟨rfl, fun _ => ⟨nrw_1, trivial⟩, fun q => absurd rfl q⟩
  | @s a d ha _ ih =>
    intro n hn
    obtain ⟨n, rfl⟩ : ∃ n', n = n' + 1 := ⟨n - 1, by omega⟩
    have m1 := nI_ne1 (n := a) (by omega)
    have k := ih n (by omega)
    rw [f_M_inChain_5, ok_M_inChain_5, if_neg m1, if_neg (by decide), nI_clamp (by omega)]
    exact ⟨k.1, fun q => absurd q m1, fun _ => ⟨fun q => absurd q (by decide), fun _ => ⟨vp_in_nI (by omega) (by decide), k.2⟩⟩⟩
theorem j_inChain_l {sd : Int32} {sg : Nat → Nat} {B T : Nat} {ak : Int32} {S U : St} (h : J sd sg B T ak S U) (t a2 : Int32) {d : Nat} {x : Int32} (g : Chn (U.1 8 0 0) B d x) : ∀ (n m s : Nat), d < n → d < m → s + d ≤ 100 → ∃ r : Int32, (r = 0 ∨ r = 1) ∧ f_Blocks_isInChain_5 t a2 n S x (nI s) = r ∧ f_M_inChain_5 t a2 m U 0 x = r ∧ ok_Blocks_isInChain_5 t a2 n S x (nI s) ∧ ok_M_inChain_5 t a2 m U 0 x := by
  have hB2 := h.v.hB2
  induction g using Chn.elim with
  | out =>
    intro n m s hn hm hs
    obtain ⟨n, rfl⟩ : ∃ n', n = n' + 1 := ⟨n - 1, by omega⟩
    obtain ⟨m, rfl⟩ : ∃ n', m = n' + 1 := ⟨m - 1, by omega⟩
    rw [f_Blocks_isInChain_5, ok_Blocks_isInChain_5, f_M_inChain_5, ok_M_inChain_5, if_pos rfl]
    refine ⟨0, Or.inl rfl, ?_, by rw [if_pos rfl], ⟨fun _ => trivial, fun _ => ⟨fun _ => trivial, fun q => absurd rfl q⟩⟩, ⟨fun _ => ⟨nrw_0, trivial⟩, fun q => absurd rfl q⟩⟩
    split <;> rfl
  | @s a d ha gg ih =>
    intro n m s hn hm hs
    obtain ⟨n, rfl⟩ : ∃ n', n = n' + 1 := ⟨n - 1, by omega⟩
    obtain ⟨m, rfl⟩ : ∃ n', m = n' + 1 := ⟨m - 1, by omega⟩
    have m1 := nI_ne1 (n := a) (by omega)
    have l := lit100n (j := s) (by omega)
    have p := q_parentOf h ha
    have x := q_txOf h ha
    have a100 : vp_in (nI a) 100 := vp_in_nI (by omega) (by decide)
    rw [f_Blocks_isInChain_5, ok_Blocks_isInChain_5, f_M_inChain_5, ok_M_inChain_5, if_neg l, if_neg m1, if_neg m1, if_pos rfl, lt, lt, lt, lt, x.1, p.1, nI_clamp (by omega), nI_s]
    by_cases et : U.1 9 0 0 a = t
    · have k := m_inChain1 h.v t a2 gg m (by omega)
      rw [if_pos et, if_pos et]
      exact ⟨1, Or.inr rfl, rfl, k.1, ⟨fun q => absurd q l, fun _ => ⟨fun q => absurd q m1, fun _ => ⟨x.2, fun _ => trivial, fun q => absurd et q⟩⟩⟩, ⟨fun q => absurd q m1, fun _ => ⟨fun _ => ⟨a100, fun _ => ⟨a100, k.2⟩, fun q => absurd et q⟩, fun q => absurd rfl q⟩⟩⟩
    · obtain ⟨r, hr, e1, e2, o1, o2⟩ := ih n m (s + 1) (by omega) (by omega) (by omega)
      rw [if_neg et, if_neg et]
      exact ⟨r, hr, e1, e2, ⟨fun q => absurd q l, fun _ => ⟨fun q => absurd q m1, fun _ => ⟨x.2, fun q => absurd q et, fun _ => ⟨p.2, o1⟩⟩⟩⟩, ⟨fun q => absurd q m1, fun _ => ⟨fun _ => ⟨a100, fun q => absurd q et, fun _ => ⟨a100, o2⟩⟩, fun q => absurd rfl q⟩⟩⟩
theorem j_inChain {sd : Int32} {sg : Nat → Nat} {B T : Nat} {ak : Int32} {S U : St} (h : J sd sg B T ak S U) (t : Int32) {a : Nat} (ha : a < B) : ∃ r : Int32, (r = 0 ∨ r = 1) ∧ f_Blocks_isInChain t (nI a) S = r ∧ f_M_inChain t (nI a) U = r ∧ ok_Blocks_isInChain t (nI a) S ∧ ok_M_inChain t (nI a) U := by
  have hB2 := h.v.hB2
  obtain ⟨d, h1, g⟩ := chn_ex h.v a ha
  exact j_inChain_l h t (nI a) g 200 200 0 (by omega) (by omega) (by omega)
/-! Keeping a block; a new block; proposing. -/
theorem si_same (S : St) (k i j x : Nat) : si S k i j x (S.1 k i j x) = S := by
  refine st_ext (fun a b d y => ?_) (fun _ _ _ _ => rfl) (fun _ _ _ _ => rfl)
  rw [si_i]
  by_cases h : a = k ∧ b = i ∧ d = j ∧ y = x
  · rw [if_pos h]
    obtain ⟨rfl, rfl, rfl, rfl⟩ := h
    rfl
  · rw [if_neg h]
theorem si_comm (S : St) {k k' : Nat} (hk : k ≠ k') (i j x : Nat) (v : Int32) (i' j' x' : Nat) (v' : Int32) : si (si S k i j x v) k' i' j' x' v' = si (si S k' i' j' x' v') k i j x v := by
  refine st_ext (fun a b d y => ?_) (fun _ _ _ _ => rfl) (fun _ _ _ _ => rfl)
  rw [si_i, si_i, si_i, si_i]
  by_cases h : a = k ∧ b = i ∧ d = j ∧ y = x
  · rw [if_pos h, if_pos h, if_neg (fun q => hk (h.1.symm.trans q.1))]
  · rw [if_neg h, if_neg h]
theorem cnt_0 (f : Nat → Int32) : cnt f 0 = 0 := rfl
theorem cnt_s (f : Nat → Int32) (n : Nat) : cnt f (n + 1) = cnt f n + if f n = 0 then 0 else 1 := rfl
theorem cnt_ext (f g : Nat → Int32) (n : Nat) (h : ∀ k, k < n → f k = g k) : cnt f n = cnt g n := by
  induction n with
  | zero => rfl
  | succ n ih => rw [cnt_s, cnt_s, ih (fun k hk => h k (by omega)), h n (by omega)]
theorem cnt_up (f g : Nat → Int32) (b n : Nat) (h0 : f b = 0) (h1 : g b = 1) (h : ∀ k, k ≠ b → g k = f k) (hb : b < n) : cnt g n = cnt f n + 1 := by
  induction n with
  | zero => omega
  | succ n ih =>
    rw [cnt_s, cnt_s]
    by_cases c : b = n
    · subst c
      rw [h0, h1, if_pos rfl, if_neg (by decide), cnt_ext g f b (fun k hk => h k (by omega))]
    · rw [ih (by omega), h n (fun q => c q.symm)]
      omega
theorem r_keep {sd : Int32} {S U : St} {i b : Nat} (h : Rel sd S U) (hi : i < 4) (hb : b < 100) (hv : U.1 19 0 0 (100 * i + b) = 0 ∨ U.1 19 0 0 (100 * i + b) = 1) : Rel sd (f_Store_keepBlock i (nI b) S) (si U 19 0 0 (100 * i + b) 1) ∧ (f_Store_keepBlock i (nI b) S).1 14 = S.1 14 ∧ (f_Store_keepBlock i (nI b) S).2 = S.2 ∧ ok_Store_keepBlock i (nI b) S := by
  have n0 := nI_pos (n := b) (by omega)
  have l := lit100n hb
  have b100 : vp_in (nI b) 100 := vp_in_nI hb (by decide)
  have eh := h.m (Mp.has hi hb)
  have ok : ok_Store_keepBlock i (nI b) S := ⟨fun q => absurd q n0, fun _ => ⟨fun q => absurd q l, fun _ => ⟨b100, fun _ => ⟨b100, trivial⟩, fun _ => trivial⟩⟩⟩
  unfold f_Store_keepBlock
  simp only [lt]
  rw [if_neg n0, if_neg l, nI_clamp (by omega), eh]
  rcases hv with hv | hv
  · rw [if_pos hv]
    have e4 : (si S 5 i 0 b 1).1 4 i 0 4 = S.1 4 i 0 4 := by rw [si_i, if_neg (fun q => by omega)]
    rw [e4]
    have eU : ∀ k y, k ≠ 19 → (si U 19 0 0 (100 * i + b) 1).1 k 0 0 y = U.1 k 0 0 y := fun k y hk => by rw [si_i, if_neg (fun q => hk q.1)]
    refine ⟨(Rel.mk (m := ?_) (id := ?_) (se := ?_) (ow := ?_) (us := h.us) (tr := h.tr) (row := h.row) (inj := h.inj) (msg := ?_) (sg := ?_) (bc := ?_)), rfl, rfl, ok⟩
    · intro k2 i2 j2 x2 k2' y2 hm2
      have nt := hm2.nt
      have ff := (Mp.has hi hb).iff hm2
      rw [si_i, if_neg (fun q => nt.2.2.2.2.1 ⟨q.1, q.2.2.2⟩), si_i, si_i]
      by_cases c : k2 = 5 ∧ i2 = i ∧ j2 = 0 ∧ x2 = b
      · have c' := ff.mp c
        rw [if_pos c, if_pos ⟨c'.1, rfl, rfl, c'.2⟩]
      · rw [if_neg c, if_neg (fun q => c (ff.mpr ⟨q.1, q.2.2.2⟩))]
        exact h.m hm2
    · intro i' hi'
      rw [si_i, if_neg (fun q => by omega), si_i, if_neg (fun q => by omega)]
      exact h.id i' hi'
    · intro i' hi'
      rw [si_i, if_neg (fun q => by omega), si_i, if_neg (fun q => by omega)]
      exact h.se i' hi'
    · intro i' hi'
      rw [si_i, if_neg (fun q => by omega), si_i, if_neg (fun q => by omega)]
      exact h.ow i' hi'
    · intro i' hi' k2 hk2 hf f h1 h5
      rw [eU 28 _ (by decide)] at hf
      rw [eU (28 + f) _ (by omega), si_i, if_neg (fun q => by omega), si_i, if_neg (fun q => by omega)]
      exact h.msg i' hi' k2 hk2 hf f h1 h5
    · intro i' hi' k2 hk2 hf h3
      rw [eU 28 _ (by decide)] at hf
      rw [eU 29 _ (by decide)] at h3
      exact h.sg i' hi' k2 hk2 hf h3
    · intro i' hi'
      rw [si_i]
      by_cases c : i' = i
      · subst c
        rw [if_pos ⟨rfl, rfl, rfl, rfl⟩, h.bc i' hi', nI_s]
        rw [cnt_up (fun x => U.1 19 0 0 (100 * i' + x)) (fun x => (si U 19 0 0 (100 * i' + b) 1).1 19 0 0 (100 * i' + x)) b 100 hv (si_rd _ _ _ _ _ _) (fun k hk => by
          show (si U 19 0 0 (100 * i' + b) 1).1 19 0 0 (100 * i' + k) = _
          rw [si_i, if_neg (fun q => hk (by omega))]) hb]
      · rw [if_neg (fun q => c q.2.1), si_i, if_neg (fun q => by omega), h.bc i' hi']
        rw [cnt_ext (fun x => (si U 19 0 0 (100 * i + b) 1).1 19 0 0 (100 * i' + x)) (fun x => U.1 19 0 0 (100 * i' + x)) 100 (fun k hk => by
          show (si U 19 0 0 (100 * i + b) 1).1 19 0 0 (100 * i' + k) = _
          rw [si_i, if_neg (fun q => c (by omega))])]
  · rw [if_neg (by rw [hv]; decide)]
    have : si U 19 0 0 (100 * i + b) 1 = U := by
      conv => lhs; rw [← hv]
      exact si_same U 19 0 0 (100 * i + b)
    rw [this]
    exact ⟨h, rfl, rfl, ok⟩
theorem Ivt.w19 {sg : Nat → Nat} {B T : Nat} {U : St} (h : Ivt sg B T U) {i b : Nat} (hi : i < 4) (hb : b < B) : Ivt sg B T (si U 19 0 0 (100 * i + b) 1) := by
  have hB2 := h.hB2
  exact (Ivt.mk (hB := h.hB) (hB1 := h.hB1) (hB2 := h.hB2) (hT := h.hT) (hT2 := h.hT2) (par0 := h.par0) (par := h.par) (vw0 := h.vw0) (vw := h.vw) (car := h.car) (fr := h.fr) (to := h.to) (view := h.view) (span := h.span) (high := h.high) (locked := h.locked) (voted := h.voted) (used := h.used) (has0 := fun i' hi' => by
      rw [si_i]
      by_cases c : 100 * i' = 100 * i + b
      · rw [if_pos ⟨rfl, rfl, rfl, c⟩]
      · rw [if_neg (fun q => c q.2.2.2)]
        exact h.has0 i' hi') (hasB := fun i' hi' b' h1 h2 => by
      rw [si_i, if_neg (fun q => by omega)]
      exact h.hasB i' hi' b' h1 h2) (hasV := fun i' hi' b' h2 => by
      rw [si_i]
      by_cases c : 100 * i' + b' = 100 * i + b
      · rw [if_pos ⟨rfl, rfl, rfl, c⟩]
        exact Or.inr rfl
      · rw [if_neg (fun q => c q.2.2.2)]
        exact h.hasV i' hi' b' h2) (votes := h.votes) (votesB := h.votesB) (votesM := h.votesM) (touts := h.touts) (toutsM := h.toutsM) (pooled := h.pooled) (pool := h.pool) (poolD := h.poolD) (logged := h.logged) (log0 := h.log0) (log := h.log) (logP := h.logP) (fly := h.fly) (msgs := h.msgs))
theorem j_keep {sd : Int32} {sg : Nat → Nat} {B T : Nat} {ak : Int32} {S U : St} {i b : Nat} (h : J sd sg B T ak S U) (hi : i < 4) (hb : b < B) : J sd sg B T ak (f_Store_keepBlock i (nI b) S) (si U 19 0 0 (100 * i + b) 1) ∧ ok_Store_keepBlock i (nI b) S := by
  have hB2 := h.v.hB2
  have k := r_keep h.r hi (b := b) (by omega) (h.v.hasV i hi b (by omega))
  exact ⟨J.mk k.1 (h.v.w19 hi hb) (by rw [k.2.1]; exact h.a) h.t, k.2.2.2⟩
/-- the invariant with a block more -/
theorem MsgOk.more {sg : Nat → Nat} {B : Nat} {us vw : Nat → Int32} {w : Int32} {kd se bk vi ke : Int32} (hB : B ≤ 100) (h : MsgOk sg B us vw kd se bk vi ke) : MsgOk sg (B + 1) us (upd vw B w) kd se bk vi ke := by
  obtain ⟨b, hb, eb, nb⟩ := h.block
  refine ⟨h.kind, h.sender, ⟨b, by omega, eb, nb⟩, h.view, h.key, h.nokey, fun q => ?_, h.tout⟩
  have := h.vote q
  rw [eb, nI_clamp (by omega)] at this ⊢
  unfold upd
  rw [if_neg (by omega)]
  exact this
theorem Ivt.newB {sg : Nat → Nat} {B T : Nat} {U : St} (h : Ivt sg B T U) {i v p : Nat} {t : Int32} (hi : i < 4) (hB : B < 100) (hv1 : 1 ≤ v) (hv2 : v < 128) (hr : Rc sg (U.1 18 0 0) v) (hp : p < B) (ht : t = -1 ∨ ∃ t', t' < T ∧ t = nI t') : Ivt sg (B + 1) T (si (si (si (si (si U 7 0 0 B (nI v)) 8 0 0 B (nI p)) 9 0 0 B t) 19 0 0 (100 * i + B) 1) 1 0 0 11 (nI (B + 1))) := by
  have hB1 := h.hB1
  obtain ⟨U', hU⟩ : ∃ U', U' = si (si (si (si (si U 7 0 0 B (nI v)) 8 0 0 B (nI p)) 9 0 0 B t) 19 0 0 (100 * i + B) 1) 1 0 0 11 (nI (B + 1)) := ⟨_, rfl⟩
  have e7 : U'.1 7 0 0 = upd (U.1 7 0 0) B (nI v) := by
    rw [hU]
    exact si_k U 7 B (nI v)
  have e8 : U'.1 8 0 0 = upd (U.1 8 0 0) B (nI p) := by
    rw [hU]
    exact si_k (si U 7 0 0 B (nI v)) 8 B (nI p)
  have e9 : U'.1 9 0 0 = upd (U.1 9 0 0) B t := by
    rw [hU]
    exact si_k (si (si U 7 0 0 B (nI v)) 8 0 0 B (nI p)) 9 B t
  have e19 : U'.1 19 0 0 = upd (U.1 19 0 0) (100 * i + B) 1 := by
    rw [hU]
    exact si_k (si (si (si U 7 0 0 B (nI v)) 8 0 0 B (nI p)) 9 0 0 B t) 19 (100 * i + B) 1
  have e11 : U'.1 1 0 0 11 = nI (B + 1) := by
    rw [hU, si_rd]
  have e6 : U'.1 1 0 0 6 = U.1 1 0 0 6 := by rw [hU]; rfl
  have eo : ∀ k, k ≠ 1 → k ≠ 7 → k ≠ 8 → k ≠ 9 → k ≠ 19 → U'.1 k 0 0 = U.1 k 0 0 := fun k h1 h7 h8 h9 h19 => by
    funext y
    rw [hU, si_i, if_neg (fun q => h1 q.1), si_i, if_neg (fun q => h19 q.1), si_i, if_neg (fun q => h9 q.1), si_i, if_neg (fun q => h8 q.1), si_i, if_neg (fun q => h7 q.1)]
  have un : ∀ (f : Nat → Int32) (x : Int32) (b : Nat), b < B → upd f B x b = f b := fun f x b hb => by
    unfold upd
    rw [if_neg (by omega)]
  rw [← hU]
  apply Ivt.mk
  case hB => exact e11
  case hB1 => omega
  case hB2 => omega
  case hT => exact e6.trans h.hT
  case hT2 => exact h.hT2
  case par0 =>
    rw [e8, un _ _ 0 (by omega)]
    exact h.par0
  case par =>
    intro b h0 hb
    rw [e8]
    by_cases c : b = B
    · subst c
      rw [upd_same]
      exact ⟨p, hp, rfl⟩
    · rw [un _ _ b (by omega)]
      exact h.par b h0 (by omega)
  case vw0 =>
    rw [e7, un _ _ 0 (by omega)]
    exact h.vw0
  case vw =>
    intro b h0 hb
    rw [e7, eo 18 (by decide) (by decide) (by decide) (by decide) (by decide)]
    by_cases c : b = B
    · subst c
      rw [upd_same]
      exact ⟨v, hv1, hv2, rfl, hr⟩
    · rw [un _ _ b (by omega)]
      exact h.vw b h0 (by omega)
  case car =>
    intro b hb
    rw [e9]
    by_cases c : b = B
    · subst c
      rw [upd_same]
      exact ht
    · rw [un _ _ b (by omega)]
      exact h.car b (by omega)
  case high =>
    rw [eo 15 (by decide) (by decide) (by decide) (by decide) (by decide)]
    intro i' hi'
    obtain ⟨b, hb, e⟩ := h.high i' hi'
    exact ⟨b, by omega, e⟩
  case locked =>
    rw [eo 17 (by decide) (by decide) (by decide) (by decide) (by decide)]
    intro i' hi'
    obtain ⟨b, hb, e⟩ := h.locked i' hi'
    exact ⟨b, by omega, e⟩
  case has0 =>
    intro i' hi'
    rw [e19]
    unfold upd
    rw [if_neg (by omega)]
    exact h.has0 i' hi'
  case hasB =>
    intro i' hi' b h1 h2
    rw [e19]
    unfold upd
    rw [if_neg (by omega)]
    exact h.hasB i' hi' b (by omega) h2
  case hasV =>
    intro i' hi' b h2
    rw [e19]
    unfold upd
    by_cases c : 100 * i' + b = 100 * i + B
    · rw [if_pos c]
      exact Or.inr rfl
    · rw [if_neg c]
      exact h.hasV i' hi' b h2
  case votesB =>
    rw [eo 20 (by decide) (by decide) (by decide) (by decide) (by decide)]
    intro i' hi' b h1 h2
    exact h.votesB i' hi' b (by omega) h2
  case votesM =>
    rw [eo 20 (by decide) (by decide) (by decide) (by decide) (by decide), eo 18 (by decide) (by decide) (by decide) (by decide) (by decide), e7]
    intro i' hi' b hb s hs q
    by_cases c : b = B
    · subst c
      rw [h.votesB i' hi' b (by omega) hB] at q
      exact absurd (by
        apply Int32.toBitVec_inj.mp
        rw [Int32.toBitVec_and]
        exact BitVec.zero_and) q
    · rw [un _ _ b (by omega)]
      exact h.votesM i' hi' b (by omega) s hs q
  case log =>
    rw [eo 24 (by decide) (by decide) (by decide) (by decide) (by decide), eo 25 (by decide) (by decide) (by decide) (by decide) (by decide)]
    intro i' hi' k h1 h2
    obtain ⟨b, hb, e⟩ := h.log i' hi' k h1 h2
    exact ⟨b, by omega, e⟩
  case logP =>
    rw [eo 24 (by decide) (by decide) (by decide) (by decide) (by decide), eo 25 (by decide) (by decide) (by decide) (by decide) (by decide), e8]
    intro i' hi' k h1 h2
    obtain ⟨b, hb, e⟩ := h.log i' hi' (k + 1) (by omega) h2
    have := h.logP i' hi' k h1 h2
    rw [e, nI_clamp (by omega)] at this ⊢
    rw [un _ _ b hb]
    exact this
  case msgs =>
    rw [eo 28 (by decide) (by decide) (by decide) (by decide) (by decide), eo 18 (by decide) (by decide) (by decide) (by decide) (by decide), e7, eo 29 (by decide) (by decide) (by decide) (by decide) (by decide), eo 30 (by decide) (by decide) (by decide) (by decide) (by decide), eo 31 (by decide) (by decide) (by decide) (by decide) (by decide), eo 32 (by decide) (by decide) (by decide) (by decide) (by decide), eo 33 (by decide) (by decide) (by decide) (by decide) (by decide)]
    intro i' hi' k h1 h2
    exact (h.msgs i' hi' k h1 h2).more (by omega)
  all_goals simp only [eo 3 (by decide) (by decide) (by decide) (by decide) (by decide), eo 4 (by decide) (by decide) (by decide) (by decide) (by decide), eo 12 (by decide) (by decide) (by decide) (by decide) (by decide), eo 14 (by decide) (by decide) (by decide) (by decide) (by decide), eo 16 (by decide) (by decide) (by decide) (by decide) (by decide), eo 18 (by decide) (by decide) (by decide) (by decide) (by decide), eo 20 (by decide) (by decide) (by decide) (by decide) (by decide), eo 21 (by decide) (by decide) (by decide) (by decide) (by decide), eo 22 (by decide) (by decide) (by decide) (by decide) (by decide), eo 23 (by decide) (by decide) (by decide) (by decide) (by decide), eo 24 (by decide) (by decide) (by decide) (by decide) (by decide), eo 25 (by decide) (by decide) (by decide) (by decide) (by decide), eo 28 (by decide) (by decide) (by decide) (by decide) (by decide)]
  · exact h.fr
  · exact h.to
  · exact h.view
  · exact h.span
  · exact h.voted
  · exact h.used
  · exact h.votes
  · exact h.touts
  · exact h.toutsM
  · exact h.pooled
  · exact h.pool
  · exact h.poolD
  · exact h.logged
  · exact h.log0
  · exact h.fly
theorem ix100 (i n : Nat) : (100 : Int32) * nI i + nI n = nI (100 * i + n) := by
  rw [show (100 : Int32) = nI 100 from rfl, nI_m, nI_add]
/-- a new block, both sides -/
theorem j_newB {sd : Int32} {sg : Nat → Nat} {B T : Nat} {ak : Int32} {S U : St} (h : J sd sg B T ak S U) {i v p : Nat} {t : Int32} (hi : i < 4) (hB : B < 100) (hv1 : 1 ≤ v) (hv2 : v < 128) (hr : Rc sg (U.1 18 0 0) v) (hp : p < B) (ht : t = -1 ∨ ∃ t', t' < T ∧ t = nI t') : ∃ S1 S2 U2, f_Blocks_add (nI v) (nI p) t S = (nI B, S1) ∧ f_Store_keepBlock i (nI B) S1 = S2 ∧ f_M_newBlock (nI i) (nI v) (nI p) t U = (nI B, U2) ∧ J sd sg (B + 1) T ak S2 U2 ∧ (∀ k, k ≠ 1 → k ≠ 7 → k ≠ 8 → k ≠ 9 → k ≠ 19 → U2.1 k 0 0 = U.1 k 0 0) ∧ U2.1 7 0 0 B = nI v ∧ ok_Blocks_add (nI v) (nI p) t S ∧ ok_Store_keepBlock i (nI B) S1 ∧ ok_M_newBlock (nI i) (nI v) (nI p) t U := by
  have eB := h.eB
  have eU := h.v.hB
  have l : nI B < (100 : Int32) := (nI_ltI (a := B) (b := 100) (by omega) (by omega)).mpr hB
  have b100 : vp_in (nI B) 100 := vp_in_nI hB (by decide)
  have r1 := h.r.w (Mp.vw hB) (by decide) (by decide) (nI v)
  have r2 := r1.w (Mp.par hB) (by decide) (by decide) (nI p)
  have r3 := r2.w (Mp.car hB) (by decide) (by decide) t
  have r4 := r3.w Mp.blocks (by decide) (by decide) (nI (B + 1))
  have hv19 : (si (si (si (si U 7 0 0 B (nI v)) 8 0 0 B (nI p)) 9 0 0 B t) 1 0 0 11 (nI (B + 1))).1 19 0 0 (100 * i + B) = 0 := h.v.hasB i hi B (by omega) hB
  have k := r_keep r4 hi hB (Or.inl hv19)
  rw [si_comm _ (k := 1) (k' := 19) (by decide)] at k
  have iv := h.v.newB hi hB hv1 hv2 hr hp ht
  have ea : f_Blocks_add (nI v) (nI p) t S = (nI B, si (si (si (si S 20 0 0 B (nI v)) 21 0 0 B (nI p)) 22 0 0 B t) 19 0 0 4 (nI (B + 1))) := by
    unfold f_Blocks_add
    simp only [lt]
    have q1 : (si S 20 0 0 B (nI v)).1 19 0 0 4 = nI B := eB
    have q2 : (si (si S 20 0 0 B (nI v)) 21 0 0 B (nI p)).1 19 0 0 4 = nI B := eB
    have q3 : (si (si (si S 20 0 0 B (nI v)) 21 0 0 B (nI p)) 22 0 0 B t).1 19 0 0 4 = nI B := eB
    rw [eB, if_pos l, nI_clamp (by omega), q1, nI_clamp (by omega), q2, nI_clamp (by omega), q3, nI_s, si_rd, nI_pred]
  have en : f_M_newBlock (nI i) (nI v) (nI p) t U = (nI B, si (si (si (si (si U 7 0 0 B (nI v)) 8 0 0 B (nI p)) 9 0 0 B t) 19 0 0 (100 * i + B) 1) 1 0 0 11 (nI (B + 1))) := by
    unfold f_M_newBlock
    simp only [lt]
    have q1 : (si U 7 0 0 B (nI v)).1 1 0 0 11 = nI B := eU
    have q2 : (si (si U 7 0 0 B (nI v)) 8 0 0 B (nI p)).1 1 0 0 11 = nI B := eU
    have q3 : (si (si (si U 7 0 0 B (nI v)) 8 0 0 B (nI p)) 9 0 0 B t).1 1 0 0 11 = nI B := eU
    have q4 : (si (si (si (si U 7 0 0 B (nI v)) 8 0 0 B (nI p)) 9 0 0 B t) 19 0 0 (100 * i + B) 1).1 1 0 0 11 = nI B := eU
    rw [eU, nI_clamp (by omega), q1, nI_clamp (by omega), q2, nI_clamp (by omega), q3, ix100, nI_clamp (by omega), q4, nI_s, si_rd, nI_pred]
  refine ⟨_, _, _, ea, rfl, en, J.mk k.1 iv ?_ h.t, fun k' h1 h7 h8 h9 h19 => ?_, ?_, ?_, k.2.2.2, ?_⟩
  · rw [k.2.1]
    exact h.a
  · funext y
    rw [si_i, if_neg (fun q => h1 q.1), si_i, if_neg (fun q => h19 q.1), si_i, if_neg (fun q => h9 q.1), si_i, if_neg (fun q => h8 q.1), si_i, if_neg (fun q => h7 q.1)]
  · show (si U 7 0 0 B (nI v)).1 7 0 0 B = nI v
    exact si_rd _ _ _ _ _ _
  · unfold ok_Blocks_add
    simp only [lt]
    have q1 : (si S 20 0 0 ((nI B).toNatClampNeg) (nI v)).1 19 0 0 4 = nI B := eB
    rw [eB, q1]
    have q2 : (si (si S 20 0 0 ((nI B).toNatClampNeg) (nI v)) 21 0 0 ((nI B).toNatClampNeg) (nI p)).1 19 0 0 4 = nI B := eB
    rw [q2]
    exact ⟨fun _ => ⟨b100, b100, b100, trivial⟩, fun q => absurd l q⟩
  · unfold ok_M_newBlock
    simp only [lt]
    have q1 : (si U 7 0 0 ((nI B).toNatClampNeg) (nI v)).1 1 0 0 11 = nI B := eU
    rw [eU, q1]
    have q2 : (si (si U 7 0 0 ((nI B).toNatClampNeg) (nI v)) 8 0 0 ((nI B).toNatClampNeg) (nI p)).1 1 0 0 11 = nI B := eU
    rw [q2]
    have q3 : (si (si (si U 7 0 0 ((nI B).toNatClampNeg) (nI v)) 8 0 0 ((nI B).toNatClampNeg) (nI p)) 9 0 0 ((nI B).toNatClampNeg) t).1 1 0 0 11 = nI B := eU
    rw [q3, ix100]
    exact ⟨b100, b100, b100, vp_in_nI (by omega) (by decide), trivial⟩
theorem q_fnt_fuel {i P : Nat} {S : St} (hP : P ≤ 40) (e : S.1 3 i 0 6 = nI P) (n : Nat) : ∀ (m k : Nat), k ≤ P → P - k < n → P - k < m → f_QC_firstNewTransaction_2 i n S (nI k) = f_QC_firstNewTransaction_2 i m S (nI k) := by
  induction n with
  | zero => exact fun m k _ h => absurd h (Nat.not_lt_zero _)
  | succ n ih =>
    intro m k hk hn hm
    obtain ⟨m, rfl⟩ : ∃ n', m = n' + 1 := ⟨m - 1, by omega⟩
    rw [f_QC_firstNewTransaction_2, f_QC_firstNewTransaction_2, e]
    by_cases c : k = P
    · subst c
      rw [if_pos (Int32.le_refl _), if_pos (Int32.le_refl _)]
    · have cc : ¬ nI P ≤ nI k := fun q => by
        have := (nI_leI (a := P) (b := k) (by omega) (by omega)).mp q
        omega
      rw [if_neg cc, if_neg cc, lt, lt, nI_s, ih m (k + 1) (by omega) (by omega) (by omega)]
section
variable {sd : Int32} {sg : Nat → Nat} {B T : Nat} {ak : Int32} {S U : St}
theorem q_fnt (h : J sd sg B T ak S U) {i P : Nat} (hi : i < 4) (hP : P ≤ 40) (e : U.1 22 0 0 i = nI P) (n : Nat) : ∀ k, k ≤ P → P - k < n → (f_QC_firstNewTransaction_2 i n S (nI k) = -1 ∨ ∃ t, t < T ∧ f_QC_firstNewTransaction_2 i n S (nI k) = nI t) ∧ ok_QC_firstNewTransaction_2 i n S (nI k) := by
  have eS : S.1 3 i 0 6 = nI P := (h.e (Mp.pooled hi)).trans e
  obtain ⟨b, hb, eh⟩ := h.v.high i hi
  have ehS : S.1 3 i 0 11 = nI b := (h.e (Mp.high hi)).trans eh
  induction n with
  | zero => exact fun k _ h => absurd h (Nat.not_lt_zero _)
  | succ n ih =>
    intro k hk hn
    rw [f_QC_firstNewTransaction_2, ok_QC_firstNewTransaction_2, eS]
    by_cases c : k = P
    · subst c
      rw [if_pos (Int32.le_refl _)]
      exact ⟨Or.inl rfl, fun _ => trivial, fun q => absurd (Int32.le_refl _) q⟩
    · have cc : ¬ nI P ≤ nI k := fun q => by
        have := (nI_leI (a := P) (b := k) (by omega) (by omega)).mp q
        omega
      have k40 : vp_in (nI k) 40 := vp_in_nI (by omega) (by decide)
      have ep := h.e (Mp.pool hi (b := k) (by omega))
      obtain ⟨t, ht, et⟩ := h.v.pool i hi k (by omega) (by rw [e, nI_clamp (by omega)]; omega)
      obtain ⟨r, hr, e1, e2, o1, o2⟩ := j_inChain h (nI t) hb
      have k1 := ih (k + 1) (by omega) (by omega)
      rw [if_neg cc, lt, lt, nI_clamp (by omega), ep, et, ehS, e1, nI_s]
      rcases hr with rfl | rfl
      · rw [if_pos rfl]
        exact ⟨Or.inr ⟨t, ht, rfl⟩, fun q => absurd q cc, fun _ => ⟨k40, o1, fun _ => ⟨k40, trivial⟩, fun q => absurd rfl q⟩⟩
      · rw [if_neg (by decide)]
        exact ⟨k1.1, fun q => absurd q cc, fun _ => ⟨k40, o1, fun q => absurd q (by decide), fun _ => k1.2⟩⟩
theorem nI_dn (k : Nat) : nI (k + 1) + (-1 : Int32) = nI k := by
  rw [← Int32.sub_eq_add_neg]
  exact nI_pred k
theorem ix40 (i n : Nat) : (40 : Int32) * nI i + nI n = nI (40 * i + n) := by
  rw [show (40 : Int32) = nI 40 from rfl, nI_m, nI_add]
theorem m_fnt (h : J sd sg B T ak S U) {i P : Nat} (hi : i < 4) (hP : P ≤ 40) (e : U.1 22 0 0 i = nI P) : ∀ k n, k ≤ P → k < n → f_M_propose_21 (nI i) n U (f_QC_firstNewTransaction_2 i 200 S (nI k)) (nI k + -1) = f_M_propose_21 (nI i) (n - k) U (f_QC_firstNewTransaction i S) (-1) ∧ (ok_M_propose_21 (nI i) (n - k) U (f_QC_firstNewTransaction i S) (-1) → ok_M_propose_21 (nI i) n U (f_QC_firstNewTransaction_2 i 200 S (nI k)) (nI k + -1)) := by
  have eS : S.1 3 i 0 6 = nI P := (h.e (Mp.pooled hi)).trans e
  obtain ⟨b, hb, eh⟩ := h.v.high i hi
  have ehS : S.1 3 i 0 11 = nI b := (h.e (Mp.high hi)).trans eh
  have i4 : vp_in (nI i) 4 := vp_in_nI hi (by decide)
  intro k
  induction k with
  | zero =>
    intro n _ hn
    have e0 : nI 0 + (-1 : Int32) = -1 := by decide
    rw [e0, Nat.sub_zero]
    exact ⟨rfl, fun o => o⟩
  | succ k ih =>
    intro n hk hn
    obtain ⟨n, rfl⟩ : ∃ n', n = n' + 1 := ⟨n - 1, by omega⟩
    have g := ih n (by omega) (by omega)
    have cc : ¬ nI P ≤ nI k := fun q => by
      have := (nI_leI (a := P) (b := k) (by omega) (by omega)).mp q
      omega
    have ep := h.e (Mp.pool hi (b := k) (by omega))
    obtain ⟨t, ht, et⟩ := h.v.pool i hi k (by omega) (by rw [e, nI_clamp (by omega)]; omega)
    obtain ⟨r, hr, e1, e2, o1, o2⟩ := j_inChain h (nI t) hb
    have ef : f_QC_firstNewTransaction_2 i 200 S (nI k) = if r = 0 then nI t else f_QC_firstNewTransaction_2 i 200 S (nI (k + 1)) := by
      rw [q_fnt_fuel hP eS 200 201 (k + 1) (by omega) (by omega) (by omega)] 
      conv => lhs; rw [q_fnt_fuel hP eS 200 202 k (by omega) (by omega) (by omega)]
      rw [f_QC_firstNewTransaction_2, eS, if_neg cc, lt, nI_clamp (by omega), ep, et, ehS, e1, nI_s]
    have p160 : vp_in (nI (40 * i + k)) 160 := vp_in_nI (by omega) (by decide)
    rw [f_M_propose_21, ok_M_propose_21, nI_dn, if_neg (nI_pos (by omega)), lt, lt, ix40, nI_clamp (by omega), nI_clamp (by omega), et, eh, e2, Nat.succ_sub_succ]
    rcases hr with rfl | rfl
    · rw [if_pos rfl] at ef ⊢
      rw [ef] at g
      exact ⟨g.1, fun o => ⟨fun q => absurd q (nI_pos (by omega)), fun _ => ⟨p160, i4, o2, fun _ => ⟨p160, g.2 o⟩, fun q => absurd rfl q⟩⟩⟩
    · rw [if_neg (by decide)] at ef ⊢
      rw [ef] at g
      exact ⟨g.1, fun o => ⟨fun q => absurd q (nI_pos (by omega)), fun _ => ⟨p160, i4, o2, fun q => absurd q (by decide), fun _ => g.2 o⟩⟩⟩
/-- a leader's proposal, both sides -/
theorem j_propose (h : J sd sg B T ak S U) {i : Nat} (hi : i < 4) : ∃ sg' B', J sd sg' B' T ak (f_QC_propose i S) (f_M_propose (nI i) U) ∧ ok_QC_propose i S ∧ ok_M_propose (nI i) U := by
  have i4 : vp_in (nI i) 4 := vp_in_nI hi (by decide)
  have eB := h.eB
  have hB2 := h.v.hB2
  by_cases c : B = 100
  · subst c
    unfold f_QC_propose f_M_propose ok_QC_propose ok_M_propose
    rw [eB, h.v.hB, if_neg (by decide), if_pos (by decide)]
    exact ⟨sg, 100, h, ⟨fun q => absurd q (by decide), fun _ => trivial⟩, ⟨fun _ => trivial, fun q => absurd (by decide) q⟩⟩
  · have hB : B < 100 := by omega
    have l : nI B < (100 : Int32) := (nI_ltI (a := B) (b := 100) (by omega) (by omega)).mpr hB
    have l2 : ¬ nI B = (100 : Int32) := fun q => by
      have := (nI_eq (a := B) (b := 100) (by omega) (by omega)).mp q
      omega
    obtain ⟨P, hP, eP⟩ := h.v.pooled i hi
    obtain ⟨v, hv1, hv2, ev, rv⟩ := h.v.view i hi
    obtain ⟨b, hb, eh⟩ := h.v.high i hi
    have evS : S.1 3 i 0 8 = nI v := (h.e (Mp.view hi)).trans ev
    have ehS : S.1 3 i 0 11 = nI b := (h.e (Mp.high hi)).trans eh
    have ft := q_fnt h hi hP eP 200 0 (by omega) (by omega)
    have mt := m_fnt h hi hP eP P 200 (by omega) (by omega)
    have eP1 : f_QC_firstNewTransaction_2 i 200 S (nI P) = -1 := by
      rw [f_QC_firstNewTransaction_2, (h.e (Mp.pooled hi)).trans eP, if_pos (Int32.le_refl _)]
    rw [eP1] at mt
    have eft : f_QC_firstNewTransaction i S = f_QC_firstNewTransaction_2 i 200 S (nI 0) := by
      unfold f_QC_firstNewTransaction
      rfl
    obtain ⟨S1, S2, U2, e1, e2, e3, j2, fr, e7, o1, o2, o3⟩ := j_newB h hi hB hv1 hv2 rv hb (t := f_QC_firstNewTransaction i S) (by rw [eft]; exact ft.1)
    obtain ⟨z, ez⟩ := m_mean 1 0 (nI B) U2
    have e1a := congrArg Prod.fst e1
    have e1b := congrArg Prod.snd e1
    simp only at e1a e1b
    have eQ : f_QC_propose i S = if (f_QC_writeSigned i 1 (nI B) 0 S2).1 = 0 then (f_QC_writeSigned i 1 (nI B) 0 S2).2 else f_QC_sendDraftToAll (f_QC_writeSigned i 1 (nI B) 0 S2).2 := by
      unfold f_QC_propose
      repeat rw [lt]
      rw [eB, if_pos l, evS, ehS, e1a, e1b, e2]
    have oQ : ok_QC_writeSigned i 1 (nI B) 0 S2 → (¬ (f_QC_writeSigned i 1 (nI B) 0 S2).1 = 0 → ok_QC_sendDraftToAll (f_QC_writeSigned i 1 (nI B) 0 S2).2) → ok_QC_propose i S := fun p q => by
      unfold ok_QC_propose
      repeat rw [lt]
      rw [eB, evS, ehS, e1, e2]
      exact ⟨fun _ => ⟨ft.2, o1, o2, p, fun _ => trivial, fun w => ⟨q w, trivial⟩⟩, fun w => absurd l w⟩
    have sub1 : nI P - 1 = nI P + (-1 : Int32) := Int32.sub_eq_add_neg _ _
    obtain ⟨n', en'⟩ : ∃ n', 200 - P = n' + 1 := ⟨199 - P, by omega⟩
    have eM : f_M_propose (nI i) U = if (f_M_signs (nI i) (mean 1 0 (nI B)) (fo U2 z)).1 = 0 then (f_M_signs (nI i) (mean 1 0 (nI B)) (fo U2 z)).2 else f_M_propose_112 (nI i) 200 (f_M_signs (nI i) (mean 1 0 (nI B)) (fo U2 z)).2 (nI B) 0 := by
      unfold f_M_propose
      rw [h.v.hB, if_neg l2, nI_clamp (by omega), eP, sub1, mt.1, en', f_M_propose_21, if_pos (by decide), lt, lt, lt, nI_clamp (by omega), ev, eh, e3, ez]
    have oM : ok_M_signs (nI i) (mean 1 0 (nI B)) (fo U2 z) → (¬ (f_M_signs (nI i) (mean 1 0 (nI B)) (fo U2 z)).1 = 0 → ok_M_propose_112 (nI i) 200 (f_M_signs (nI i) (mean 1 0 (nI B)) (fo U2 z)).2 (nI B) 0) → ok_M_propose (nI i) U := fun p q => by
      unfold ok_M_propose
      rw [h.v.hB, nI_clamp (by omega), eP, sub1]
      refine ⟨fun w => absurd w l2, fun _ => ⟨i4, mt.2 ?_⟩⟩
      rw [en', ok_M_propose_21]
      refine ⟨fun _ => ?_, fun w => absurd (by decide) w⟩
      repeat rw [lt]
      rw [nI_clamp (by omega), ev, eh, e3]
      simp only
      rw [ez]
      exact ⟨i4, i4, o3, p, fun _ => trivial, q⟩
    obtain ⟨u, hu, eu⟩ := j2.v.used i hi
    rw [eQ, eM]
    by_cases hu32 : u = 32
    · subst hu32
      obtain ⟨S3, w1, w2, j3, p1, p2⟩ := j_sign0 j2 hi eu 1 (nI B) 0 z
      rw [w1] at oQ ⊢
      rw [w2] at oM ⊢
      rw [if_pos rfl, if_pos rfl]
      exact ⟨sg, B + 1, j3, oQ p1 (fun q => absurd rfl q), oM p2 (fun q => absurd rfl q)⟩
    · obtain ⟨S3, U3, w1, w2, j3, d3, k40, fr3, e18, p1, p2⟩ := j_sign j2 hi (u := u) (by omega) eu 1 (nI B) 0 (by decide) 0 z
      have n10 : ¬ (1 : Int32) = 0 := by decide
      have ms : MsgOk (upn sg (32 * i + u) 0) (B + 1) (U3.1 18 0 0) (U3.1 7 0 0) 1 (nI i) (nI B) 0 (U3.1 1 0 0 40) := by
        rw [k40]
        exact ⟨⟨1, by decide, by decide, rfl⟩, ⟨i, hi, rfl⟩, ⟨B, by omega, rfl, fun _ => h.v.hB1⟩, ⟨0, by decide, rfl⟩, fun _ => ⟨u, by omega, rfl⟩, fun q => absurd (by decide) q, fun q => absurd q (by decide), fun q => absurd q (by decide)⟩
      have g := j_all1 200 200 0 S3 U3 (by omega) (by omega) (by omega) j3 d3 ms
      rw [w1] at oQ ⊢
      rw [w2] at oM ⊢
      rw [if_neg n10, if_neg n10]
      exact ⟨_, B + 1, g.1, oQ p1 (fun _ => g.2.1), oM p2 (fun _ => g.2.2)⟩
end
/-! Committing, both sides. -/
theorem ix4 (i n : Nat) : (4 : Int32) * nI i + nI n = nI (4 * i + n) := by
  rw [show (4 : Int32) = nI 4 from rfl, nI_m, nI_add]
theorem ix101 (i n : Nat) : (101 : Int32) * nI i + nI n = nI (101 * i + n) := by
  rw [show (101 : Int32) = nI 101 from rfl, nI_m, nI_add]
theorem q_isAcc {i : Nat} (hi : i < 4) (S : St) : f_QC_isAccount (nI i) S = 1 := by
  unfold f_QC_isAccount
  rw [if_neg (nI_pos (by omega)), if_neg (lit4n hi)]
section
variable {sd : Int32} {sg : Nat → Nat} {B T : Nat} {ak : Int32} {S U : St}
theorem q_tex (h : J sd sg B T ak S U) {t : Nat} (ht : t < T) : f_Transactions_exists (nI t) S = 1 := by
  have hT2 := h.v.hT2
  unfold f_Transactions_exists
  rw [(h.e Mp.txs).trans h.v.hT, if_neg (nI_pos (by omega)), if_neg (fun q => by
    have := (nI_leI (a := T) (b := t) (by omega) (by omega)).mp q
    omega)]
theorem q_texm : f_Transactions_exists (-1) S = 0 := by
  unfold f_Transactions_exists
  rw [if_pos (by decide)]
theorem j_carry (h : J sd sg B T ak S U) {i t : Nat} (hi : i < 4) (ht : t < T) : J sd sg B T ak (f_Transactions_carryOut (nI t) i S) (f_M_carryOut (nI i) (nI t) U) ∧ ok_Transactions_carryOut (nI t) i S ∧ ok_M_carryOut (nI i) (nI t) U ∧ (∀ k, k ≠ 26 → k ≠ 27 → (f_M_carryOut (nI i) (nI t) U).1 k 0 0 = U.1 k 0 0) := by
  have hT2 := h.v.hT2
  have t40 : vp_in (nI t) 40 := vp_in_nI (by omega) (by decide)
  obtain ⟨f, hf, ef⟩ := h.v.fr t ht
  obtain ⟨g, hg, eg⟩ := h.v.to t ht
  have efS : S.1 25 0 0 t = nI f := (h.e (Mp.fr (by omega))).trans ef
  have egS : S.1 26 0 0 t = nI g := (h.e (Mp.to (by omega))).trans eg
  have eaS : S.1 27 0 0 t = U.1 5 0 0 t := h.e (Mp.am (by omega))
  have enS : S.1 28 0 0 t = U.1 6 0 0 t := h.e (Mp.no (by omega))
  have f4 : vp_in (nI f) 4 := vp_in_nI hf (by decide)
  have g4 : vp_in (nI g) 4 := vp_in_nI hg (by decide)
  have f16 : vp_in (nI (4 * i + f)) 16 := vp_in_nI (by omega) (by decide)
  have g16 : vp_in (nI (4 * i + g)) 16 := vp_in_nI (by omega) (by decide)
  have eno : S.1 9 i 0 f = U.1 27 0 0 (4 * i + f) := h.e (Mp.nonces hi hf)
  have emo : S.1 8 i 0 f = U.1 26 0 0 (4 * i + f) := h.e (Mp.money hi hf)
  unfold f_Transactions_carryOut f_M_carryOut ok_Transactions_carryOut ok_M_carryOut
  repeat rw [lt]
  rw [q_tex h ht, if_neg (by decide), nI_clamp (by omega), efS, egS, eaS, enS, ef, ix4, nI_clamp (by omega)]
  unfold f_Accounts_move ok_Accounts_move
  repeat rw [lt]
  rw [q_isAcc hf, q_isAcc hg, if_neg (by decide), if_neg (by decide), nI_clamp (by omega), nI_clamp (by omega), eno, emo]
  by_cases c1 : U.1 27 0 0 (4 * i + f) = U.1 6 0 0 t
  · rw [if_pos c1, if_pos c1]
    by_cases c2 : U.1 26 0 0 (4 * i + f) < U.1 5 0 0 t
    · rw [if_pos c2, if_pos c2]
      exact ⟨h, ⟨fun q => absurd q (by decide), fun _ => ⟨t40, t40, t40, t40, ⟨fun q => absurd q (by decide), fun _ => ⟨fun q => absurd q (by decide), fun _ => ⟨f4, fun _ => ⟨f4, fun _ => trivial, fun q => absurd c2 q⟩, fun _ => trivial⟩⟩⟩, trivial⟩⟩, ⟨t40, f16, t40, fun _ => ⟨f16, t40, fun _ => trivial, fun q => absurd c2 q⟩, fun _ => trivial⟩, fun _ _ _ => rfl⟩
    · rw [if_neg c2, if_neg c2]
      have h1 := h.w (Mp.money hi hf) (U.1 26 0 0 (4 * i + f) - U.1 5 0 0 t) (h.v.w26 _ _)
      have eg1 : (si U 26 0 0 (4 * i + f) (U.1 26 0 0 (4 * i + f) - U.1 5 0 0 t)).1 4 0 0 t = nI g := eg
      have ea1 : (si U 26 0 0 (4 * i + f) (U.1 26 0 0 (4 * i + f) - U.1 5 0 0 t)).1 5 0 0 t = U.1 5 0 0 t := rfl
      rw [eg1, ea1, ix4, nI_clamp (by omega)]
      rw [h1.e (Mp.money hi hg)]
      obtain ⟨S1, hS1⟩ : ∃ z, z = si S 8 i 0 f (U.1 26 0 0 (4 * i + f) - U.1 5 0 0 t) := ⟨_, rfl⟩
      obtain ⟨U1, hU1⟩ : ∃ z, z = si U 26 0 0 (4 * i + f) (U.1 26 0 0 (4 * i + f) - U.1 5 0 0 t) := ⟨_, rfl⟩
      have fr1 : ∀ k, k ≠ 26 → k ≠ 27 → U1.1 k 0 0 = U.1 k 0 0 := fun k n26 n27 => by
        funext y
        rw [hU1, si_i, if_neg (fun q => n26 q.1)]
      rw [← hS1, ← hU1] at h1 ⊢
      have h2 := h1.w (Mp.money hi hg) (U1.1 26 0 0 (4 * i + g) + U.1 5 0 0 t) (h1.v.w26 _ _)
      rw [h2.e (Mp.nonces hi hf)]
      have h3 := h2.w (Mp.nonces hi hf) ((si U1 26 0 0 (4 * i + g) (U1.1 26 0 0 (4 * i + g) + U.1 5 0 0 t)).1 27 0 0 (4 * i + f) + 1) (h2.v.w27 _ _)
      refine ⟨h3, ⟨fun q => absurd q (by decide), fun _ => ⟨t40, t40, t40, t40, ⟨fun q => absurd q (by decide), fun _ => ⟨fun q => absurd q (by decide), fun _ => ⟨f4, fun _ => ⟨f4, fun q => absurd q c2, fun _ => ⟨f4, f4, g4, g4, f4, f4, trivial⟩⟩, fun q => absurd c1 q⟩⟩⟩, trivial⟩⟩, ⟨t40, f16, t40, fun _ => ⟨f16, t40, fun q => absurd q c2, fun _ => ⟨f16, t40, f16, t40, g16, t40, g16, f16, f16, trivial⟩⟩, fun q => absurd c1 q⟩, fun k n26 n27 => ?_⟩
      rw [← fr1 k n26 n27]
      funext y
      rw [si_i, if_neg (fun q => n27 q.1), si_i, if_neg (fun q => n26 q.1)]
  · rw [if_neg c1, if_neg c1]
    exact ⟨h, ⟨fun q => absurd q (by decide), fun _ => ⟨t40, t40, t40, t40, ⟨fun q => absurd q (by decide), fun _ => ⟨fun q => absurd q (by decide), fun _ => ⟨f4, fun q => absurd q c1, fun _ => trivial⟩⟩⟩, trivial⟩⟩, ⟨t40, f16, t40, fun q => absurd q c1, fun _ => trivial⟩, fun _ _ _ => rfl⟩
end
theorem j_carries {sd : Int32} {sg : Nat → Nat} {B T : Nat} {ak : Int32} {i L d : Nat} (hi : i < 4) (hL : L + d ≤ 100) (r r' : Int32) (n : Nat) : ∀ (m k : Nat) (S U : St), k ≤ L + d → L + d - k < n → L + d - k < m → J sd sg B T ak S U → U.1 24 0 0 i = nI (L + d) → J sd sg B T ak (f_QC_commitUpTo_90 i r n S (nI d) (nI L) (nI k)) (f_M_commit_125 (nI i) r' m U (nI k)) ∧ ok_QC_commitUpTo_90 i r n S (nI d) (nI L) (nI k) ∧ ok_M_commit_125 (nI i) r' m U (nI k) := by
  have i4 : vp_in (nI i) 4 := vp_in_nI hi (by decide)
  induction n with
  | zero => exact fun m k S U _ h => absurd h (Nat.not_lt_zero _)
  | succ n ih =>
    intro m k S U hk hn hm h e
    obtain ⟨m, rfl⟩ : ∃ n', m = n' + 1 := ⟨m - 1, by omega⟩
    have hB2 := h.v.hB2
    rw [f_QC_commitUpTo_90, f_M_commit_125, ok_QC_commitUpTo_90, ok_M_commit_125, nI_add, nI_clamp (by omega : i < 2 ^ 31), e]
    by_cases c : k = L + d
    · subst c
      rw [if_pos (Int32.le_refl _), if_pos (Int32.le_refl _)]
      exact ⟨h, ⟨fun _ => trivial, fun q => absurd (Int32.le_refl _) q⟩, i4, fun _ => trivial, fun q => absurd (Int32.le_refl _) q⟩
    · have cc : ¬ nI (L + d) ≤ nI k := fun q => by
        have := (nI_leI (a := L + d) (b := k) (by omega) (by omega)).mp q
        omega
      obtain ⟨b, hb, eb⟩ := h.v.log i hi k (by omega) (by rw [e, nI_clamp (by omega)]; omega)
      have ebS : S.1 6 i 0 k = nI b := (h.e (Mp.log hi (by omega))).trans eb
      have tx := q_txOf h hb
      have k100 : vp_in (nI k) 100 := vp_in_nI (by omega) (by decide)
      have b100 : vp_in (nI b) 100 := vp_in_nI (by omega) (by decide)
      have p404 : vp_in (nI (101 * i + k)) 404 := vp_in_nI (by omega) (by decide)
      rw [if_neg cc, if_neg cc, ix101, nI_clamp (by omega : k < 2 ^ 31), nI_clamp (by omega), ebS, eb, nI_clamp (by omega)]
      rcases h.v.car b hb with et | ⟨t, ht, et⟩
      · have g := ih m (k + 1) S U (by omega) (by omega) (by omega) h e
        have oc : ok_Transactions_carryOut (-1) i S := by
          unfold ok_Transactions_carryOut
          rw [lt, q_texm]
          exact ⟨fun _ => trivial, fun q => absurd rfl q⟩
        have ec : f_Transactions_carryOut (-1) i S = S := by
          unfold f_Transactions_carryOut
          rw [lt, q_texm, if_pos rfl]
        rw [lt, lt, lt, lt, tx.1, et, if_pos rfl, ec, nI_s]
        exact ⟨g.1, ⟨fun q => absurd q cc, fun _ => ⟨k100, tx.2, oc, g.2.1⟩⟩, i4, fun q => absurd q cc, fun _ => ⟨p404, b100, fun _ => g.2.2, fun q => absurd rfl q⟩⟩
      · have y := j_carry h hi ht
        have g := ih m (k + 1) _ _ (by omega) (by omega) (by omega) y.1 (by rw [y.2.2.2 24 (by decide) (by decide)]; exact e)
        have m1 := nI_ne1 (n := t) (by have := h.v.hT2; omega)
        rw [lt, lt, lt, lt, lt, lt, tx.1, et, if_neg m1, nI_s]
        exact ⟨g.1, ⟨fun q => absurd q cc, fun _ => ⟨k100, tx.2, y.2.1, g.2.1⟩⟩, i4, fun q => absurd q cc, fun _ => ⟨p404, b100, fun q => absurd q m1, fun _ => ⟨y.2.2.1, g.2.2⟩⟩⟩
/-- the reference counts the steps -/
theorem m_count {U : St} {B i r c L : Nat} {f : Nat → Int32} (hB : B ≤ 100) (hi : i < 4) (ef : U.1 8 0 0 = f) (eL : U.1 24 0 0 i = nI L) (hL : L ≤ 100) {j : Nat} {x : Int32} (g : Stq f B (nI c) j x true) : ∀ (n k : Nat), j < n → f_M_commit_40 (nI i) (nI r) n U (nI c) (nI k) x = f_M_commit_86 (nI i) (nI r) 200 (si U 24 0 0 i (nI (L + (k + j)))) (nI c) (nI (L + (k + j))) (nI r) ∧ (ok_M_commit_86 (nI i) (nI r) 200 (si U 24 0 0 i (nI (L + (k + j)))) (nI c) (nI (L + (k + j))) (nI r) → ok_M_commit_40 (nI i) (nI r) n U (nI c) (nI k) x) := by
  have i4 : vp_in (nI i) 4 := vp_in_nI hi (by decide)
  generalize hb : true = tt at g
  induction g using Stq.elim with
  | hit hc =>
    intro n k hn
    obtain ⟨n, rfl⟩ : ∃ n', n = n' + 1 := ⟨n - 1, by omega⟩
    rw [f_M_commit_40, ok_M_commit_40, if_pos rfl, lt, lt, nI_clamp (by omega), eL, nI_add, Nat.add_zero]
    exact ⟨rfl, fun o => ⟨fun _ => ⟨i4, i4, i4, o⟩, fun q => absurd rfl q⟩⟩
  | out => cases hb
  | @s a j r' ha hcc _ ih =>
    intro n k hn
    obtain ⟨n, rfl⟩ : ∃ n', n = n' + 1 := ⟨n - 1, by omega⟩
    have e := ih hb n (k + 1) (by omega)
    rw [f_M_commit_40, ok_M_commit_40, if_neg hcc, nI_clamp (by omega), nI_s, ef]
    rw [show k + 1 + j = k + (j + 1) by omega] at e
    exact ⟨e.1, fun o => ⟨fun q => absurd q hcc, fun _ => ⟨vp_in_nI (by omega) (by decide), e.2 o⟩⟩⟩
/-- the log as it is written, from its upper end down -/
abbrev Lg (f g : Nat → Int32) (B L : Nat) (c : Int32) (j : Nat) (x : Int32) : Prop := (j = 0 → x = c) ∧ (0 < j → g (L + j - 1) = x) ∧ (∀ t, t < j → ∃ b, b < B ∧ g (L + t) = nI b ∧ f b = if t = 0 then c else g (L + t - 1))
theorem Lg.mk {f g : Nat → Int32} {B L : Nat} {c : Int32} {j : Nat} {x : Int32} (z : j = 0 → x = c) (t : 0 < j → g (L + j - 1) = x) (e : ∀ t, t < j → ∃ b, b < B ∧ g (L + t) = nI b ∧ f b = if t = 0 then c else g (L + t - 1)) : Lg f g B L c j x := ⟨z, t, e⟩
theorem Lg.z {f g : Nat → Int32} {B L : Nat} {c : Int32} {j : Nat} {x : Int32} (h : Lg f g B L c j x) : j = 0 → x = c := h.1
theorem Lg.t {f g : Nat → Int32} {B L : Nat} {c : Int32} {j : Nat} {x : Int32} (h : Lg f g B L c j x) : 0 < j → g (L + j - 1) = x := h.2.1
theorem Lg.e {f g : Nat → Int32} {B L : Nat} {c : Int32} {j : Nat} {x : Int32} (h : Lg f g B L c j x) : ∀ t, t < j → ∃ b, b < B ∧ g (L + t) = nI b ∧ f b = if t = 0 then c else g (L + t - 1) := h.2.2
theorem j_log {sd : Int32} {B i r c L d : Nat} {f : Nat → Int32} (hB : B ≤ 100) (hi : i < 4) (hL1 : 1 ≤ L) (hL : L + d ≤ 100) {j : Nat} {x : Int32} (g : Stq f B (nI c) j x true) : ∀ (n m : Nat) (S U : St), j < n → j < m → j ≤ d → Rel sd (si S 4 i 0 5 (nI (L + d))) U → U.1 8 0 0 = f → U.1 1 0 0 11 = nI B → ∃ S' U', f_QC_commitUpTo_45 i (nI r) n S (nI d) (nI L) x (nI (L + j - 1)) = f_QC_commitUpTo_90 i (nI r) 200 (si S' 4 i 0 5 (nI (L + d))) (nI d) (nI L) (nI L) ∧ f_M_commit_86 (nI i) (nI r) m U (nI c) (nI (L + j)) x = f_M_commit_125 (nI i) (nI r) 200 U' (nI L) ∧ Rel sd (si S' 4 i 0 5 (nI (L + d))) U' ∧ S'.1 14 = S.1 14 ∧ (∀ k, k ≠ 25 → U'.1 k 0 0 = U.1 k 0 0) ∧ (∀ y, y < 101 * i + L ∨ 101 * i + L + j ≤ y → U'.1 25 0 0 y = U.1 25 0 0 y) ∧ Lg f (fun t => U'.1 25 0 0 (101 * i + t)) B L (nI c) j x ∧ (ok_QC_commitUpTo_90 i (nI r) 200 (si S' 4 i 0 5 (nI (L + d))) (nI d) (nI L) (nI L) → ok_QC_commitUpTo_45 i (nI r) n S (nI d) (nI L) x (nI (L + j - 1))) ∧ (ok_M_commit_125 (nI i) (nI r) 200 U' (nI L) → ok_M_commit_86 (nI i) (nI r) m U (nI c) (nI (L + j)) x) := by
  generalize hb : true = tt at g
  induction g using Stq.elim with
  | hit hc =>
    intro n m S U hn hm hj h ef eB
    obtain ⟨n, rfl⟩ : ∃ n', n = n' + 1 := ⟨n - 1, by omega⟩
    obtain ⟨m, rfl⟩ : ∃ n', m = n' + 1 := ⟨m - 1, by omega⟩
    have l : nI (L + 0 - 1) < nI L := (nI_ltI (by omega) (by omega)).mpr (by omega)
    rw [f_QC_commitUpTo_45, ok_QC_commitUpTo_45, f_M_commit_86, ok_M_commit_86, if_pos l, if_pos rfl, lt, lt, nI_add, Nat.add_zero]
    exact ⟨S, U, rfl, rfl, h, rfl, fun _ _ => rfl, fun _ _ => rfl, ⟨fun _ => rfl, fun q => absurd q (Nat.lt_irrefl _), fun t q => absurd q (Nat.not_lt_zero _)⟩, fun o => ⟨fun _ => o, fun q => absurd l q⟩, fun o => ⟨fun _ => o, fun q => absurd rfl q⟩⟩
  | out => cases hb
  | @s a j r' ha hcc gg ih =>
    intro n m S U hn hm hj h ef eB
    obtain ⟨n, rfl⟩ : ∃ n', n = n' + 1 := ⟨n - 1, by omega⟩
    obtain ⟨m, rfl⟩ : ∃ n', m = n' + 1 := ⟨m - 1, by omega⟩
    have e1 : L + (j + 1) - 1 = L + j := by omega
    have l : ¬ nI (L + j) < nI L := fun q => by
      have := (nI_ltI (by omega) (by omega)).mp q
      omega
    have e2 : nI (L + j) + (-1 : Int32) = nI (L + j - 1) := by
      conv => lhs; rw [show L + j = (L + j - 1) + 1 by omega]
      exact nI_dn _
    have e3 : nI (L + (j + 1)) + (-1 : Int32) = nI (L + j) := nI_dn (L + j)
    have hlog : L + j < 100 := by omega
    have h' : Rel sd (si (si S 6 i 0 (L + j) (nI a)) 4 i 0 5 (nI (L + d))) (si U 25 0 0 (101 * i + (L + j)) (nI a)) := by
      rw [si_comm _ (k := 6) (k' := 4) (by decide)]
      exact h.w (Mp.log hi hlog) (by decide) (by decide) (nI a)
    have pS : f_Blocks_parentOf (nI a) (si S 6 i 0 (L + j) (nI a)) = f a ∧ ok_Blocks_parentOf (nI a) (si S 6 i 0 (L + j) (nI a)) := by
      have ex : f_Blocks_exists (nI a) (si S 6 i 0 (L + j) (nI a)) = 1 := q_ex (B := B) ((h.m Mp.blocks).trans eB) ha hB
      unfold f_Blocks_parentOf ok_Blocks_parentOf
      rw [lt, lt, ex, if_neg (by decide), nI_clamp (by omega)]
      refine ⟨?_, fun q => absurd q (by decide), fun _ => ⟨vp_in_nI (by omega) (by decide), trivial⟩⟩
      rw [← ef]
      exact h.m (Mp.par (by omega))
    obtain ⟨S', U', q1, q2, q3, q4, q5, q6, q7, o1, o2⟩ := ih hb n m (si S 6 i 0 (L + j) (nI a)) (si U 25 0 0 (101 * i + (L + j)) (nI a)) (by omega) (by omega) (by omega) h' ef eB
    have ua : (si U 25 0 0 (101 * i + (L + j)) (nI a)).1 8 0 0 a = f a := by rw [← ef]; rfl
    rw [f_QC_commitUpTo_45, ok_QC_commitUpTo_45, f_M_commit_86, ok_M_commit_86, e1, if_neg l, if_neg hcc, lt, lt, lt, lt, lt, lt, nI_clamp (by omega : L + j < 2 ^ 31), pS.1, e2, e3, ix101, nI_clamp (by omega : 101 * i + (L + j) < 2 ^ 31), nI_clamp (by omega : a < 2 ^ 31), ua]
    refine ⟨S', U', q1, q2, q3, q4, fun k hk => ?_, fun y hy => ?_, ⟨fun q => by omega, fun _ => ?_, fun t ht => ?_⟩, fun o => ⟨fun q => absurd q l, fun _ => ⟨vp_in_nI hlog (by decide), pS.2, o1 o⟩⟩, fun o => ⟨fun q => absurd q hcc, fun _ => ⟨vp_in_nI (by omega) (by decide), vp_in_nI (by omega) (by decide), (by rw [ua]; exact o2 o)⟩⟩⟩
    · rw [q5 k hk]
      funext y
      rw [si_i, if_neg (fun q => hk q.1)]
    · rw [q6 y (by omega), si_i, if_neg (fun q => by omega)]
    · show U'.1 25 0 0 (101 * i + (L + (j + 1) - 1)) = nI a
      rw [e1, q6 _ (by omega), si_rd]
    · by_cases c' : t = j
      · subst c'
        refine ⟨a, ha, ?_, ?_⟩
        · show U'.1 25 0 0 (101 * i + (L + t)) = nI a
          rw [q6 _ (by omega), si_rd]
        · by_cases t0 : t = 0
          · rw [if_pos t0]
            exact q7.z t0
          · rw [if_neg t0]
            exact (q7.t (by omega)).symm
      · exact q7.e t (by omega)
theorem log_ge {sg : Nat → Nat} {B T : Nat} {U : St} (h : Ivt sg B T U) {i : Nat} (hi : i < 4) (k : Nat) : k < 100 → k < (U.1 24 0 0 i).toNatClampNeg → ∃ b, k ≤ b ∧ b < B ∧ U.1 25 0 0 (101 * i + k) = nI b := by
  have hB2 := h.hB2
  induction k with
  | zero =>
    intro _ _
    exact ⟨0, by omega, h.hB1, by rw [Nat.add_zero, h.log0 i hi]; rfl⟩
  | succ k ih =>
    intro h1 h2
    obtain ⟨b, hk, hb, e⟩ := ih (by omega) (by omega)
    obtain ⟨b', hb', e'⟩ := h.log i hi (k + 1) h1 h2
    have p := h.logP i hi k h1 h2
    rw [e, e', nI_clamp (by omega)] at p
    by_cases b0 : b' = 0
    · subst b0
      rw [h.par0] at p
      exact absurd p.symm (nI_ne1 (by omega))
    · obtain ⟨q, hq, eq⟩ := h.par b' (by omega) hb'
      have := (nI_eq (by omega) (by omega)).mp (p.symm.trans eq)
      exact ⟨b', by omega, hb', e'⟩
theorem stq_ge {sg : Nat → Nat} {B T : Nat} {U : St} (h : Ivt sg B T U) {c j : Nat} {x : Int32} (hc : c < B) (g : Stq (U.1 8 0 0) B (nI c) j x true) : ∀ a, a < B → x = nI a → c + j ≤ a := by
  have hB2 := h.hB2
  generalize hb : true = tt at g
  induction g using Stq.elim with
  | hit _ =>
    intro a ha e
    have := (nI_eq (by omega) (by omega)).mp e
    omega
  | out => cases hb
  | @s a' j r ha' _ gg ih =>
    intro a ha e
    have ea := (nI_eq (by omega) (by omega)).mp e
    subst ea
    by_cases a0 : a' = 0
    · subst a0
      rw [h.par0] at gg
      generalize hx : (-1 : Int32) = x at gg
      cases gg using Stq.elim with
      | hit => exact absurd hx.symm (nI_ne1 (by omega))
      | out => cases hb
      | s k _ _ => exact absurd hx.symm (nI_ne1 (by omega))
    · obtain ⟨p, hp, ep⟩ := h.par a' (by omega) ha'
      have := ih hb p (by omega) ep
      omega
/-- the invariant with a longer log -/
theorem Ivt.logs {sg : Nat → Nat} {B T : Nat} {U U' : St} (h : Ivt sg B T U) {i L d c : Nat} {x : Int32} (hi : i < 4) (hL1 : 1 ≤ L) (hL : L + d ≤ 100) (eL : U.1 24 0 0 i = nI L) (ec : U.1 25 0 0 (101 * i + (L - 1)) = nI c) (e24 : U'.1 24 0 0 = upd (U.1 24 0 0) i (nI (L + d))) (e25 : ∀ y, y < 101 * i + L ∨ 101 * i + L + d ≤ y → U'.1 25 0 0 y = U.1 25 0 0 y) (eo : ∀ k, k ≠ 24 → k ≠ 25 → U'.1 k 0 0 = U.1 k 0 0) (lg : Lg (U.1 8 0 0) (fun t => U'.1 25 0 0 (101 * i + t)) B L (nI c) d x) : Ivt sg B T U' := by
  have hB2 := h.hB2
  have eLn : (U.1 24 0 0 i).toNatClampNeg = L := by rw [eL, nI_clamp (by omega)]
  have u1 : ∀ i', i' ≠ i → upd (U.1 24 0 0) i (nI (L + d)) i' = U.1 24 0 0 i' := fun i' hne => by
    unfold upd
    rw [if_neg hne]
  apply Ivt.mk
  case logged =>
    intro i' hi'
    rw [e24]
    by_cases c' : i' = i
    · subst c'
      rw [upd_same]
      exact ⟨L + d, by omega, hL, rfl⟩
    · rw [u1 i' c']
      exact h.logged i' hi'
  case log0 =>
    intro i' hi'
    rw [e25 _ (by omega)]
    exact h.log0 i' hi'
  case log =>
    intro i' hi' k h1 h2
    rw [e24] at h2
    by_cases c' : i' = i
    · subst c'
      rw [upd_same, nI_clamp (by omega)] at h2
      by_cases ck : k < L
      · rw [e25 _ (by omega)]
        exact h.log i' hi' k h1 (by rw [eLn]; exact ck)
      · obtain ⟨b, hb, e, _⟩ := lg.e (k - L) (by omega)
        rw [show L + (k - L) = k by omega] at e
        exact ⟨b, hb, e⟩
    · rw [u1 i' c'] at h2
      rw [e25 _ (by omega)]
      exact h.log i' hi' k h1 h2
  case logP =>
    rw [eo 8 (by decide) (by decide)]
    intro i' hi' k h1 h2
    rw [e24] at h2
    by_cases c' : i' = i
    · subst c'
      rw [upd_same, nI_clamp (by omega)] at h2
      by_cases ck : k + 1 < L
      · rw [e25 _ (by omega), e25 _ (by omega)]
        exact h.logP i' hi' k h1 (by rw [eLn]; exact ck)
      · obtain ⟨b, hb, e, p⟩ := lg.e (k + 1 - L) (by omega)
        rw [show L + (k + 1 - L) = k + 1 by omega] at e
        have e' : U'.1 25 0 0 (101 * i' + (k + 1)) = nI b := e
        rw [e', nI_clamp (by omega), p]
        by_cases t0 : k + 1 - L = 0
        · rw [if_pos t0, e25 _ (by omega), show k = L - 1 by omega, ec]
        · rw [if_neg t0]
          show U'.1 25 0 0 (101 * i' + (L + (k + 1 - L) - 1)) = _
          rw [show L + (k + 1 - L) - 1 = k by omega]
    · rw [u1 i' c'] at h2
      rw [e25 _ (by omega), e25 _ (by omega)]
      exact h.logP i' hi' k h1 h2
  case msgs =>
    rw [eo 28 (by decide) (by decide), eo 18 (by decide) (by decide), eo 7 (by decide) (by decide), eo 29 (by decide) (by decide), eo 30 (by decide) (by decide), eo 31 (by decide) (by decide), eo 32 (by decide) (by decide), eo 33 (by decide) (by decide)]
    exact h.msgs
  all_goals try simp only [eo 1 (by decide) (by decide), eo 8 (by decide) (by decide), eo 7 (by decide) (by decide), eo 9 (by decide) (by decide), eo 3 (by decide) (by decide), eo 4 (by decide) (by decide), eo 12 (by decide) (by decide), eo 14 (by decide) (by decide), eo 15 (by decide) (by decide), eo 17 (by decide) (by decide), eo 16 (by decide) (by decide), eo 18 (by decide) (by decide), eo 19 (by decide) (by decide), eo 20 (by decide) (by decide), eo 21 (by decide) (by decide), eo 22 (by decide) (by decide), eo 23 (by decide) (by decide), eo 28 (by decide) (by decide)]
  · exact h.hB
  · exact h.hB1
  · exact h.hB2
  · exact h.hT
  · exact h.hT2
  · exact h.par0
  · exact h.par
  · exact h.vw0
  · exact h.vw
  · exact h.car
  · exact h.fr
  · exact h.to
  · exact h.view
  · exact h.span
  · exact h.high
  · exact h.locked
  · exact h.voted
  · exact h.used
  · exact h.has0
  · exact h.hasB
  · exact h.hasV
  · exact h.votes
  · exact h.votesB
  · exact h.votesM
  · exact h.touts
  · exact h.toutsM
  · exact h.pooled
  · exact h.pool
  · exact h.poolD
  · exact h.fly
theorem j_commit {sd : Int32} {sg : Nat → Nat} {B T : Nat} {ak : Int32} {S U : St} (h : J sd sg B T ak S U) {i r : Nat} (hi : i < 4) (hr : r < B) : J sd sg B T ak (f_QC_commitUpTo i (nI r) S) (f_M_commit (nI i) (nI r) U) ∧ ok_QC_commitUpTo i (nI r) S ∧ ok_M_commit (nI i) (nI r) U := by
  have i4 : vp_in (nI i) 4 := vp_in_nI hi (by decide)
  have hB2 := h.v.hB2
  obtain ⟨L, hL1, hL2, eL⟩ := h.v.logged i hi
  have eLn : (U.1 24 0 0 i).toNatClampNeg = L := by rw [eL, nI_clamp (by omega)]
  obtain ⟨c, hcL, hc, ec⟩ := log_ge h.v hi (L - 1) (by omega) (by rw [eLn]; omega)
  have eLS : S.1 4 i 0 5 = nI L := (h.e (Mp.logged hi)).trans eL
  have em1 : nI L - (1 : Int32) = nI (L - 1) := nI_sub (b := 1) hL1
  have ecS : S.1 6 i 0 (L - 1) = nI c := (h.e (Mp.log hi (by omega))).trans ec
  have nl : ¬ nI L ≤ nI (L - 1) := fun q => by
    have := (nI_leI (by omega) (by omega)).mp q
    omega
  have p0 := nI_pos (n := L - 1) (by omega)
  have la : f_Store_lastLogged i S = nI c ∧ ok_Store_lastLogged i S := by
    unfold f_Store_lastLogged ok_Store_lastLogged f_Store_logged ok_Store_logged
    rw [lt, eLS, em1, if_neg p0, if_neg nl, nI_clamp (by omega), ecS]
    exact ⟨rfl, ⟨fun q => absurd q p0, fun _ => ⟨fun q => absurd q nl, fun _ => ⟨vp_in_nI (by omega) (by decide), trivial⟩⟩⟩, trivial⟩
  have c1 : nI c ≠ -1 := nI_ne1 (by omega)
  obtain ⟨d, rr, hd1, hd2, g⟩ := stp_ex h.v c1 r hr
  have st := q_steps h hr hd1 hd2 g
  have e101 : (101 : Int32) * nI i + nI L - 1 = nI (101 * i + (L - 1)) := by
    rw [ix101, show 101 * i + (L - 1) = 101 * i + L - 1 by omega]
    exact nI_sub (b := 1) (by omega)
  have p404 : vp_in (nI (101 * i + (L - 1))) 404 := vp_in_nI (by omega) (by decide)
  obtain ⟨rb, hrb, _, eb, _, ob⟩ := j_below h hr hc
  unfold f_QC_commitUpTo f_M_commit ok_QC_commitUpTo ok_M_commit
  rw [lt, lt, lt, lt, lt, lt, la.1, st.1, eLS, nI_clamp (by omega : i < 2 ^ 31), eL, e101, nI_clamp (by omega : 101 * i + (L - 1) < 2 ^ 31), ec]
  cases rr with
  | false =>
    have hne : ¬ nI c = nI r := fun q => by
      have := stp_self g q.symm c1
      cases this.2
    obtain ⟨d', e', g'⟩ := stp_inv g rfl (by omega) (by omega) (fun q => hne q.symm)
    have r0 : rb = 0 := by
      have m := (m_below_l h.v (nI r) c1 g' 200 (by omega)).1
      have e2 : f_M_below (nI c) (nI r) U = 0 := by
        unfold f_M_below
        rw [nI_clamp (by omega)]
        exact m
      exact eb.symm.trans e2
    have e1 : (if false = true then nI d else (-1 : Int32)) = -1 := rfl
    rw [e1, if_pos rfl, if_neg hne, eb, r0, if_pos rfl]
    exact ⟨h, ⟨la.2, st.2, fun _ => trivial, fun q => absurd rfl q⟩, i4, p404, fun _ => trivial, fun _ => ⟨ob, fun _ => trivial, fun q => absurd rfl q⟩⟩
  | true =>
    have hge := stq_ge h.v hc g r hr rfl
    have hLd : L + d ≤ 100 := by omega
    have e1 : (if true = true then nI d else (-1 : Int32)) = nI d := rfl
    have nd1 : ¬ nI d = -1 := nI_ne1 (by omega)
    have le : nI (L + d) ≤ (100 : Int32) := (nI_leI (a := L + d) (b := 100) (by omega) (by omega)).mpr hLd
    have es : nI (L + d) - (1 : Int32) = nI (L + d - 1) := nI_sub (b := 1) (by omega)
    rw [e1, if_neg nd1, nI_add, if_pos le, es]
    by_cases heq : nI c = nI r
    · have s0 := stp_self g heq.symm c1
      have d0 := s0.1
      subst d0
      have l : nI (L + 0 - 1) < nI L := (nI_ltI (by omega) (by omega)).mpr (by omega)
      have s5 : si S 4 i 0 5 (nI L) = S := by
        rw [← eLS]
        exact si_same S 4 i 0 5
      have e9 : f_QC_commitUpTo_45 i (nI r) 200 S (nI 0) (nI L) (nI r) (nI (L + 0 - 1)) = S := by
        rw [f_QC_commitUpTo_45, if_pos l, lt, nI_add, Nat.add_zero, s5, f_QC_commitUpTo_90, nI_add, Nat.add_zero, if_pos (Int32.le_refl _)]
      have o9 : ok_QC_commitUpTo_45 i (nI r) 200 S (nI 0) (nI L) (nI r) (nI (L + 0 - 1)) := by
        rw [ok_QC_commitUpTo_45, lt, nI_add, Nat.add_zero, s5, ok_QC_commitUpTo_90, nI_add, Nat.add_zero]
        exact ⟨fun _ => ⟨fun _ => trivial, fun q => absurd (Int32.le_refl _) q⟩, fun q => absurd l q⟩
      rw [e9, if_pos heq]
      exact ⟨h, ⟨la.2, st.2, fun q => absurd q nd1, fun _ => ⟨fun _ => o9, fun q => absurd le q⟩⟩, i4, p404, fun _ => trivial, fun q => absurd heq q⟩
    · obtain ⟨d', e', g'⟩ := stp_inv g rfl (by omega) (by omega) (fun q => heq q.symm)
      have r1 : rb = 1 := by
        have m := (m_below_l h.v (nI r) c1 g' 200 (by omega)).1
        have e2 : f_M_below (nI c) (nI r) U = 1 := by
          unfold f_M_below
          rw [nI_clamp (by omega)]
          exact m
        exact eb.symm.trans e2
      have mc := m_count (r := r) (f := U.1 8 0 0) hB2 hi rfl eL hL2 g 200 0 (by omega)
      rw [Nat.zero_add] at mc
      have h1 : Rel sd (si S 4 i 0 5 (nI (L + d))) (si U 24 0 0 i (nI (L + d))) := h.r.w (Mp.logged hi) (by decide) (by decide) _
      obtain ⟨S', U', q1, q2, q3, q4, q5, q6, q7, o1, o2⟩ := j_log (sd := sd) (r := r) (f := U.1 8 0 0) hB2 hi hL1 hLd g 200 200 S (si U 24 0 0 i (nI (L + d))) (by omega) (by omega) (by omega) h1 rfl h.v.hB
      have e24 : U'.1 24 0 0 = upd (U.1 24 0 0) i (nI (L + d)) := by
        rw [q5 24 (by decide)]
        exact si_k U 24 i _
      have iv : Ivt sg B T U' := h.v.logs hi hL1 hLd eL ec e24 (fun y hy => by
        rw [q6 y hy]
        rfl) (fun k n24 n25 => by
        rw [q5 k n25]
        funext y
        rw [si_i, if_neg (fun q => n24 q.1)]) q7
      have j1 : J sd sg B T ak (si S' 4 i 0 5 (nI (L + d))) U' := J.mk q3 iv (by
        show S'.1 14 4 1 1 = ak
        rw [q4]
        exact h.a) (by
        rw [q5 1 (by decide)]
        exact h.t)
      have y := j_carries hi hLd (nI r) (nI r) 200 200 L _ _ (by omega) (by omega) (by omega) j1 (by rw [e24, upd_same])
      rw [q1, if_neg heq, eb, r1, if_neg (by decide), show (0 : Int32) = nI 0 from rfl, mc.1, q2]
      exact ⟨y.1, ⟨la.2, st.2, fun q => absurd q nd1, fun _ => ⟨fun _ => o1 y.2.1, fun q => absurd le q⟩⟩, i4, p404, fun q => absurd q heq, fun _ => ⟨ob, fun q => absurd q (by decide), fun _ => mc.2 (o2 y.2.2)⟩⟩
