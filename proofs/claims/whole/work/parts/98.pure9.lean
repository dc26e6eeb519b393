/-! The first states belong together. -/
theorem tLeaf_0 (lf : Nat → Int64) (k : Nat) (g : Nat → Int64) : tLeaf lf 0 k g = g := rfl
theorem tLeaf_s (lf : Nat → Int64) (n k : Nat) (g : Nat → Int64) : tLeaf lf (n + 1) k g = tLeaf lf n (k + 1) (vp_updL g (32 + k) (lf k)) := rfl
theorem tKnot_0 (g : Nat → Int64) : tKnot 0 g = g := rfl
theorem tKnot_s (n : Nat) (g : Nat → Int64) : tKnot (n + 1) g = tKnot n (vp_updL g (n + 1) (h2 (g (2 * (n + 1))) (g (2 * (n + 1) + 1)))) := rfl
def TrW (U V : St) (i : Nat) (g : Nat → Int64) : Prop := (∀ k y, k ≠ 36 → ¬ (k = 1 ∧ y = 40) → V.1 k 0 0 y = U.1 k 0 0 y) ∧ (∀ k y, ¬ (k = 1 ∧ y = 4) → k ≠ 35 → k ≠ 2 → V.2.1 k 0 0 y = U.2.1 k 0 0 y) ∧ (∀ y, V.2.1 2 0 0 y = if 64 * i ≤ y ∧ y < 64 * i + 64 then g (y - 64 * i) else U.2.1 2 0 0 y)
theorem TrW.scr {U V V' : St} {i : Nat} {g : Nat → Int64} (h : TrW U V i g) (s : Scr V V') : TrW U V' i g :=
  ⟨fun k y a b => (s.i k y a b).trans (h.1 k y a b), fun k y a b c => (s.l k y a b).trans (h.2.1 k y a b c), fun y => (s.l 2 y (fun q => by omega) (by decide)).trans (h.2.2 y)⟩
theorem TrW.put {U V : St} {i : Nat} {g : Nat → Int64} (h : TrW U V i g) {x : Nat} (hx : x < 64) (v : Int64) : TrW U (sl V 2 0 0 (64 * i + x) v) i (vp_updL g x v) := by
  refine ⟨h.1, fun k y a b c => ?_, fun y => ?_⟩
  · rw [sl_l, if_neg (fun q => c q.1)]
    exact h.2.1 k y a b c
  · rw [sl_l, h.2.2 y]
    unfold vp_updL
    by_cases c : y = 64 * i + x
    · rw [if_pos ⟨rfl, rfl, rfl, c⟩, if_pos (by omega), if_pos (by omega)]
    · rw [if_neg (fun q => c q.2.2.2)]
      by_cases d : 64 * i ≤ y ∧ y < 64 * i + 64
      · rw [if_pos d, if_pos d, if_neg (by omega)]
      · rw [if_neg d, if_neg d]
theorem TrW.rd {U V : St} {i : Nat} {g : Nat → Int64} (h : TrW U V i g) {x : Nat} (hx : x < 64) : V.2.1 2 0 0 (64 * i + x) = g x := by
  rw [h.2.2, if_pos (by omega), Nat.add_sub_cancel_left]
theorem m_i453 (a1 : Int32) (i k : Nat) (U0 : St) (n : Nat) : ∀ (c : Nat) (V : St), c ≤ 6 → 6 - c < n → Scr U0 V → (∀ l, l < c → V.2.1 35 0 0 l = hIt 15 (hSec (U0.2.1 1 0 0 0) (nI i) (nI k) (nI l))) → Scr U0 (f_M_init_453 a1 n V (nI i) (nI k) (nI c)) ∧ (∀ l, l < 6 → (f_M_init_453 a1 n V (nI i) (nI k) (nI c)).2.1 35 0 0 l = hIt 15 (hSec (U0.2.1 1 0 0 0) (nI i) (nI k) (nI l))) ∧ ok_M_init_453 a1 n V (nI i) (nI k) (nI c) := by
  induction n with
  | zero => exact fun r V _ h => absurd h (Nat.not_lt_zero _)
  | succ n ih =>
    intro c V hc hn hV hg
    rw [f_M_init_453, ok_M_init_453]
    by_cases h6 : c = 6
    · subst h6
      rw [if_pos (by decide)]
      exact ⟨hV, hg, fun _ => trivial, fun q => absurd (by decide) q⟩
    · have hc6 : c < 6 := by omega
      have cc : ¬ (6 : Int32) ≤ nI c := fun q => by
        have := (nI_leI (a := 6) (b := c) (by omega) (by omega)).mp q
        omega
      rw [if_neg cc, lt, lt, m_secret]
      generalize hz : hA (hA (hA (hA hS (V.2.1 1 0 0 0)) (nI i).toInt64) (nI k).toInt64) (nI c).toInt64 = z
      obtain ⟨z2, e2⟩ := m_after (hSec (V.2.1 1 0 0 0) (nI i) (nI k) (nI c)) (fo V z) (k := 15) (by omega)
      have e2' : f_M_after (hSec (V.2.1 1 0 0 0) (nI i) (nI k) (nI c), fo V z).1 15 (hSec (V.2.1 1 0 0 0) (nI i) (nI k) (nI c), fo V z).2 = (hIt 15 (hSec (V.2.1 1 0 0 0) (nI i) (nI k) (nI c)), fo (fo V z) z2) := e2
      rw [lt, lt, lt, lt, e2', fo_fo, nI_clamp (by omega), nI_s]
      have e0 : V.2.1 1 0 0 0 = U0.2.1 1 0 0 0 := hV.l 1 0 (by decide) (by decide)
      obtain ⟨a, b, o⟩ := ih (c + 1) (sl (fo V z2) 35 0 0 c (hIt 15 (hSec (V.2.1 1 0 0 0) (nI i) (nI k) (nI c)))) (by omega) (by omega) (hV.trans ((Scr.ff _ _).trans (Scr.sgl _ _ _))) (fun l hl => by
        rw [sl_l]
        by_cases hx : l = c
        · rw [if_pos ⟨rfl, rfl, rfl, hx⟩, hx, e0]
        · rw [if_neg (fun q => hx q.2.2.2), fo_l _ _ _ _ (by omega)]
          exact hg l (by omega))
      exact ⟨a, b, fun q => absurd q cc, fun _ => ⟨m_after_ok _ _ (k := 15) (by omega), vp_in_nI (by omega) (by decide), o⟩⟩
theorem m_i444 (a1 : Int32) {sd : Int32} {i : Nat} (hi : i < 4) {U0 : St} (es : U0.2.1 1 0 0 0 = sd.toInt64) (n : Nat) : ∀ (k : Nat) (V : St) (g : Nat → Int64), k ≤ 32 → 32 - k < n → TrW U0 V i g → TrW U0 (f_M_init_444 a1 n V (nI i) (nI k)) i (tLeaf (tEnds sd i) (32 - k) k g) ∧ ok_M_init_444 a1 n V (nI i) (nI k) := by
  induction n with
  | zero => exact fun k V g _ h => absurd h (Nat.not_lt_zero _)
  | succ n ih =>
    intro k V g hk hn hV
    rw [f_M_init_444, ok_M_init_444]
    by_cases c : k = 32
    · subst c
      rw [if_pos (by decide), Nat.sub_self, tLeaf_0]
      exact ⟨hV, fun _ => trivial, fun q => absurd (by decide) q⟩
    · have cc : ¬ (32 : Int32) ≤ nI k := fun q => by
        have := (nI_leI (a := 32) (b := k) (by omega) (by omega)).mp q
        omega
      obtain ⟨a, b, o⟩ := m_i453 a1 i k V 200 0 V (by omega) (by omega) (Scr.refl _) (fun l hl => absurd hl (Nat.not_lt_zero _))
      rw [if_neg cc, lt, lt, show (0 : Int32) = nI 0 from rfl]
      generalize f_M_init_453 a1 200 V (nI i) (nI k) (nI 0) = W at a b
      have e0 : V.2.1 1 0 0 0 = sd.toInt64 := (hV.2.1 1 0 (by decide) (by decide) (by decide)).trans es
      rw [e0] at b
      obtain ⟨z, ez, oz⟩ := m_leaf W (fun c => hIt 15 (hSec sd.toInt64 (nI i) (nI k) (nI c))) b
      have ex : (64 : Int32) * nI i + (32 : Int32) + nI k = nI (64 * i + (32 + k)) := by
        rw [show (32 : Int32) = nI 32 from rfl, ix64, nI_add]
        congr 1
        omega
      rw [lt, lt, lt, lt, ez, ex, nI_clamp (by omega), nI_s]
      have hW : TrW U0 (fo W z) i g := (hV.scr a).scr (Scr.ff _ _)
      obtain ⟨a', o'⟩ := ih (k + 1) _ _ (by omega) (by omega) (hW.put (x := 32 + k) (by omega) (tEnds sd i k))
      rw [show 32 - k = (32 - (k + 1)) + 1 by omega, tLeaf_s]
      exact ⟨a', fun q => absurd q cc, fun _ => ⟨o, oz, vp_in_nI (by omega) (by decide), o'⟩⟩
theorem m_i518 (a1 : Int32) {i : Nat} (hi : i < 4) {U0 : St} (n : Nat) : ∀ (k : Nat) (V : St) (g : Nat → Int64), k ≤ 31 → k < n → TrW U0 V i g → TrW U0 (f_M_init_518 a1 n V (nI i) (nI k)) i (tKnot k g) ∧ ok_M_init_518 a1 n V (nI i) (nI k) := by
  induction n with
  | zero => exact fun k V g _ h => absurd h (Nat.not_lt_zero _)
  | succ n ih =>
    intro k V g hk hn hV
    rw [f_M_init_518, ok_M_init_518]
    by_cases c : k = 0
    · subst c
      rw [if_pos (by decide), tKnot_0]
      exact ⟨hV, fun _ => trivial, fun q => absurd (by decide) q⟩
    · obtain ⟨j, rfl⟩ : ∃ j, k = j + 1 := ⟨k - 1, by omega⟩
      have cc : ¬ nI (j + 1) ≤ 0 := fun q => by
        have := (nI_leI (a := j + 1) (b := 0) (by omega) (by omega)).mp q
        omega
      have e2 : (2 : Int32) * nI (j + 1) = nI (2 * (j + 1)) := nI_m 2 (j + 1)
      rw [if_neg cc, e2, ix64, ix64, nI_s (64 * i + 2 * (j + 1)), nI_dn, nI_clamp (by omega), nI_clamp (by omega), nI_clamp (by omega)]
      rw [lt, lt, lt, lt, m_two]
      have r1 := hV.rd (x := 2 * (j + 1)) (by omega)
      have r2 := hV.rd (x := 2 * (j + 1) + 1) (by omega)
      rw [show 64 * i + 2 * (j + 1) + 1 = 64 * i + (2 * (j + 1) + 1) by omega, r1, r2]
      obtain ⟨a, o⟩ := ih j _ _ (by omega) (by omega) ((hV.scr (Scr.ff V (hA (hA hS (g (2 * (j + 1)))) (g (2 * (j + 1) + 1))))).put (x := j + 1) (by omega) (h2 (g (2 * (j + 1))) (g (2 * (j + 1) + 1))))
      rw [tKnot_s]
      exact ⟨a, fun q => absurd q cc, fun _ => ⟨vp_in_nI (by omega) (by decide), vp_in_nI (by omega) (by decide), vp_in_nI (by omega) (by decide), o⟩⟩
theorem m_i419 (a1 : Int32) {i : Nat} (hi : i < 4) (n : Nat) : ∀ (k : Nat) (V : St), k ≤ 4 → 4 - k < n → (∀ q y, (f_M_init_419 a1 n V (nI i) (nI k)).1 q 0 0 y = if q = 26 ∧ 4 * i + k ≤ y ∧ y < 4 * i + 4 then 100 else V.1 q 0 0 y) ∧ (f_M_init_419 a1 n V (nI i) (nI k)).2 = V.2 ∧ ok_M_init_419 a1 n V (nI i) (nI k) := by
  induction n with
  | zero => exact fun k V _ h => absurd h (Nat.not_lt_zero _)
  | succ n ih =>
    intro k V hk hn
    rw [f_M_init_419, ok_M_init_419]
    by_cases c : k = 4
    · subst c
      rw [if_pos (by decide)]
      exact ⟨fun q y => by rw [if_neg (fun z => by omega)], rfl, fun _ => trivial, fun q => absurd (by decide) q⟩
    · have cc := lit4n (j := k) (by omega)
      rw [if_neg cc, lt, lt, ix4, nI_clamp (by omega), nI_s]
      obtain ⟨a, b, o⟩ := ih (k + 1) (si V 26 0 0 (4 * i + k) 100) (by omega) (by omega)
      refine ⟨fun q y => ?_, b, fun q => absurd q cc, fun _ => ⟨vp_in_nI (by omega) (by decide), o⟩⟩
      rw [a, si_i]
      by_cases d : q = 26 ∧ y = 4 * i + k
      · rw [if_neg (fun z => by omega), if_pos ⟨d.1, rfl, rfl, d.2⟩, if_pos (by omega)]
      · rw [if_neg (c := q = 26 ∧ (0 : Nat) = 0 ∧ _) (fun z => d ⟨z.1, z.2.2.2⟩)]
        by_cases e : q = 26 ∧ 4 * i + (k + 1) ≤ y ∧ y < 4 * i + 4
        · rw [if_pos e, if_pos (by omega)]
        · rw [if_neg e, if_neg (by omega)]
/-- the reference behind its constructor's loop over the first k nodes -/
def Ini (sd : Int32) (U0 V : St) (k : Nat) : Prop := (∀ q y, q ≠ 36 → ¬ (q = 1 ∧ y = 40) → V.1 q 0 0 y = if q = 19 ∧ y % 100 = 0 ∧ y < 100 * k then 1 else if q = 26 ∧ y < 4 * k then 100 else U0.1 q 0 0 y) ∧ (∀ i, i < 4 → ∀ x, x < 64 → V.2.1 2 0 0 (64 * i + x) = if i < k then tTree sd i x else 0) ∧ V.2.1 1 0 0 0 = sd.toInt64
theorem m_i402 (a1 : Int32) {sd : Int32} (U0 : St) (n : Nat) : ∀ (k : Nat) (V : St), k ≤ 4 → 4 - k < n → Ini sd U0 V k → Ini sd U0 (f_M_init_402 a1 n V (nI k)) 4 ∧ ok_M_init_402 a1 n V (nI k) := by
  induction n with
  | zero => exact fun k V _ h => absurd h (Nat.not_lt_zero _)
  | succ n ih =>
    intro k V hk hn hV
    rw [f_M_init_402, ok_M_init_402]
    by_cases c : k = 4
    · subst c
      rw [if_pos (by decide)]
      exact ⟨hV, fun _ => trivial, fun q => absurd (by decide) q⟩
    · have hk4 : k < 4 := by omega
      have cc := lit4n hk4
      have e100 : (100 : Int32) * nI k = nI (100 * k) := nI_m 100 k
      have a := m_i419 a1 hk4 200 0 (si V 19 0 0 (100 * k) 1) (by omega) (by omega)
      rw [if_neg cc, e100, nI_clamp (by omega), lt, lt, lt, lt, show (0 : Int32) = nI 0 from rfl]
      obtain ⟨W, hW⟩ : ∃ z, z = f_M_init_419 a1 200 (si V 19 0 0 (100 * k) 1) (nI k) (nI 0) := ⟨_, rfl⟩
      rw [← hW] at a ⊢
      have eW : W.2.1 = V.2.1 := by
        rw [a.2.1]
        rfl
      have es : W.2.1 1 0 0 0 = sd.toInt64 := by rw [eW]; exact hV.2.2
      have t0 : TrW W W k (fun _ => 0) := ⟨fun _ _ _ _ => rfl, fun _ _ _ _ _ => rfl, fun y => by
        by_cases d : 64 * k ≤ y ∧ y < 64 * k + 64
        · rw [if_pos d]
          have := hV.2.1 k hk4 (y - 64 * k) (by omega)
          rw [show 64 * k + (y - 64 * k) = y by omega, if_neg (Nat.lt_irrefl _)] at this
          rw [eW]
          exact this
        · rw [if_neg d]⟩
      have b := m_i444 a1 (sd := sd) hk4 es 200 0 W (fun _ => 0) (by omega) (by omega) t0
      have b' : TrW W (f_M_init_444 a1 200 W (nI k) (nI 0)) k (tLeaf (tEnds sd k) 32 0 (fun _ => 0)) := b.1
      have d := m_i518 a1 hk4 200 31 _ _ (by omega) (by omega) b'
      have d' : TrW W (f_M_init_518 a1 200 (f_M_init_444 a1 200 W (nI k) (nI 0)) (nI k) 31) k (tTree sd k) := d.1
      have d2 : ok_M_init_518 a1 200 (f_M_init_444 a1 200 W (nI k) (nI 0)) (nI k) 31 := d.2
      rw [lt, lt, lt, lt, nI_s]
      obtain ⟨X, hXe⟩ : ∃ z, z = f_M_init_518 a1 200 (f_M_init_444 a1 200 W (nI k) (nI 0)) (nI k) 31 := ⟨_, rfl⟩
      rw [← hXe] at d'
      have hX : Ini sd U0 X (k + 1) := by
        refine ⟨fun q y h1 h2 => ?_, fun i hi x hx => ?_, ?_⟩
        · rw [d'.1 q y h1 h2, a.1, si_i, hV.1 q y h1 h2]
          by_cases z : q = 26 ∧ 4 * k + 0 ≤ y ∧ y < 4 * k + 4
          · rw [if_pos z, if_neg (fun w => by omega), if_pos (by omega)]
          · rw [if_neg z]
            by_cases z2 : q = 19 ∧ y = 100 * k
            · rw [if_pos ⟨z2.1, rfl, rfl, z2.2⟩, if_pos (by omega)]
            · rw [if_neg (c := q = 19 ∧ (0 : Nat) = 0 ∧ _) (fun w => z2 ⟨w.1, w.2.2.2⟩)]
              by_cases z3 : q = 19 ∧ y % 100 = 0 ∧ y < 100 * k
              · rw [if_pos z3, if_pos (by omega)]
              · rw [if_neg z3]
                by_cases z4 : q = 19 ∧ y % 100 = 0 ∧ y < 100 * (k + 1)
                · exfalso
                  omega
                · rw [if_neg z4]
                  by_cases z5 : q = 26 ∧ y < 4 * k
                  · rw [if_pos z5, if_pos (by omega)]
                  · rw [if_neg z5, if_neg (by omega)]
        · rw [d'.2.2]
          by_cases z : i = k
          · subst z
            rw [if_pos (by omega), if_pos (by omega), Nat.add_sub_cancel_left]
          · rw [if_neg (by omega), eW, hV.2.1 i hi x hx]
            by_cases z2 : i < k
            · rw [if_pos z2, if_pos (by omega)]
            · rw [if_neg z2, if_neg (by omega)]
        · rw [d'.2.1 1 0 (by decide) (by decide) (by decide)]
          exact es
      have g := ih (k + 1) X (by omega) (by omega) hX
      repeat rw [lt]
      rw [← hW, ← hXe]
      exact ⟨g.1, fun q => absurd q cc, fun _ => ⟨vp_in_nI (by omega) (by decide), a.2.2, b.2, d2, g.2⟩⟩
theorem m_i379 (sd : Int32) : Ini sd (si (si (si (S1m sd) 8 0 0 0 (-1)) 9 0 0 0 (-1)) 10 0 0 0 1) (f_M_init_379 sd (S1m sd)) 4 ∧ ok_M_init_379 sd (S1m sd) := by
  unfold f_M_init_379 ok_M_init_379
  rw [lt, lt, lt, lt, lt, lt]
  obtain ⟨W, hW⟩ : ∃ z, z = si (si (si (S1m sd) 8 0 0 0 (-1)) 9 0 0 0 (-1)) 10 0 0 0 1 := ⟨_, rfl⟩
  have t : ∀ y, W.2.1 2 0 0 y = 0 := fun y => by rw [hW]; rfl
  have l : W.2.1 1 0 0 0 = sd.toInt64 := by rw [hW]; rfl
  rw [← hW, show (0 : Int32) = nI 0 from rfl]
  exact m_i402 sd (sd := sd) W 200 0 W (by omega) (by omega) ⟨fun q y _ _ => by rw [if_neg (fun z => by omega), if_neg (fun z => by omega)], fun i hi x hx => (t _).trans (if_neg (Nat.not_lt_zero _)).symm, l⟩
theorem cnt_one (f : Nat → Int32) (h0 : f 0 = 1) (n : Nat) : (∀ k, 0 < k → k ≤ n → f k = 0) → cnt f (n + 1) = 1 := by
  induction n with
  | zero =>
    intro _
    rw [cnt_s, cnt_0, h0, if_neg (by decide)]
  | succ n ih =>
    intro h
    rw [cnt_s, ih (fun k a b => h k a (by omega)), h (n + 1) (by omega) (by omega), if_pos rfl]
theorem upd0 (k : Nat) : upd (fun _ => (0 : Int32)) 0 1 k = if k = 0 then 1 else 0 := rfl
theorem S0q_t (sd : Int32) (i x : Nat) : (S0q sd).2.1 11 i 0 x = tTree sd i x := by
  have h : ∀ T : Nat → Nat → Int64, T = tTree sd → (S0q sd).2.1 11 i 0 x = T i x := by
    intro T hT
    unfold S0q S0l
    rw [← hT]
    rfl
  exact h _ rfl
theorem b_start (sd : Int32) : JB sd (S0q sd) (f_M_init_379 sd (S1m sd)) := by
  have hi := (m_i379 sd).1
  generalize f_M_init_379 sd (S1m sd) = V at hi
  obtain ⟨vi, vt, vs⟩ := hi
  have e19 : ∀ y, V.1 19 0 0 y = if y % 100 = 0 ∧ y < 400 then 1 else 0 := fun y => by
    rw [vi 19 y (by decide) (by omega)]
    by_cases c : y % 100 = 0 ∧ y < 400
    · rw [if_pos ⟨rfl, c⟩, if_pos c]
    · rw [if_neg (fun q => c q.2), if_neg c, if_neg (fun q => by omega)]
      rfl
  have e26 : ∀ y, V.1 26 0 0 y = if y < 16 then 100 else 0 := fun y => by
    rw [vi 26 y (by decide) (by omega), if_neg (fun q => by omega)]
    by_cases c : y < 16
    · rw [if_pos ⟨rfl, c⟩, if_pos c]
    · rw [if_neg (fun q => c q.2), if_neg c]
      rfl
  have eo : ∀ q y, q ≠ 19 → q ≠ 26 → q ≠ 36 → ¬ (q = 1 ∧ y = 40) → V.1 q 0 0 y = (si (si (si (S1m sd) 8 0 0 0 (-1)) 9 0 0 0 (-1)) 10 0 0 0 1).1 q 0 0 y := fun q y h1 h2 h3 h4 => by
    rw [vi q y h3 h4, if_neg (fun z => h1 z.1), if_neg (fun z => h2 z.1)]
  have e8 : ∀ y, V.1 8 0 0 y = if y = 0 then -1 else 0 := fun y => by
    rw [eo 8 y (by decide) (by decide) (by decide) (by omega), si_i, if_neg (fun z => by omega), si_i, if_neg (fun z => by omega), si_i]
    by_cases c : y = 0
    · rw [if_pos ⟨rfl, rfl, rfl, c⟩, if_pos c]
    · rw [if_neg (fun z => c z.2.2.2), if_neg c]
      rfl
  have e9 : ∀ y, V.1 9 0 0 y = if y = 0 then -1 else 0 := fun y => by
    rw [eo 9 y (by decide) (by decide) (by decide) (by omega), si_i, if_neg (fun z => by omega), si_i]
    by_cases c : y = 0
    · rw [if_pos ⟨rfl, rfl, rfl, c⟩, if_pos c]
    · rw [if_neg (fun z => c z.2.2.2), if_neg c, si_i, if_neg (fun z => by omega)]
      rfl
  have e10 : ∀ y, V.1 10 0 0 y = if y = 0 then 1 else 0 := fun y => by
    rw [eo 10 y (by decide) (by decide) (by decide) (by omega), si_i]
    by_cases c : y = 0
    · rw [if_pos ⟨rfl, rfl, rfl, c⟩, if_pos c]
    · rw [if_neg (fun z => c z.2.2.2), if_neg c, si_i, if_neg (fun z => by omega), si_i, if_neg (fun z => by omega)]
      rfl
  have four : ∀ q (w : Int32), q ≠ 1 → q ≠ 8 → q ≠ 9 → q ≠ 10 → q ≠ 19 → q ≠ 26 → q ≠ 36 → (S1m sd).1 q 0 0 = upd (upd (upd (upd (fun _ => 0) 0 w) 1 w) 2 w) 3 w → ∀ i, i < 4 → V.1 q 0 0 i = w := fun q w h1 h8 h9 h10 h19 h26 h36 e i hi => by
    rw [eo q i h19 h26 h36 (fun z => h1 z.1), si_i, if_neg (fun z => h10 z.1), si_i, if_neg (fun z => h9 z.1), si_i, if_neg (fun z => h8 z.1), e]
    rcases (by omega : i = 0 ∨ i = 1 ∨ i = 2 ∨ i = 3) with rfl | rfl | rfl | rfl <;> rfl
  have e11 := four 11 1 (by decide) (by decide) (by decide) (by decide) (by decide) (by decide) (by decide) rfl
  have e12 := four 12 1 (by decide) (by decide) (by decide) (by decide) (by decide) (by decide) (by decide) rfl
  have e13 := four 13 6 (by decide) (by decide) (by decide) (by decide) (by decide) (by decide) (by decide) rfl
  have e14 := four 14 6 (by decide) (by decide) (by decide) (by decide) (by decide) (by decide) (by decide) rfl
  have e24 := four 24 1 (by decide) (by decide) (by decide) (by decide) (by decide) (by decide) (by decide) rfl
  have e1_11 : V.1 1 0 0 11 = 1 := (eo 1 11 (by decide) (by decide) (by decide) (by decide)).trans rfl
  have e1_6 : V.1 1 0 0 6 = 0 := (eo 1 6 (by decide) (by decide) (by decide) (by decide)).trans rfl
  have e1_2 : V.1 1 0 0 2 = 0 := (eo 1 2 (by decide) (by decide) (by decide) (by decide)).trans rfl
  have e1_3 : V.1 1 0 0 3 = 0 := (eo 1 3 (by decide) (by decide) (by decide) (by decide)).trans rfl
  have z : ∀ q, (q = 3 ∨ q = 4 ∨ q = 5 ∨ q = 6 ∨ q = 7 ∨ q = 15 ∨ q = 16 ∨ q = 17 ∨ q = 18 ∨ q = 20 ∨ q = 21 ∨ q = 22 ∨ q = 23 ∨ q = 25 ∨ q = 27 ∨ q = 28) → ∀ y, V.1 q 0 0 y = 0 := fun q h y => by
    rcases h with rfl | rfl | rfl | rfl | rfl | rfl | rfl | rfl | rfl | rfl | rfl | rfl | rfl | rfl | rfl | rfl
    · exact (eo 3 y (by decide) (by decide) (by decide) (by omega)).trans rfl
    · exact (eo 4 y (by decide) (by decide) (by decide) (by omega)).trans rfl
    · exact (eo 5 y (by decide) (by decide) (by decide) (by omega)).trans rfl
    · exact (eo 6 y (by decide) (by decide) (by decide) (by omega)).trans rfl
    · exact (eo 7 y (by decide) (by decide) (by decide) (by omega)).trans rfl
    · exact (eo 15 y (by decide) (by decide) (by decide) (by omega)).trans rfl
    · exact (eo 16 y (by decide) (by decide) (by decide) (by omega)).trans rfl
    · exact (eo 17 y (by decide) (by decide) (by decide) (by omega)).trans rfl
    · exact (eo 18 y (by decide) (by decide) (by decide) (by omega)).trans rfl
    · exact (eo 20 y (by decide) (by decide) (by decide) (by omega)).trans rfl
    · exact (eo 21 y (by decide) (by decide) (by decide) (by omega)).trans rfl
    · exact (eo 22 y (by decide) (by decide) (by decide) (by omega)).trans rfl
    · exact (eo 23 y (by decide) (by decide) (by decide) (by omega)).trans rfl
    · exact (eo 25 y (by decide) (by decide) (by decide) (by omega)).trans rfl
    · exact (eo 27 y (by decide) (by decide) (by decide) (by omega)).trans rfl
    · exact (eo 28 y (by decide) (by decide) (by decide) (by omega)).trans rfl
  have rc : ∀ v, v ≤ 60 → Rc (fun _ => 0) (V.1 18 0 0) v := fun v hv w a b => by omega
  refine ⟨fun _ => 0, 1, 0, ?_, ?_⟩
  · refine Rel.mk (m := ?_) (id := fun i _ => rfl) (se := fun i _ => rfl) (ow := fun i _ => rfl) (us := vs) (tr := ?_) (row := fun i _ k hk => hk) (inj := fun i _ k _ k' _ e => e) (msg := ?_) (sg := ?_) (bc := ?_)
    · intro k i j x k' y hm
      unfold Mp at hm
      show S0i sd k i j x = V.1 k' 0 0 y
      rcases hm with ⟨rfl, h1, rfl, h2, rfl, h3⟩ | ⟨rfl, h1, rfl, h2, rfl, h3⟩ | ⟨rfl, h1, rfl, h2, rfl, h3⟩ | ⟨rfl, h1, rfl, h2, rfl, h3⟩ | ⟨rfl, h1, rfl, h2, rfl, h3⟩ | ⟨rfl, h1, rfl, h2, rfl, h3⟩ | ⟨rfl, h1, rfl, h2, rfl, h3⟩ | ⟨rfl, h1, rfl, h2, rfl, h3⟩ | ⟨rfl, h1, rfl, h2, rfl, h3⟩ | ⟨rfl, h1, rfl, h2, rfl, h3⟩ | ⟨rfl, h1, rfl, h2, rfl, h3⟩ | ⟨rfl, h1, rfl, h2, rfl, h3⟩ | ⟨rfl, h1, rfl, h2, rfl, h3⟩ | ⟨rfl, h1, rfl, h2, rfl, h3⟩ | ⟨rfl, h1, rfl, h2, rfl, h3⟩ | ⟨rfl, h1, rfl, h2, rfl, h3⟩ | ⟨rfl, h1, rfl, h2, rfl, h3⟩ | ⟨rfl, h1, rfl, h2, rfl, h3⟩ | ⟨rfl, h1, rfl, h2, rfl, h3⟩ | ⟨rfl, h1, rfl, h2, rfl, h3⟩ | ⟨rfl, h1, rfl, h2, rfl, h3⟩ | ⟨rfl, h1, rfl, h2, rfl, h3⟩ | ⟨rfl, h1, rfl, h2, rfl, h3⟩ | ⟨rfl, h1, rfl, h2, rfl, h3⟩ | ⟨rfl, h1, rfl, h2, rfl, h3⟩ | ⟨rfl, h1, rfl, h2, rfl, h3⟩ | ⟨rfl, h1, rfl, h2, rfl, h3⟩ | ⟨rfl, h1, rfl, h2, rfl, h3⟩ | ⟨rfl, h1, rfl, h2, rfl, h3⟩ | ⟨rfl, h1, rfl, h2, rfl, h3⟩
      · subst h1 h2 h3; exact e1_2.symm
      · subst h1 h2 h3; exact e1_3.symm
      · subst h2 h3; exact (z 22 (by omega) y).symm
      · subst h2 h3; exact (e11 y h1).symm
      · subst h2 h3; exact (e12 y h1).symm
      · subst h2 h3; exact (e13 y h1).symm
      · subst h2 h3; exact (e14 y h1).symm
      · subst h2 h3; exact (z 15 (by omega) y).symm
      · subst h2 h3; exact (e24 y h1).symm
      · subst h2 h3; exact (z 16 (by omega) y).symm
      · subst h2 h3; exact (z 17 (by omega) y).symm
      · subst h3
        rw [e19]
        show upd (fun _ => (0 : Int32)) 0 1 x = _
        rw [upd0]
        by_cases c : x = 0
        · rw [if_pos c, if_pos (by omega)]
        · rw [if_neg c, if_neg (by omega)]
      · exact (z 25 (by omega) y).symm
      · subst h3
        rw [e26, if_pos (by omega)]
        rcases (by omega : x = 0 ∨ x = 1 ∨ x = 2 ∨ x = 3) with rfl | rfl | rfl | rfl <;> rfl
      · exact (z 27 (by omega) y).symm
      · subst h2; exact (z 18 (by omega) y).symm
      · subst h2; exact (z 28 (by omega) y).symm
      · exact (z 20 (by omega) y).symm
      · exact (z 21 (by omega) y).symm
      · exact (z 23 (by omega) y).symm
      · subst h1 h2 h3; exact e1_11.symm
      · exact (z 7 (by omega) y).symm
      · subst h3; exact (e8 y).symm
      · subst h3; exact (e9 y).symm
      · subst h3; exact (e10 y).symm
      · subst h1 h2 h3; exact e1_6.symm
      · exact (z 3 (by omega) y).symm
      · exact (z 4 (by omega) y).symm
      · exact (z 5 (by omega) y).symm
      · exact (z 6 (by omega) y).symm
    · intro i hi x hx
      rw [vt i hi x hx, if_pos hi]
      exact S0q_t sd i x
    · intro i hi k hk hf
      rw [z 28 (by omega)] at hf
      exact absurd hf (Nat.not_lt_zero _)
    · intro i hi k hk hf
      rw [z 28 (by omega)] at hf
      exact absurd hf (Nat.not_lt_zero _)
    · intro i hi
      show (S0q sd).1 4 i 0 4 = nI (cnt (fun b => V.1 19 0 0 (100 * i + b)) (99 + 1))
      rw [cnt_one (fun b => V.1 19 0 0 (100 * i + b)) (by
        show V.1 19 0 0 (100 * i + 0) = 1
        rw [e19, if_pos (by omega)]) 99 (fun k h1 h2 => by
        show V.1 19 0 0 (100 * i + k) = 0
        rw [e19, if_neg (by omega)])]
      rfl
  · apply Ivt.mk
    case hB => exact e1_11
    case hB1 => exact Nat.le_refl _
    case hB2 => exact by decide
    case hT => exact e1_6
    case hT2 => exact Nat.zero_le _
    case par0 =>
      rw [e8, if_pos rfl]
    case par => exact fun b h0 h1 => by omega
    case vw0 => exact z 7 (by omega) 0
    case vw => exact fun b h0 h1 => by omega
    case car =>
      intro b hb
      have : b = 0 := by omega
      subst this
      rw [e9, if_pos rfl]
      exact Or.inl rfl
    case fr => exact fun t ht => absurd ht (Nat.not_lt_zero _)
    case to => exact fun t ht => absurd ht (Nat.not_lt_zero _)
    case view => exact fun i hi => ⟨1, Nat.le_refl _, by decide, e12 i hi, rc 1 (by decide)⟩
    case span => exact fun i hi => ⟨6, by decide, e14 i hi⟩
    case high => exact fun i hi => ⟨0, by decide, z 15 (by omega) i⟩
    case locked => exact fun i hi => ⟨0, by decide, z 17 (by omega) i⟩
    case voted => exact fun i hi => ⟨0, by decide, z 16 (by omega) i, rc 0 (by decide)⟩
    case used => exact fun i hi => ⟨0, by decide, z 18 (by omega) i⟩
    case has0 =>
      intro i hi
      rw [e19, if_pos (by omega)]
    case hasB =>
      intro i hi b h1 h2
      rw [e19, if_neg (by omega)]
    case hasV =>
      intro i hi b h2
      rw [e19]
      by_cases c : (100 * i + b) % 100 = 0 ∧ 100 * i + b < 400
      · rw [if_pos c]
        exact Or.inr rfl
      · rw [if_neg c]
        exact Or.inl rfl
    case votes => exact fun i hi b hb => ⟨0, by decide, z 20 (by omega) _⟩
    case votesB => exact fun i hi b h1 h2 => z 20 (by omega) _
    case votesM =>
      intro i hi b hb s hs q
      rw [z 20 (by omega)] at q
      exact absurd q (tbit0 s)
    case touts => exact fun i hi b hb => ⟨0, by decide, z 21 (by omega) _⟩
    case toutsM =>
      intro i hi b hb s hs q
      rw [z 21 (by omega)] at q
      exact absurd q (tbit0 s)
    case pooled => exact fun i hi => ⟨0, by decide, z 22 (by omega) i⟩
    case pool =>
      intro i hi k hk hf
      rw [z 22 (by omega)] at hf
      exact absurd hf (Nat.not_lt_zero _)
    case poolD =>
      intro i hi k hk hf
      rw [z 22 (by omega)] at hf
      exact absurd hf (Nat.not_lt_zero _)
    case logged => exact fun i hi => ⟨1, Nat.le_refl _, by decide, e24 i hi⟩
    case log0 => exact fun i hi => z 25 (by omega) _
    case log =>
      intro i hi k hk hf
      exact ⟨0, by decide, z 25 (by omega) _⟩
    case logP =>
      intro i hi k hk hf
      rw [e24 i hi] at hf
      have : (1 : Int32).toNatClampNeg = 1 := by decide
      omega
    case fly => exact fun i hi => ⟨0, by decide, z 28 (by omega) i⟩
    case msgs =>
      intro i hi k hk hf
      rw [z 28 (by omega)] at hf
      exact absurd hf (Nat.not_lt_zero _)
/-! The law's wrappers beside the reference's calls. -/
theorem JB.out {sd : Int32} {S U : St} (h : JB sd S U) (v : Int64) : JB sd (sl S 29 0 0 0 v) U := by
  obtain ⟨sg, B, T, r, i⟩ := h
  refine ⟨sg, B, T, ?_, i⟩
  refine Rel.mk (m := r.m) (id := r.id) (se := r.se) (ow := r.ow) (us := r.us) (tr := ?_) (row := r.row) (inj := r.inj) (msg := r.msg) (sg := ?_) (bc := r.bc)
  · intro i' hi' x hx
    rw [sl_l, if_neg (fun q => by omega)]
    exact r.tr i' hi' x hx
  · intro i' hi' k hk hf h3 l hl
    rw [sl_l, if_neg (fun q => by omega)]
    exact r.sg i' hi' k hk hf h3 l hl
def b2l (r : Int32) : Int64 := if r = 0 then 0 else 1
theorem k012 {k : Nat} (h : k ≤ 2) : k = 0 ∨ k = 1 ∨ k = 2 := by omega
theorem l_transaction {sd : Int32} {S U : St} (h : JB sd S U) (a1 : Int32) (a2 : Int32) (a3 : Int32) (a4 : Int32) : ∃ c S' r' U', f_L_transaction a1 a2 a3 a4 S = (c, S') ∧ f_M_transaction a1 a2 a3 a4 U = (r', U') ∧ U'.1 1 0 0 1 = c ∧ (c = 0 → S'.2.1 29 0 0 0 = r'.toInt64) ∧ JB sd S' U' ∧ ok_L_transaction a1 a2 a3 a4 S ∧ ok_M_transaction a1 a2 a3 a4 U := by
  obtain ⟨k, r, S1, r', U', e1, e2, e3, e4, ⟨e5, e6⟩, jb, o1, o2⟩ := b_transaction h a1 a2 a3 a4
  have okL : ok_L_transaction a1 a2 a3 a4 S := ⟨o1, trivial⟩
  unfold f_L_transaction
  rw [lt, e1]
  rcases k012 e5 with rfl | rfl | rfl
  · have er := e4 rfl
    subst er
    rw [if_pos rfl, lt]
    exact ⟨0, _, r, U', rfl, e2, e3, fun _ => sl_rd _ _ _ _ _ _, jb.out _, okL, o2⟩
  · have es := e6 (by decide)
    subst es
    rw [if_neg (show ¬ (1 : Nat) = 0 by decide), if_pos rfl]
    exact ⟨1, _, r', U', rfl, e2, e3, fun z => absurd z (by decide), jb, okL, o2⟩
  · have es := e6 (by decide)
    subst es
    rw [if_neg (show ¬ (2 : Nat) = 0 by decide), if_neg (show ¬ (2 : Nat) = 1 by decide)]
    exact ⟨2, _, r', U', rfl, e2, e3, fun z => absurd z (by decide), jb, okL, o2⟩
theorem l_submit {sd : Int32} {S U : St} (h : JB sd S U) (a1 : Int32) (a2 : Int32) : ∃ c S' r' U', f_L_submit a1 a2 S = (c, S') ∧ f_M_submit a1 a2 U = (r', U') ∧ U'.1 1 0 0 1 = c ∧ (c = 0 → S'.2.1 29 0 0 0 = b2l r') ∧ JB sd S' U' ∧ ok_L_submit a1 a2 S ∧ ok_M_submit a1 a2 U := by
  obtain ⟨k, r, S1, r', U', e1, e2, e3, e4, ⟨e5, e6⟩, jb, o1, o2⟩ := b_submit h a1 a2
  have okL : ok_L_submit a1 a2 S := ⟨o1, trivial⟩
  unfold f_L_submit
  rw [lt, e1]
  rcases k012 e5 with rfl | rfl | rfl
  · have er := e4 rfl
    subst er
    rw [if_pos rfl]
    by_cases z : r = 0
    · have z' : (0, r, S1).2.1 = 0 := z
      rw [if_pos z', lt]
      refine ⟨0, _, r, U', rfl, e2, e3, fun _ => ?_, jb.out _, okL, o2⟩
      unfold b2l
      rw [if_pos z]
      exact sl_rd _ _ _ _ _ _
    · have z' : ¬ (0, r, S1).2.1 = 0 := z
      rw [if_neg z', lt]
      refine ⟨0, _, r, U', rfl, e2, e3, fun _ => ?_, jb.out _, okL, o2⟩
      unfold b2l
      rw [if_neg z]
      exact sl_rd _ _ _ _ _ _
  · have es := e6 (by decide)
    subst es
    rw [if_neg (show ¬ (1 : Nat) = 0 by decide), if_pos rfl]
    exact ⟨1, _, r', U', rfl, e2, e3, fun z => absurd z (by decide), jb, okL, o2⟩
  · have es := e6 (by decide)
    subst es
    rw [if_neg (show ¬ (2 : Nat) = 0 by decide), if_neg (show ¬ (2 : Nat) = 1 by decide)]
    exact ⟨2, _, r', U', rfl, e2, e3, fun z => absurd z (by decide), jb, okL, o2⟩
theorem l_deliver {sd : Int32} {S U : St} (h : JB sd S U) (a1 : Int32) : ∃ c S' r' U', f_L_deliver a1 S = (c, S') ∧ f_M_deliver a1 U = (r', U') ∧ U'.1 1 0 0 1 = c ∧ (c = 0 → S'.2.1 29 0 0 0 = r'.toInt64) ∧ JB sd S' U' ∧ ok_L_deliver a1 S ∧ ok_M_deliver a1 U := by
  obtain ⟨k, r, S1, r', U', e1, e2, e3, e4, ⟨e5, e6⟩, jb, o1, o2⟩ := b_deliver h a1
  have okL : ok_L_deliver a1 S := ⟨o1, trivial⟩
  unfold f_L_deliver
  rw [lt, e1]
  rcases k012 e5 with rfl | rfl | rfl
  · have er := e4 rfl
    subst er
    rw [if_pos rfl, lt]
    exact ⟨0, _, r, U', rfl, e2, e3, fun _ => sl_rd _ _ _ _ _ _, jb.out _, okL, o2⟩
  · have es := e6 (by decide)
    subst es
    rw [if_neg (show ¬ (1 : Nat) = 0 by decide), if_pos rfl]
    exact ⟨1, _, r', U', rfl, e2, e3, fun z => absurd z (by decide), jb, okL, o2⟩
  · have es := e6 (by decide)
    subst es
    rw [if_neg (show ¬ (2 : Nat) = 0 by decide), if_neg (show ¬ (2 : Nat) = 1 by decide)]
    exact ⟨2, _, r', U', rfl, e2, e3, fun z => absurd z (by decide), jb, okL, o2⟩
theorem l_disturb {sd : Int32} {S U : St} (h : JB sd S U) (a1 : Int32) (a2 : Int32) : ∃ c S' r' U', f_L_disturb a1 a2 S = (c, S') ∧ f_M_disturb a1 a2 U = (r', U') ∧ U'.1 1 0 0 1 = c ∧ (c = 0 → S'.2.1 29 0 0 0 = b2l r') ∧ JB sd S' U' ∧ ok_L_disturb a1 a2 S ∧ ok_M_disturb a1 a2 U := by
  obtain ⟨k, r, S1, r', U', e1, e2, e3, e4, ⟨e5, e6⟩, jb, o1, o2⟩ := b_disturb h a1 a2
  have okL : ok_L_disturb a1 a2 S := ⟨o1, trivial⟩
  unfold f_L_disturb
  rw [lt, e1]
  rcases k012 e5 with rfl | rfl | rfl
  · have er := e4 rfl
    subst er
    rw [if_pos rfl]
    by_cases z : r = 0
    · have z' : (0, r, S1).2.1 = 0 := z
      rw [if_pos z', lt]
      refine ⟨0, _, r, U', rfl, e2, e3, fun _ => ?_, jb.out _, okL, o2⟩
      unfold b2l
      rw [if_pos z]
      exact sl_rd _ _ _ _ _ _
    · have z' : ¬ (0, r, S1).2.1 = 0 := z
      rw [if_neg z', lt]
      refine ⟨0, _, r, U', rfl, e2, e3, fun _ => ?_, jb.out _, okL, o2⟩
      unfold b2l
      rw [if_neg z]
      exact sl_rd _ _ _ _ _ _
  · have es := e6 (by decide)
    subst es
    rw [if_neg (show ¬ (1 : Nat) = 0 by decide), if_pos rfl]
    exact ⟨1, _, r', U', rfl, e2, e3, fun z => absurd z (by decide), jb, okL, o2⟩
  · have es := e6 (by decide)
    subst es
    rw [if_neg (show ¬ (2 : Nat) = 0 by decide), if_neg (show ¬ (2 : Nat) = 1 by decide)]
    exact ⟨2, _, r', U', rfl, e2, e3, fun z => absurd z (by decide), jb, okL, o2⟩
theorem l_alter {sd : Int32} {S U : St} (h : JB sd S U) (a1 : Int32) (a2 : Int32) (a3 : Int64) : ∃ c S' r' U', f_L_alter a1 a2 a3 S = (c, S') ∧ f_M_alter a1 a2 a3 U = (r', U') ∧ U'.1 1 0 0 1 = c ∧ (c = 0 → S'.2.1 29 0 0 0 = b2l r') ∧ JB sd S' U' ∧ ok_L_alter a1 a2 a3 S ∧ ok_M_alter a1 a2 a3 U := by
  obtain ⟨k, r, S1, r', U', e1, e2, e3, e4, ⟨e5, e6⟩, jb, o1, o2⟩ := b_alter h a1 a2 a3
  have okL : ok_L_alter a1 a2 a3 S := ⟨o1, trivial⟩
  unfold f_L_alter
  rw [lt, e1]
  rcases k012 e5 with rfl | rfl | rfl
  · have er := e4 rfl
    subst er
    rw [if_pos rfl]
    by_cases z : r = 0
    · have z' : (0, r, S1).2.1 = 0 := z
      rw [if_pos z', lt]
      refine ⟨0, _, r, U', rfl, e2, e3, fun _ => ?_, jb.out _, okL, o2⟩
      unfold b2l
      rw [if_pos z]
      exact sl_rd _ _ _ _ _ _
    · have z' : ¬ (0, r, S1).2.1 = 0 := z
      rw [if_neg z', lt]
      refine ⟨0, _, r, U', rfl, e2, e3, fun _ => ?_, jb.out _, okL, o2⟩
      unfold b2l
      rw [if_neg z]
      exact sl_rd _ _ _ _ _ _
  · have es := e6 (by decide)
    subst es
    rw [if_neg (show ¬ (1 : Nat) = 0 by decide), if_pos rfl]
    exact ⟨1, _, r', U', rfl, e2, e3, fun z => absurd z (by decide), jb, okL, o2⟩
  · have es := e6 (by decide)
    subst es
    rw [if_neg (show ¬ (2 : Nat) = 0 by decide), if_neg (show ¬ (2 : Nat) = 1 by decide)]
    exact ⟨2, _, r', U', rfl, e2, e3, fun z => absurd z (by decide), jb, okL, o2⟩
theorem l_lie {sd : Int32} {S U : St} (h : JB sd S U) (a1 : Int32) (a2 : Int32) (a3 : Int32) (a4 : Int32) : ∃ c S' r' U', f_L_lie a1 a2 a3 a4 S = (c, S') ∧ f_M_lie a1 a2 a3 a4 U = (r', U') ∧ U'.1 1 0 0 1 = c ∧ (c = 0 → S'.2.1 29 0 0 0 = r'.toInt64) ∧ JB sd S' U' ∧ ok_L_lie a1 a2 a3 a4 S ∧ ok_M_lie a1 a2 a3 a4 U := by
  obtain ⟨k, r, S1, r', U', e1, e2, e3, e4, ⟨e5, e6⟩, jb, o1, o2⟩ := b_lie h a1 a2 a3 a4
  have okL : ok_L_lie a1 a2 a3 a4 S := ⟨o1, trivial⟩
  unfold f_L_lie
  rw [lt, e1]
  rcases k012 e5 with rfl | rfl | rfl
  · have er := e4 rfl
    subst er
    rw [if_pos rfl, lt]
    exact ⟨0, _, r, U', rfl, e2, e3, fun _ => sl_rd _ _ _ _ _ _, jb.out _, okL, o2⟩
  · have es := e6 (by decide)
    subst es
    rw [if_neg (show ¬ (1 : Nat) = 0 by decide), if_pos rfl]
    exact ⟨1, _, r', U', rfl, e2, e3, fun z => absurd z (by decide), jb, okL, o2⟩
  · have es := e6 (by decide)
    subst es
    rw [if_neg (show ¬ (2 : Nat) = 0 by decide), if_neg (show ¬ (2 : Nat) = 1 by decide)]
    exact ⟨2, _, r', U', rfl, e2, e3, fun z => absurd z (by decide), jb, okL, o2⟩
theorem l_lieVote {sd : Int32} {S U : St} (h : JB sd S U) (a1 : Int32) (a2 : Int32) : ∃ c S' r' U', f_L_lieVote a1 a2 S = (c, S') ∧ f_M_lieVote a1 a2 U = (r', U') ∧ U'.1 1 0 0 1 = c ∧ (c = 0 → S'.2.1 29 0 0 0 = b2l r') ∧ JB sd S' U' ∧ ok_L_lieVote a1 a2 S ∧ ok_M_lieVote a1 a2 U := by
  obtain ⟨k, r, S1, r', U', e1, e2, e3, e4, ⟨e5, e6⟩, jb, o1, o2⟩ := b_lieVote h a1 a2
  have okL : ok_L_lieVote a1 a2 S := ⟨o1, trivial⟩
  unfold f_L_lieVote
  rw [lt, e1]
  rcases k012 e5 with rfl | rfl | rfl
  · have er := e4 rfl
    subst er
    rw [if_pos rfl]
    by_cases z : r = 0
    · have z' : (0, r, S1).2.1 = 0 := z
      rw [if_pos z', lt]
      refine ⟨0, _, r, U', rfl, e2, e3, fun _ => ?_, jb.out _, okL, o2⟩
      unfold b2l
      rw [if_pos z]
      exact sl_rd _ _ _ _ _ _
    · have z' : ¬ (0, r, S1).2.1 = 0 := z
      rw [if_neg z', lt]
      refine ⟨0, _, r, U', rfl, e2, e3, fun _ => ?_, jb.out _, okL, o2⟩
      unfold b2l
      rw [if_neg z]
      exact sl_rd _ _ _ _ _ _
  · have es := e6 (by decide)
    subst es
    rw [if_neg (show ¬ (1 : Nat) = 0 by decide), if_pos rfl]
    exact ⟨1, _, r', U', rfl, e2, e3, fun z => absurd z (by decide), jb, okL, o2⟩
  · have es := e6 (by decide)
    subst es
    rw [if_neg (show ¬ (2 : Nat) = 0 by decide), if_neg (show ¬ (2 : Nat) = 1 by decide)]
    exact ⟨2, _, r', U', rfl, e2, e3, fun z => absurd z (by decide), jb, okL, o2⟩
theorem l_crash {sd : Int32} {S U : St} (h : JB sd S U) (a1 : Int32) : ∃ c S' r' U', f_L_crash a1 S = (c, S') ∧ f_M_crash a1 U = (r', U') ∧ U'.1 1 0 0 1 = c ∧ (c = 0 → S'.2.1 29 0 0 0 = b2l r') ∧ JB sd S' U' ∧ ok_L_crash a1 S ∧ ok_M_crash a1 U := by
  obtain ⟨k, r, S1, r', U', e1, e2, e3, e4, ⟨e5, e6⟩, jb, o1, o2⟩ := b_crash h a1
  have okL : ok_L_crash a1 S := ⟨o1, trivial⟩
  unfold f_L_crash
  rw [lt, e1]
  rcases k012 e5 with rfl | rfl | rfl
  · have er := e4 rfl
    subst er
    rw [if_pos rfl]
    by_cases z : r = 0
    · have z' : (0, r, S1).2.1 = 0 := z
      rw [if_pos z', lt]
      refine ⟨0, _, r, U', rfl, e2, e3, fun _ => ?_, jb.out _, okL, o2⟩
      unfold b2l
      rw [if_pos z]
      exact sl_rd _ _ _ _ _ _
    · have z' : ¬ (0, r, S1).2.1 = 0 := z
      rw [if_neg z', lt]
      refine ⟨0, _, r, U', rfl, e2, e3, fun _ => ?_, jb.out _, okL, o2⟩
      unfold b2l
      rw [if_neg z]
      exact sl_rd _ _ _ _ _ _
  · have es := e6 (by decide)
    subst es
    rw [if_neg (show ¬ (1 : Nat) = 0 by decide), if_pos rfl]
    exact ⟨1, _, r', U', rfl, e2, e3, fun z => absurd z (by decide), jb, okL, o2⟩
  · have es := e6 (by decide)
    subst es
    rw [if_neg (show ¬ (2 : Nat) = 0 by decide), if_neg (show ¬ (2 : Nat) = 1 by decide)]
    exact ⟨2, _, r', U', rfl, e2, e3, fun z => absurd z (by decide), jb, okL, o2⟩
theorem l_restart {sd : Int32} {S U : St} (h : JB sd S U) (a1 : Int32) : ∃ c S' r' U', f_L_restart a1 S = (c, S') ∧ f_M_restart a1 U = (r', U') ∧ U'.1 1 0 0 1 = c ∧ (c = 0 → S'.2.1 29 0 0 0 = b2l r') ∧ JB sd S' U' ∧ ok_L_restart a1 S ∧ ok_M_restart a1 U := by
  obtain ⟨k, r, S1, r', U', e1, e2, e3, e4, ⟨e5, e6⟩, jb, o1, o2⟩ := b_restart h a1
  have okL : ok_L_restart a1 S := ⟨o1, trivial⟩
  unfold f_L_restart
  rw [lt, e1]
  rcases k012 e5 with rfl | rfl | rfl
  · have er := e4 rfl
    subst er
    rw [if_pos rfl]
    by_cases z : r = 0
    · have z' : (0, r, S1).2.1 = 0 := z
      rw [if_pos z', lt]
      refine ⟨0, _, r, U', rfl, e2, e3, fun _ => ?_, jb.out _, okL, o2⟩
      unfold b2l
      rw [if_pos z]
      exact sl_rd _ _ _ _ _ _
    · have z' : ¬ (0, r, S1).2.1 = 0 := z
      rw [if_neg z', lt]
      refine ⟨0, _, r, U', rfl, e2, e3, fun _ => ?_, jb.out _, okL, o2⟩
      unfold b2l
      rw [if_neg z]
      exact sl_rd _ _ _ _ _ _
  · have es := e6 (by decide)
    subst es
    rw [if_neg (show ¬ (1 : Nat) = 0 by decide), if_pos rfl]
    exact ⟨1, _, r', U', rfl, e2, e3, fun z => absurd z (by decide), jb, okL, o2⟩
  · have es := e6 (by decide)
    subst es
    rw [if_neg (show ¬ (2 : Nat) = 0 by decide), if_neg (show ¬ (2 : Nat) = 1 by decide)]
    exact ⟨2, _, r', U', rfl, e2, e3, fun z => absurd z (by decide), jb, okL, o2⟩
theorem l_begin {sd : Int32} {S U : St} (h : JB sd S U) : ∃ c S' r' U', f_L_begin S = (c, S') ∧ f_M_begin U = (r', U') ∧ U'.1 1 0 0 1 = c ∧ (c = 0 → S'.2.1 29 0 0 0 = b2l r') ∧ JB sd S' U' ∧ ok_L_begin S ∧ ok_M_begin U := by
  obtain ⟨k, r, S1, r', U', e1, e2, e3, e7, e4, ⟨e5, e6⟩, jb, o1, o2⟩ := b_begin h
  have okL : ok_L_begin S := by
    refine ⟨o1, ?_⟩
    rw [lt, e1]
    exact ⟨fun q => by omega, trivial⟩
  unfold f_L_begin
  rw [lt, e1]
  rcases e7 with rfl | rfl
  · have er := e4 rfl
    subst er
    rw [if_pos rfl]
    by_cases z : r = 0
    · have z' : (0, r, S1).2.1 = 0 := z
      rw [if_pos z', lt]
      refine ⟨0, _, r, U', rfl, e2, e3, fun _ => ?_, jb.out _, okL, o2⟩
      unfold b2l
      rw [if_pos z]
      exact sl_rd _ _ _ _ _ _
    · have z' : ¬ (0, r, S1).2.1 = 0 := z
      rw [if_neg z', lt]
      refine ⟨0, _, r, U', rfl, e2, e3, fun _ => ?_, jb.out _, okL, o2⟩
      unfold b2l
      rw [if_neg z]
      exact sl_rd _ _ _ _ _ _
  · have es := e6 (by decide)
    subst es
    rw [if_neg (show ¬ (2 : Nat) = 0 by decide)]
    exact ⟨1, _, r', U', rfl, e2, e3, fun z => absurd z (by decide), jb, okL, o2⟩
