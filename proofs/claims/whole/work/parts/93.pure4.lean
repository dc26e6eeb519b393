/-! What a node takes as certified; voting. -/
theorem nxt (x y : Int32) : x = y + 1 ↔ y = x - 1 := by
  constructor
  · intro h
    rw [h, Int32.add_sub_cancel]
  · intro h
    rw [h, Int32.sub_add_cancel]
section
variable {sd : Int32} {sg : Nat → Nat} {B T : Nat} {ak : Int32} {S U : St}
theorem j_takes84 (h : J sd sg B T ak S U) {i p q : Nat} (hi : i < 4) (hp : p < B) (hq : q < B) : J sd sg B T ak (f_QC_takeAsCertified_47 i (nI p) S (nI q)) (lt U fun S16 => if S16.1 8 0 0 (nI q).toNatClampNeg = -1 then S16 else if S16.1 7 0 0 (nI q).toNatClampNeg = S16.1 7 0 0 (nI p).toNatClampNeg - 1 then if S16.1 7 0 0 (S16.1 8 0 0 (nI q).toNatClampNeg).toNatClampNeg = S16.1 7 0 0 (nI q).toNatClampNeg - 1 then f_M_commit (nI i) (S16.1 8 0 0 (nI q).toNatClampNeg) S16 else S16 else S16) ∧ ok_QC_takeAsCertified_47 i (nI p) S (nI q) ∧ (vp_in (nI q) 100 ∧ (U.1 8 0 0 q = -1 → True) ∧ (¬ U.1 8 0 0 q = -1 → vp_in (nI q) 100 ∧ vp_in (nI p) 100 ∧ (U.1 7 0 0 q = U.1 7 0 0 p - 1 → vp_in (U.1 8 0 0 q) 100 ∧ vp_in (nI q) 100 ∧ (U.1 7 0 0 (U.1 8 0 0 q).toNatClampNeg = U.1 7 0 0 q - 1 → ok_M_commit (nI i) (U.1 8 0 0 q) U ∧ True) ∧ (¬ U.1 7 0 0 (U.1 8 0 0 q).toNatClampNeg = U.1 7 0 0 q - 1 → True)) ∧ (¬ U.1 7 0 0 q = U.1 7 0 0 p - 1 → True))) := by
  have hB2 := h.v.hB2
  have p100 : vp_in (nI p) 100 := vp_in_nI (by omega) (by decide)
  have q100 : vp_in (nI q) 100 := vp_in_nI (by omega) (by decide)
  have pq := q_parentOf h hq
  have n1 := q_isNext h hp hq
  unfold f_QC_takeAsCertified_47 ok_QC_takeAsCertified_47
  repeat rw [lt]
  rw [pq.1, nI_clamp (by omega : q < 2 ^ 31), nI_clamp (by omega : p < 2 ^ 31)]
  by_cases q0 : q = 0
  · subst q0
    rw [h.v.par0, if_pos rfl, if_pos rfl]
    exact ⟨h, ⟨pq.2, fun _ => trivial, fun z => absurd rfl z⟩, q100, fun _ => trivial, fun z => absurd rfl z⟩
  · obtain ⟨r, hr, er⟩ := h.v.par q (by omega) hq
    have hrB : r < B := by omega
    have r100 : vp_in (nI r) 100 := vp_in_nI (by omega) (by decide)
    have m1 := nI_ne1 (n := r) (by omega)
    have n2 := q_isNext h hq hrB
    rw [er, if_neg m1, if_neg m1, n1.1, n2.1, nI_clamp (by omega : r < 2 ^ 31)]
    by_cases c1 : U.1 7 0 0 q = U.1 7 0 0 p - 1
    · have c1' := (nxt _ _).mpr c1
      rw [if_pos c1', if_neg (by decide), if_pos c1]
      by_cases c2 : U.1 7 0 0 r = U.1 7 0 0 q - 1
      · have c2' := (nxt _ _).mpr c2
        have k := j_commit h hi hrB
        rw [if_pos c2', if_neg (by decide), if_pos c2]
        exact ⟨k.1, ⟨pq.2, fun z => absurd z m1, fun _ => ⟨n1.2, fun z => absurd z (by decide), fun _ => ⟨n2.2, fun z => absurd z (by decide), fun _ => ⟨k.2.1, trivial⟩⟩⟩⟩, q100, fun _ => trivial, fun _ => ⟨q100, p100, fun _ => ⟨r100, q100, fun _ => ⟨k.2.2, trivial⟩, fun _ => trivial⟩, fun _ => trivial⟩⟩
      · have c2' : ¬ U.1 7 0 0 q = U.1 7 0 0 r + 1 := fun z => c2 ((nxt _ _).mp z)
        rw [if_neg c2', if_pos rfl, if_neg c2]
        exact ⟨h, ⟨pq.2, fun z => absurd z m1, fun _ => ⟨n1.2, fun z => absurd z (by decide), fun _ => ⟨n2.2, fun _ => trivial, fun z => absurd rfl z⟩⟩⟩, q100, fun _ => trivial, fun _ => ⟨q100, p100, fun _ => ⟨r100, q100, fun z => absurd z c2, fun _ => trivial⟩, fun _ => trivial⟩⟩
    · have c1' : ¬ U.1 7 0 0 p = U.1 7 0 0 q + 1 := fun z => c1 ((nxt _ _).mp z)
      rw [if_neg c1', if_pos rfl, if_neg c1]
      exact ⟨h, ⟨pq.2, fun z => absurd z m1, fun _ => ⟨n1.2, fun _ => trivial, fun z => absurd rfl z⟩⟩, q100, fun _ => trivial, fun _ => ⟨q100, p100, fun z => absurd z c1, fun _ => trivial⟩⟩
theorem J.same (h : J sd sg B T ak S U) (k x : Nat) : J sd sg B T ak S (si U k 0 0 x (U.1 k 0 0 x)) := by
  rw [si_same]
  exact h
/-- raising what a node holds highest -/
theorem j_raise (h : J sd sg B T ak S U) {i p : Nat} (hi : i < 4) (hp : p < B) : ∃ x, x < B ∧ (if U.1 7 0 0 p ≤ U.1 7 0 0 (U.1 15 0 0 i).toNatClampNeg then U.1 15 0 0 i else nI p) = nI x ∧ J sd sg B T ak (f_QC_raiseHigh i (nI p) S) (si U 15 0 0 i (nI x)) ∧ ok_QC_raiseHigh i (nI p) S := by
  have hB2 := h.v.hB2
  obtain ⟨b, hb, eb⟩ := h.v.high i hi
  have ebS : S.1 3 i 0 11 = nI b := (h.e (Mp.high hi)).trans eb
  have ab := q_isAbove h hp hb
  unfold f_QC_raiseHigh ok_QC_raiseHigh
  repeat rw [lt]
  rw [ebS, ab.1, eb, nI_clamp (by omega)]
  by_cases c : U.1 7 0 0 p ≤ U.1 7 0 0 b
  · rw [if_pos c, if_pos c, if_pos rfl]
    refine ⟨b, hb, rfl, ?_, ab.2, trivial⟩
    have := h.same 15 i
    rw [eb] at this
    exact this
  · rw [if_neg c, if_neg c, if_neg (by decide)]
    exact ⟨p, hp, rfl, h.w (Mp.high hi) (nI p) (h.v.w15 hp), ab.2, trivial⟩
theorem j_takes (h : J sd sg B T ak S U) {i p : Nat} (hi : i < 4) (hp : p < B) : J sd sg B T ak (f_QC_takeAsCertified i (nI p) S) (f_M_takes (nI i) (nI p) U) ∧ ok_QC_takeAsCertified i (nI p) S ∧ ok_M_takes (nI i) (nI p) U := by
  have hB2 := h.v.hB2
  have i4 : vp_in (nI i) 4 := vp_in_nI hi (by decide)
  have p100 : vp_in (nI p) 100 := vp_in_nI (by omega) (by decide)
  obtain ⟨x, hx, ex, h1, o1⟩ := j_raise h hi hp
  obtain ⟨b, hb, eb⟩ := h.v.high i hi
  have b100 : vp_in (nI b) 100 := vp_in_nI (by omega) (by decide)
  have eM : f_M_takes (nI i) (nI p) U = f_M_takes_35 (nI i) (nI p) U (nI x) (nI i) := by
    unfold f_M_takes
    rw [nI_clamp (by omega : p < 2 ^ 31), nI_clamp (by omega : i < 2 ^ 31)]
    split at ex
    · rename_i c
      rw [if_pos c, ex]
    · rename_i c
      rw [if_neg c, ← ex]
  have oM : ok_M_takes_35 (nI i) (nI p) U (nI x) (nI i) → ok_M_takes (nI i) (nI p) U := fun o => by
    unfold ok_M_takes
    rw [nI_clamp (by omega : p < 2 ^ 31), nI_clamp (by omega : i < 2 ^ 31)]
    refine ⟨p100, i4, by rw [eb]; exact b100, fun c => ⟨i4, ?_⟩, fun c => ?_⟩
    · rw [if_pos c] at ex
      rw [ex]
      exact o
    · rw [if_neg c] at ex
      rw [← ex] at o
      exact o
  rw [eM]
  refine (fun z => ⟨z.1, z.2.1, oM z.2.2⟩ : (J sd sg B T ak (f_QC_takeAsCertified i (nI p) S) (f_M_takes_35 (nI i) (nI p) U (nI x) (nI i)) ∧ ok_QC_takeAsCertified i (nI p) S ∧ ok_M_takes_35 (nI i) (nI p) U (nI x) (nI i)) → _) ?_
  unfold f_QC_takeAsCertified f_M_takes_35 ok_QC_takeAsCertified ok_M_takes_35
  repeat rw [lt]
  rw [nI_clamp (by omega : i < 2 ^ 31), nI_clamp (by omega : p < 2 ^ 31)]
  generalize f_QC_raiseHigh i (nI p) S = S3 at h1 ⊢
  generalize si U 15 0 0 i (nI x) = U7 at h1 ⊢
  have pp := q_parentOf h1 hp
  rw [pp.1]
  by_cases p0 : p = 0
  · subst p0
    rw [h1.v.par0, if_pos rfl, if_pos rfl]
    exact ⟨h1, ⟨o1, pp.2, fun _ => trivial, fun z => absurd rfl z⟩, i4, p100, fun _ => trivial, fun z => absurd rfl z⟩
  · obtain ⟨q, hq, eq⟩ := h1.v.par p (by omega) hp
    have hqB : q < B := by omega
    have q100 : vp_in (nI q) 100 := vp_in_nI (by omega) (by decide)
    have m1 := nI_ne1 (n := q) (by omega)
    obtain ⟨k, hk, ek⟩ := h1.v.locked i hi
    have k100 : vp_in (nI k) 100 := vp_in_nI (by omega) (by decide)
    have ekS : S3.1 4 i 0 7 = nI k := (h1.e (Mp.locked hi)).trans ek
    have ab := q_isAbove h1 hqB hk
    rw [eq, if_neg m1, if_neg m1, ekS, ek, ab.1, nI_clamp (by omega : q < 2 ^ 31), nI_clamp (by omega : k < 2 ^ 31)]
    by_cases c : U7.1 7 0 0 q ≤ U7.1 7 0 0 k
    · rw [if_pos c, if_pos rfl, if_pos c]
      have e17 : si U7 17 0 0 i (nI k) = U7 := by
        rw [← ek]
        exact si_same U7 17 0 0 i
      have t := j_takes84 h1 hi hp hqB
      unfold f_M_takes_84 ok_M_takes_84
      repeat rw [lt]
      rw [lt] at t
      rw [nI_clamp (by omega : i < 2 ^ 31), e17]
      refine ⟨t.1, ⟨o1, pp.2, fun z => absurd z m1, fun _ => ⟨ab.2, fun _ => t.2.1, fun z => absurd rfl z⟩⟩, i4, p100, fun z => absurd z m1, fun _ => ⟨q100, i4, k100, fun _ => ⟨i4, i4, ?_⟩, fun z => absurd c z⟩⟩
      rw [nI_clamp (by omega : q < 2 ^ 31), nI_clamp (by omega : p < 2 ^ 31)]
      exact t.2.2
    · rw [if_neg c, if_neg (by decide), if_neg c]
      have h2 := h1.w (Mp.locked hi) (nI q) (h1.v.w17 hqB)
      have t := j_takes84 h2 hi hp hqB
      unfold f_M_takes_84 ok_M_takes_84
      repeat rw [lt]
      rw [lt] at t
      rw [nI_clamp (by omega : i < 2 ^ 31)]
      refine ⟨t.1, ⟨o1, pp.2, fun z => absurd z m1, fun _ => ⟨ab.2, fun z => absurd z (by decide), fun _ => t.2.1⟩⟩, i4, p100, fun z => absurd z m1, fun _ => ⟨q100, i4, k100, fun z => absurd z c, fun _ => ⟨i4, ?_⟩⟩⟩
      rw [nI_clamp (by omega : q < 2 ^ 31), nI_clamp (by omega : p < 2 ^ 31)]
      exact t.2.2
theorem ldr : ∀ v, v < 129 → 1 ≤ v → (1 : Int32) ≤ nI v ∧ ((nI v - (1 : Int32)) / (4 : Int32)) - ((nI v - (1 : Int32)) / (4 : Int32)) / (4 : Int32) * (4 : Int32) = nI ((v - 1) / 4 % 4) := by decide +kernel
theorem q_leader {v : Nat} (h1 : 1 ≤ v) (h2 : v < 129) (S : St) : f_QC_leaderOf (nI v) S = nI ((v - 1) / 4 % 4) ∧ f_M_leader (nI v) S = nI ((v - 1) / 4 % 4) := by
  have l := ldr v h2 h1
  unfold f_QC_leaderOf f_M_leader
  rw [if_pos l.1, l.2]
  exact ⟨rfl, rfl⟩
theorem j_enter (h : J sd sg B T ak S U) {i v : Nat} (hi : i < 4) (h1 : 1 ≤ v) (h2 : v < 128) (hr : Rc sg (U.1 18 0 0) v) : J sd sg B T ak (f_Node_enter i (nI v) S) (f_M_enter (nI i) (nI v) U) ∧ ok_M_enter (nI i) (nI v) U ∧ (∀ k, k ≠ 12 → k ≠ 13 → (f_M_enter (nI i) (nI v) U).1 k 0 0 = U.1 k 0 0) ∧ (f_M_enter (nI i) (nI v) U).1 12 0 0 i = nI v := by
  have i4 : vp_in (nI i) 4 := vp_in_nI hi (by decide)
  unfold f_Node_enter f_M_enter ok_M_enter
  repeat rw [lt]
  rw [nI_clamp (by omega)]
  have j1 := h.w (Mp.view hi) (nI v) (h.v.w12 h1 h2 hr)
  rw [j1.e (Mp.span hi)]
  have j2 := j1.w (Mp.timer hi) ((si U 12 0 0 i (nI v)).1 14 0 0 i) (j1.v.w13 _ _)
  refine ⟨j2, ⟨i4, i4, i4, trivial⟩, fun k n12 n13 => ?_, ?_⟩
  · funext y
    rw [si_i, if_neg (fun q => n13 q.1), si_i, if_neg (fun q => n12 q.1)]
  · show (si U 12 0 0 i (nI v)).1 12 0 0 i = nI v
    exact si_rd _ _ _ _ _ _
end
/-! How far views can go: three signatures of different nodes for each view past 60. -/
def cQn (p : Nat → Prop) [DecidablePred p] (n : Nat) : Nat := Nat.rec 0 (fun k r => r + if p k then 1 else 0) n
theorem cQn_s (p : Nat → Prop) [DecidablePred p] (n : Nat) : cQn p (n + 1) = cQn p n + if p n then 1 else 0 := rfl
theorem cQn_le (p : Nat → Prop) [DecidablePred p] (n : Nat) : cQn p n ≤ n := by
  induction n with
  | zero => exact Nat.le_refl _
  | succ n ih =>
    rw [cQn_s]
    split <;> omega
theorem cQn_mono (p : Nat → Prop) [DecidablePred p] {a b : Nat} (h : a ≤ b) : cQn p a ≤ cQn p b := by
  induction h with
  | refl => exact Nat.le_refl _
  | step _ ih =>
    rw [cQn_s]
    omega
theorem cQn_hit (p : Nat → Prop) [DecidablePred p] {x n : Nat} (h : x < n) (hp : p x) : cQn p x + 1 ≤ cQn p n := by
  have := cQn_mono p (show x + 1 ≤ n from h)
  rw [cQn_s, if_pos hp] at this
  exact this
theorem cQn_or (p q r : Nat → Prop) [DecidablePred p] [DecidablePred q] [DecidablePred r] (hr : ∀ x, r x ↔ p x ∨ q x) (hd : ∀ x, p x → ¬ q x) (n : Nat) : cQn r n = cQn p n + cQn q n := by
  induction n with
  | zero => rfl
  | succ n ih =>
    rw [cQn_s, cQn_s, cQn_s, ih]
    by_cases hp : p n
    · rw [if_pos ((hr n).mpr (Or.inl hp)), if_pos hp, if_neg (hd n hp)]
      omega
    · by_cases hq : q n
      · rw [if_pos ((hr n).mpr (Or.inr hq)), if_neg hp, if_pos hq]
        omega
      · rw [if_neg (fun z => ((hr n).mp z).elim hp hq), if_neg hp, if_neg hq]
        omega
theorem Rc.cnt {sg : Nat → Nat} {us : Nat → Int32} (hus : ∀ s, s < 4 → ∃ n, n ≤ 32 ∧ us s = nI n) (v : Nat) : 60 ≤ v → Rc sg us v → 3 * (v - 60) ≤ cQn (fun x => 60 ≤ sg x ∧ sg x < v) 128 := by
  intro h60
  induction v with
  | zero => omega
  | succ v ih =>
    intro h
    by_cases c : v < 60
    · have : v + 1 - 60 = 0 := by omega
      rw [this]
      exact Nat.zero_le _
    · have k := ih (by omega) (fun w a b => h w a (by omega))
      obtain ⟨a, b, d, ab, bd, d4, m1, m2, m3⟩ := h v (by omega) (by omega)
      have pick : ∀ s, s < 4 → Mk sg us s v → ∃ x, 32 * s ≤ x ∧ x < 32 * s + 32 ∧ sg x = v := fun s hs m => by
        obtain ⟨y, hy, e⟩ := m
        obtain ⟨n, hn, en⟩ := hus s hs
        rw [en, nI_clamp (by omega)] at hy
        exact ⟨32 * s + y, by omega, by omega, e⟩
      obtain ⟨x, x1, x2, xe⟩ := pick a (by omega) m1
      obtain ⟨y, y1, y2, ye⟩ := pick b (by omega) m2
      obtain ⟨z, z1, z2, ze⟩ := pick d (by omega) m3
      have e := cQn_or (fun x => 60 ≤ sg x ∧ sg x < v) (fun x => sg x = v) (fun x => 60 ≤ sg x ∧ sg x < v + 1) (fun x => by omega) (fun x p => by omega) 128
      have c3 : 3 ≤ cQn (fun x => sg x = v) 128 := by
        have p3 := cQn_hit (fun x => sg x = v) (show z < 128 by omega) ze
        have p2 := cQn_hit (fun x => sg x = v) (show y < z by omega) ye
        have p1 := cQn_hit (fun x => sg x = v) (show x < y by omega) xe
        omega
      rw [e]
      omega
theorem Rc.lim {sg : Nat → Nat} {us : Nat → Int32} (hus : ∀ s, s < 4 → ∃ n, n ≤ 32 ∧ us s = nI n) {v : Nat} (h : Rc sg us v) : v ≤ 102 := by
  by_cases c : 60 ≤ v
  · have := h.cnt hus v c
    have := cQn_le (fun x => 60 ≤ sg x ∧ sg x < v) 128
    omega
  · omega
section
variable {sd : Int32} {sg : Nat → Nat} {B T : Nat} {ak : Int32} {S U : St}
/-- an unsigned message -/
theorem j_ask (h : J sd sg B T ak S U) {i s b k : Nat} (hi : i < 4) (hs : s < 4) (hb : b < B) (hb1 : 1 ≤ b) (hk : k = 4 ∨ k = 5) : J sd sg B T ak (f_QC_sendUnsigned i (nI k) (nI b) (nI s) S) (f_M_send (nI i) (nI s) (nI k) (nI b) 0 U) ∧ ok_QC_sendUnsigned i (nI k) (nI b) (nI s) S ∧ ok_M_send (nI i) (nI s) (nI k) (nI b) 0 U := by
  have eid := h.r.id i hi
  have w := q_write 4 0 (nI k) (nI i) (nI b) 0 S
  have wsc := q_write_scs (nI k) (nI i) (nI b) 0 S
  have k3 : ¬ nI k ≤ (3 : Int32) := by
    rcases hk with rfl | rfl <;> decide
  have h1 : J sd sg B T ak (f_Message_write 4 0 (nI k) (nI i) (nI b) 0 S) U := J.mk (wsc.rel h.r) h.v (by
    rw [w.1, if_neg (fun q => by omega)]
    exact h.a) h.t
  have wf : ∀ f, 1 ≤ f → f ≤ 5 → (f_Message_write 4 0 (nI k) (nI i) (nI b) 0 S).1 14 4 0 f = fld (nI k) (nI i) (nI b) 0 (-1) f := fun f p q => by rw [w.1, if_pos ⟨rfl, rfl, rfl, p, q⟩]
  have d : Dr (f_Message_write 4 0 (nI k) (nI i) (nI b) 0 S) U (nI k) (nI i) (nI b) 0 := ⟨wf 1 (by decide) (by decide), wf 2 (by decide) (by decide), wf 3 (by decide) (by decide), wf 4 (by decide) (by decide), by rw [wf 5 (by decide) (by decide), if_neg k3]; rfl, fun q => absurd q k3⟩
  have ms : MsgOk sg B (U.1 18 0 0) (U.1 7 0 0) (nI k) (nI i) (nI b) 0 (if nI k ≤ 3 then U.1 1 0 0 40 else -1) := by
    rw [if_neg k3]
    refine ⟨⟨k, by omega, by omega, rfl⟩, ⟨i, hi, rfl⟩, ⟨b, hb, rfl, fun _ => hb1⟩, ⟨0, by decide, rfl⟩, fun q => absurd q k3, fun _ => rfl, fun q => ?_, fun q => ?_⟩
    · rcases hk with rfl | rfl <;> exact absurd q (by decide)
    · rcases hk with rfl | rfl <;> exact absurd q (by decide)
  have g := j_send h1 hs d ms
  unfold f_QC_sendUnsigned ok_QC_sendUnsigned
  repeat rw [lt]
  rw [eid, q_isNode hs, if_neg (by decide), nI_clamp (by omega)]
  exact ⟨g.1, ⟨fun q => absurd q (by decide), fun _ => ⟨vp_in_nI hs (by decide), g.2.2.2.1, trivial⟩⟩, g.2.2.2.2⟩
/-- voting for block b, view v -/
theorem j_voteFor (h : J sd sg B T ak S U) {i b p v : Nat} (hi : i < 4) (hb : b < B) (hb1 : 1 ≤ b) (hp : p < B) (ev : U.1 7 0 0 b = nI v) (hv1 : 1 ≤ v) (hv2 : v < 128) (hr : Rc sg (U.1 18 0 0) v) (a2 : Int32) : ∃ sg', J sd sg' B T ak (f_QC_voteFor i (nI b) (nI p) S) (if U.1 7 0 0 p = nI v - 1 then f_M_proposal_160 (nI i) a2 (nI b) U (nI v) 6 (nI i) else f_M_proposal_160 (nI i) a2 (nI b) U (nI v) (U.1 14 0 0 i) (nI i)) ∧ ok_QC_voteFor i (nI b) (nI p) S ∧ (U.1 7 0 0 p = nI v - 1 → ok_M_proposal_160 (nI i) a2 (nI b) U (nI v) 6 (nI i)) ∧ (¬ U.1 7 0 0 p = nI v - 1 → ok_M_proposal_160 (nI i) a2 (nI b) U (nI v) (U.1 14 0 0 i) (nI i)) := by
  have hB2 := h.v.hB2
  have i4 : vp_in (nI i) 4 := vp_in_nI hi (by decide)
  have core : ∀ (S1 U1 : St), J sd sg B T ak S1 U1 → U1.1 7 0 0 b = nI v → U1.1 18 0 0 = U.1 18 0 0 → ∃ sg' U9, J sd sg' B T ak (f_QC_voteFor_18 i (nI b) (nI p) S1) U9 ∧ ok_QC_voteFor_18 i (nI b) (nI p) S1 ∧ (∀ t0 (U0 : St), U1 = si U0 14 0 0 i t0 → f_M_proposal_160 (nI i) a2 (nI b) U0 (nI v) t0 (nI i) = U9 ∧ ok_M_proposal_160 (nI i) a2 (nI b) U0 (nI v) t0 (nI i)) := by
    intro S1 U1 h1 ev1 e18
    have vo := q_viewOf h1 hb
    rw [ev1] at vo
    have en := j_enter h1 hi hv1 hv2 (by rw [e18]; exact hr)
    have h2 := en.1.w (Mp.voted hi) (nI v) (en.1.v.w16 hv2 (by rw [en.2.2.1 18 (by decide) (by decide), e18]; exact hr))
    have ld := q_leader (v := v + 1) (by omega) (by omega)
    have n4 : (v + 1 - 1) / 4 % 4 < 4 := Nat.mod_lt _ (by decide)
    obtain ⟨S9, hS9⟩ : ∃ z, z = si (f_Node_enter i (nI v) S1) 4 i 0 6 (nI v) := ⟨_, rfl⟩
    obtain ⟨U5, hU5⟩ : ∃ z, z = si (f_M_enter (nI i) (nI v) U1) 16 0 0 i (nI v) := ⟨_, rfl⟩
    rw [← hS9, ← hU5] at h2
    obtain ⟨z, ez⟩ := m_mean 2 0 (nI b) U5
    obtain ⟨u, hu, eu⟩ := h2.v.used i hi
    have e18' : U5.1 18 0 0 = U.1 18 0 0 := by
      rw [hU5, ← e18, ← en.2.2.1 18 (by decide) (by decide)]
      rfl
    have e7' : U5.1 7 0 0 b = nI v := by
      rw [← ev1, ← en.2.2.1 7 (by decide) (by decide), hU5]
      rfl
    have eQ : f_QC_voteFor_18 i (nI b) (nI p) S1 = if (f_QC_writeSigned i 2 (nI b) 0 S9).1 = 0 then (f_QC_writeSigned i 2 (nI b) 0 S9).2 else f_Inbox_add ((v + 1 - 1) / 4 % 4) 4 0 (f_QC_writeSigned i 2 (nI b) 0 S9).2 := by
      unfold f_QC_voteFor_18
      repeat rw [lt]
      rw [vo.1, nI_s, (ld _).1, q_isNode n4, if_neg (by decide), ← hS9, nI_clamp (by omega)]
    have oQ : ok_QC_writeSigned i 2 (nI b) 0 S9 → (¬ (f_QC_writeSigned i 2 (nI b) 0 S9).1 = 0 → ok_Inbox_add ((v + 1 - 1) / 4 % 4) 4 0 (f_QC_writeSigned i 2 (nI b) 0 S9).2) → ok_QC_voteFor_18 i (nI b) (nI p) S1 := fun o1 o2 => by
      unfold ok_QC_voteFor_18
      repeat rw [lt]
      rw [vo.1, nI_s, (ld _).1, q_isNode n4, ← hS9, nI_clamp (by omega)]
      exact ⟨vo.2, fun q => absurd q (by decide), fun _ => ⟨o1, fun _ => trivial, fun q => ⟨vp_in_nI n4 (by decide), o2 q, trivial⟩⟩⟩
    have eM : ∀ t0 (U0 : St), U1 = si U0 14 0 0 i t0 → f_M_proposal_160 (nI i) a2 (nI b) U0 (nI v) t0 (nI i) = if (f_M_signs (nI i) (mean 2 0 (nI b)) (fo U5 z)).1 = 0 then (f_M_signs (nI i) (mean 2 0 (nI b)) (fo U5 z)).2 else f_M_send (nI i) (nI ((v + 1 - 1) / 4 % 4)) 2 (nI b) 0 (f_M_signs (nI i) (mean 2 0 (nI b)) (fo U5 z)).2 := fun t0 U0 e0 => by
      unfold f_M_proposal_160
      repeat rw [lt]
      rw [nI_clamp (by omega), ← e0, ← hU5, ez, nI_s, (ld _).2]
    have oM : ok_M_signs (nI i) (mean 2 0 (nI b)) (fo U5 z) → (¬ (f_M_signs (nI i) (mean 2 0 (nI b)) (fo U5 z)).1 = 0 → ok_M_send (nI i) (nI ((v + 1 - 1) / 4 % 4)) 2 (nI b) 0 (f_M_signs (nI i) (mean 2 0 (nI b)) (fo U5 z)).2) → ∀ t0 (U0 : St), U1 = si U0 14 0 0 i t0 → ok_M_proposal_160 (nI i) a2 (nI b) U0 (nI v) t0 (nI i) := fun o1 o2 t0 U0 e0 => by
      unfold ok_M_proposal_160
      repeat rw [lt]
      rw [nI_clamp (by omega), ← e0, ← hU5, ez, nI_s, (ld _).2]
      exact ⟨i4, en.2.1, i4, o1, fun _ => trivial, fun q => ⟨o2 q, trivial⟩⟩
    by_cases hu32 : u = 32
    · subst hu32
      obtain ⟨S3, w1, w2, j3, p1, p2⟩ := j_sign0 h2 hi eu 2 (nI b) 0 z
      refine ⟨sg, fo U5 z, ?_, ?_, fun t0 U0 e0 => ⟨?_, ?_⟩⟩
      · rw [eQ, w1, if_pos rfl]
        exact j3
      · exact oQ p1 (fun q => absurd (by rw [w1]) q)
      · rw [eM t0 U0 e0, w2, if_pos rfl]
      · exact oM p2 (fun q => absurd (by rw [w2]) q) t0 U0 e0
    · obtain ⟨S3, U3, w1, w2, j3, d3, k40, fr3, e18n, p1, p2⟩ := j_sign h2 hi (u := u) (by omega) eu 2 (nI b) 0 (by decide) v z
      have n10 : ¬ (1 : Int32) = 0 := by decide
      have ms : MsgOk (upn sg (32 * i + u) v) B (U3.1 18 0 0) (U3.1 7 0 0) 2 (nI i) (nI b) 0 (if (2 : Int32) ≤ 3 then U3.1 1 0 0 40 else -1) := by
        rw [if_pos (by decide), k40]
        refine ⟨⟨2, by decide, by decide, rfl⟩, ⟨i, hi, rfl⟩, ⟨b, hb, rfl, fun _ => hb1⟩, ⟨0, by decide, rfl⟩, fun _ => ⟨u, by omega, rfl⟩, fun q => absurd (by decide) q, fun _ => ?_, fun q => absurd q (by decide)⟩
        rw [nI_clamp (by omega), nI_clamp (by omega), fr3 7 (by decide) (by decide) (by decide), e7', nI_clamp (by omega), e18n]
        exact Mk.new (by omega)
      have g := j_send j3 n4 d3 ms
      refine ⟨upn sg (32 * i + u) v, f_M_send (nI i) (nI ((v + 1 - 1) / 4 % 4)) 2 (nI b) 0 U3, ?_, ?_, fun t0 U0 e0 => ⟨?_, ?_⟩⟩
      · rw [eQ, w1, if_neg n10]
        exact g.1
      · exact oQ p1 (fun _ => by rw [w1]; exact g.2.2.2.1)
      · rw [eM t0 U0 e0, w2, if_neg n10]
      · exact oM p2 (fun _ => by rw [w2]; exact g.2.2.2.2) t0 U0 e0
  have nx := q_isNext h hb hp
  rw [ev] at nx
  unfold f_QC_voteFor ok_QC_voteFor
  repeat rw [lt]
  rw [nx.1]
  by_cases c : U.1 7 0 0 p = nI v - 1
  · have c' := (nxt _ _).mpr c
    rw [if_pos c', if_neg (by decide), if_pos c]
    have h1 := h.w (Mp.span hi) (nI 6) (h.v.w14 (s := 6) (by decide))
    obtain ⟨sg', U9, j9, o9, m9⟩ := core (si S 3 i 0 10 6) (si U 14 0 0 i 6) h1 ev rfl
    have m := m9 6 U rfl
    rw [m.1]
    exact ⟨sg', j9, ⟨nx.2, fun q => absurd q (by decide), fun _ => o9⟩, fun _ => m.2, fun q => absurd c q⟩
  · have c' : ¬ nI v = U.1 7 0 0 p + 1 := fun q => c ((nxt _ _).mp q)
    rw [if_neg c', if_pos rfl, if_neg c]
    obtain ⟨sg', U9, j9, o9, m9⟩ := core S U h ev rfl
    have m := m9 (U.1 14 0 0 i) U (si_same U 14 0 0 i).symm
    rw [m.1]
    exact ⟨sg', j9, ⟨nx.2, fun _ => o9, fun q => absurd rfl q⟩, fun q => absurd q c, fun _ => m.2⟩
end
/-! Tallies. -/
def Sz : St := (fun _ _ _ _ => 0, fun _ _ _ _ => 0, fun _ _ _ _ => 0)
def tor (v : Int32) (s : Nat) : Int32 := v ||| ((1 : Int32) <<< (nI s &&& 31))
theorem bc_S (a : Int32) (S : St) : f_Integer_bitCount a S = f_Integer_bitCount a Sz := by
  unfold f_Integer_bitCount
  rfl
theorem bits_S (a : Int32) (S : St) : f_M_bits a S = f_M_bits a Sz := by
  unfold f_M_bits
  rfl
theorem tal1 : ∀ w, w < 16 → ∀ s, s < 4 → ((¬ tor (nI w) s = nI w ∧ f_Integer_bitCount (tor (nI w) s) Sz = 3) ↔ (f_M_bits (nI w) Sz = 2 ∧ f_M_bits (tor (nI w) s) Sz = 3)) := by decide +kernel
theorem tal2 : ∀ w, w < 16 → ∀ s, s < 4 → ∃ w', w' < 16 ∧ tor (nI w) s = nI w' := by decide +kernel
theorem tal3d : ∀ w, w < 16 → ∀ s, s < 4 → ∀ t, t < 4 → (tor (nI w) s &&& ((1 : Int32) <<< (nI t &&& 31)) = 0 ∨ ¬ (nI w &&& ((1 : Int32) <<< (nI t &&& 31)) = 0) ∨ t = s) := by decide +kernel
theorem tal3 (w : Nat) (hw : w < 16) (s : Nat) (hs : s < 4) (t : Nat) (ht : t < 4) (q : tbit (tor (nI w) s) t) : tbit (nI w) t ∨ t = s := (tal3d w hw s hs t ht).resolve_left q
theorem tal4 : ∀ w, w < 16 → (f_M_bits (nI w) Sz = 3 → ∃ a, a < 4 ∧ ∃ b, b < 4 ∧ ∃ c, c < 4 ∧ a < b ∧ b < c ∧ ¬ (nI w &&& ((1 : Int32) <<< (nI a &&& 31)) = 0) ∧ ¬ (nI w &&& ((1 : Int32) <<< (nI b &&& 31)) = 0) ∧ ¬ (nI w &&& ((1 : Int32) <<< (nI c &&& 31)) = 0)) := by decide +kernel
section
variable {sd : Int32} {sg : Nat → Nat} {B T : Nat} {ak : Int32} {S U : St}
theorem Ivt.w20 (h : Ivt sg B T U) {i b s : Nat} (hi : i < 4) (hb : b < B) (hs : s < 4) (hm : Mk sg (U.1 18 0 0) s (U.1 7 0 0 b).toNatClampNeg) : Ivt sg B T (si U 20 0 0 (100 * i + b) (tor (U.1 20 0 0 (100 * i + b)) s)) := by
  have hB2 := h.hB2
  obtain ⟨w, hw, ew⟩ := h.votes i hi b (by omega)
  exact (Ivt.mk (hB := h.hB) (hB1 := h.hB1) (hB2 := h.hB2) (hT := h.hT) (hT2 := h.hT2) (par0 := h.par0) (par := h.par) (vw0 := h.vw0) (vw := h.vw) (car := h.car) (fr := h.fr) (to := h.to) (view := h.view) (span := h.span) (high := h.high) (locked := h.locked) (voted := h.voted) (used := h.used) (has0 := h.has0) (hasB := h.hasB) (hasV := h.hasV) (votes := fun i' hi' b' hb' => by
      rw [si_i]
      by_cases c : 100 * i' + b' = 100 * i + b
      · rw [if_pos ⟨rfl, rfl, rfl, c⟩, ew]
        exact tal2 w hw s hs
      · rw [if_neg (fun q => c q.2.2.2)]
        exact h.votes i' hi' b' hb') (votesB := fun i' hi' b' h1 h2 => by
      rw [si_i, if_neg (fun q => by omega)]
      exact h.votesB i' hi' b' h1 h2) (votesM := fun i' hi' b' hb' t ht q => by
      rw [si_i] at q
      by_cases c : 100 * i' + b' = 100 * i + b
      · rw [if_pos ⟨rfl, rfl, rfl, c⟩, ew] at q
        have eb : b' = b := by omega
        have ei : i' = i := by omega
        subst eb ei
        rcases tal3 w hw s hs t ht q with z | z
        · exact h.votesM i' hi b' hb t ht (by rw [ew]; exact z)
        · rw [z]
          exact hm
      · rw [if_neg (fun q => c q.2.2.2)] at q
        exact h.votesM i' hi' b' hb' t ht q) (touts := h.touts) (toutsM := h.toutsM) (pooled := h.pooled) (pool := h.pool) (poolD := h.poolD) (logged := h.logged) (log0 := h.log0) (log := h.log) (logP := h.logP) (fly := h.fly) (msgs := h.msgs))
theorem Ivt.w21 (h : Ivt sg B T U) {i v s : Nat} (hi : i < 4) (hv : v < 200) (hs : s < 4) (hm : Mk sg (U.1 18 0 0) s v) : Ivt sg B T (si U 21 0 0 (200 * i + v) (tor (U.1 21 0 0 (200 * i + v)) s)) := by
  obtain ⟨w, hw, ew⟩ := h.touts i hi v hv
  exact (Ivt.mk (hB := h.hB) (hB1 := h.hB1) (hB2 := h.hB2) (hT := h.hT) (hT2 := h.hT2) (par0 := h.par0) (par := h.par) (vw0 := h.vw0) (vw := h.vw) (car := h.car) (fr := h.fr) (to := h.to) (view := h.view) (span := h.span) (high := h.high) (locked := h.locked) (voted := h.voted) (used := h.used) (has0 := h.has0) (hasB := h.hasB) (hasV := h.hasV) (votes := h.votes) (votesB := h.votesB) (votesM := h.votesM) (touts := fun i' hi' b' hb' => by
      rw [si_i]
      by_cases c : 200 * i' + b' = 200 * i + v
      · rw [if_pos ⟨rfl, rfl, rfl, c⟩, ew]
        exact tal2 w hw s hs
      · rw [if_neg (fun q => c q.2.2.2)]
        exact h.touts i' hi' b' hb') (toutsM := fun i' hi' b' hb' t ht q => by
      rw [si_i] at q
      by_cases c : 200 * i' + b' = 200 * i + v
      · rw [if_pos ⟨rfl, rfl, rfl, c⟩, ew] at q
        have eb : b' = v := by omega
        have ei : i' = i := by omega
        subst eb ei
        rcases tal3 w hw s hs t ht q with z | z
        · exact h.toutsM i' hi b' hv t ht (by rw [ew]; exact z)
        · rw [z]
          exact hm
      · rw [if_neg (fun q => c q.2.2.2)] at q
        exact h.toutsM i' hi' b' hb' t ht q) (pooled := h.pooled) (pool := h.pool) (poolD := h.poolD) (logged := h.logged) (log0 := h.log0) (log := h.log) (logP := h.logP) (fly := h.fly) (msgs := h.msgs))
theorem q_tally {i j b w s : Nat} {S : St} (hb : b < tlen j) (hj : tlen j ≤ 128) (hw : w < 16) (hs : s < 4) (ew : S.1 17 i j b = nI w) : ∃ r, f_Tally_keep i j (nI b) (nI s) S = (r, si S 17 i j b (tor (nI w) s)) ∧ (r = 3 ↔ (f_M_bits (nI w) Sz = 2 ∧ f_M_bits (tor (nI w) s) Sz = 3)) ∧ ok_Tally_keep i j (nI b) (nI s) S := by
  have n0 := nI_pos (n := b) (by omega)
  have l : nI b < Int32.ofNat (tlen j) := (nI_ltI (a := b) (b := tlen j) (by omega) (by omega)).mpr hb
  have bin : vp_in (nI b) (tlen j) := vp_in_nI hb (by omega)
  have t1 := tal1 w hw s hs
  have ok : ok_Tally_keep i j (nI b) (nI s) S := ⟨fun q => absurd q n0, fun _ => ⟨fun _ => ⟨bin, bin, bin, fun _ => trivial, fun _ => ⟨bin, trivial⟩⟩, fun _ => trivial⟩⟩
  unfold f_Tally_keep
  repeat rw [lt]
  rw [if_neg n0, if_pos l, nI_clamp (by omega), ew]
  have e : nI w ||| ((1 : Int32) <<< (nI s &&& 31)) = tor (nI w) s := rfl
  rw [e, si_rd]
  by_cases c : tor (nI w) s = nI w
  · rw [if_pos c]
    refine ⟨0, rfl, ⟨fun q => absurd q (by decide), fun q => ?_⟩, ok⟩
    exact absurd c (t1.mpr q).1
  · rw [if_neg c, bc_S]
    refine ⟨_, rfl, ⟨fun q => t1.mp ⟨c, q⟩, fun q => (t1.mpr q).2⟩, ok⟩
/-- three marks for a view reach the next -/
theorem Rc.next {us : Nat → Int32} {v : Nat} (h : Rc sg us v) {w : Nat} (hw : w < 16) (b3 : f_M_bits (nI w) Sz = 3) (hm : ∀ t, t < 4 → tbit (nI w) t → Mk sg us t v) : Rc sg us (v + 1) := by
  intro x h60 hx
  by_cases c : x < v
  · exact h x h60 c
  · have : x = v := by omega
    subst this
    obtain ⟨a, ha, b, hb, d, hd, ab, bd, t1, t2, t3⟩ := tal4 w hw b3
    exact ⟨a, b, d, ab, bd, hd, hm a ha t1, hm b hb t2, hm d hd t3⟩
theorem j_vote (h : J sd sg B T ak S U) {i s b : Nat} (hi : i < 4) (hs : s < 4) (hb : b < B) (hb1 : 1 ≤ b) (hm : Mk sg (U.1 18 0 0) s (U.1 7 0 0 b).toNatClampNeg) : ∃ sg' B', J sd sg' B' T ak (f_QC_receiveVote i (nI s) (nI b) S) (f_M_vote (nI i) (nI s) (nI b) U) ∧ ok_QC_receiveVote i (nI s) (nI b) S ∧ ok_M_vote (nI i) (nI s) (nI b) U := by
  have hB2 := h.v.hB2
  have i4 : vp_in (nI i) 4 := vp_in_nI hi (by decide)
  have b100 : vp_in (nI b) 100 := vp_in_nI (by omega) (by decide)
  have p400 : vp_in (nI (100 * i + b)) 400 := vp_in_nI (by omega) (by decide)
  obtain ⟨v, hv1, hv2, ev, rv⟩ := h.v.vw b (by omega) hb
  have vo := q_viewOf h hb
  rw [ev] at vo
  have hh := q_hasBlock h hi (b := b) (by omega)
  have ld := q_leader (v := v + 1) (by omega) (by omega)
  unfold f_QC_receiveVote f_M_vote ok_QC_receiveVote ok_M_vote
  repeat rw [lt]
  rw [vo.1, hh.1, ix100, nI_clamp (by omega : 100 * i + b < 2 ^ 31), nI_clamp (by omega : b < 2 ^ 31), nI_clamp (by omega : i < 2 ^ 31), ev, nI_s, (ld S).1, (ld U).2, h.r.id i hi]
  by_cases c0 : U.1 19 0 0 (100 * i + b) = 0
  · rw [if_pos c0, if_pos rfl, if_pos c0]
    exact ⟨sg, B, h, ⟨vo.2, hh.2, fun _ => trivial, fun q => absurd rfl q⟩, b100, p400, fun _ => trivial, fun q => absurd c0 q⟩
  · rw [if_neg c0, if_neg (by decide), if_neg c0]
    by_cases cl : nI ((v + 1 - 1) / 4 % 4) = nI i
    · rw [if_pos cl, if_pos cl]
      obtain ⟨w, hw, ew⟩ := h.v.votes i hi b (by omega)
      have ewS : S.1 17 i 0 b = nI w := (h.e (Mp.votes hi (by omega))).trans ew
      obtain ⟨r, er, rr, ok⟩ := q_tally (j := 0) (s := s) (by show b < 100; omega) (by decide) hw hs ewS
      have era := congrArg Prod.fst er
      have erb := congrArg Prod.snd er
      simp only at era erb
      have h1 := h.w (Mp.votes hi (b := b) (by omega)) (tor (nI w) s) (by
        have := h.v.w20 hi hb hs hm
        rw [ew] at this
        exact this)
      have et : nI w ||| ((1 : Int32) <<< (nI s &&& 31)) = tor (nI w) s := rfl
      rw [era, erb, ew, et, si_rd, bits_S (nI w) U, bits_S (tor (nI w) s) (si U 20 0 0 (100 * i + b) (tor (nI w) s))]
      obtain ⟨S5, hS5⟩ : ∃ z, z = si S 17 i 0 b (tor (nI w) s) := ⟨_, rfl⟩
      obtain ⟨U5, hU5⟩ : ∃ z, z = si U 20 0 0 (100 * i + b) (tor (nI w) s) := ⟨_, rfl⟩
      rw [← hS5, ← hU5] at h1 ⊢
      by_cases c3 : r = 3
      · have c3' := rr.mp c3
        rw [if_pos c3, if_pos c3'.1, if_pos c3'.2]
        have ct : f_Blocks_certify (nI b) S5 = si S5 23 0 0 b 1 ∧ ok_Blocks_certify (nI b) S5 := by
          unfold f_Blocks_certify ok_Blocks_certify
          rw [lt, lt, lt, q_ex h1.eB hb hB2, if_neg (by decide), nI_clamp (by omega)]
          exact ⟨rfl, fun q => absurd q (by decide), fun _ => ⟨b100, trivial⟩⟩
        have h2 := h1.w (Mp.cer (b := b) (by omega)) 1 (h1.v.w10 b 1)
        rw [ct.1]
        have e7 : (si U5 10 0 0 b 1).1 7 0 0 = U.1 7 0 0 := by rw [hU5]; rfl
        have e18 : (si U5 10 0 0 b 1).1 18 0 0 = U.1 18 0 0 := by rw [hU5]; rfl
        have e20 : (si U5 10 0 0 b 1).1 20 0 0 (100 * i + b) = tor (nI w) s := by
          show U5.1 20 0 0 (100 * i + b) = _
          rw [hU5, si_rd]
        obtain ⟨S6, hS6⟩ : ∃ z, z = si S5 23 0 0 b 1 := ⟨_, rfl⟩
        obtain ⟨U6, hU6⟩ : ∃ z, z = si U5 10 0 0 b 1 := ⟨_, rfl⟩
        rw [← hU6] at e7 e18 e20
        rw [← hS6, ← hU6] at h2 ⊢
        obtain ⟨x, hx1, hx2, ex, rx⟩ := h2.v.view i hi
        have exS : S6.1 3 i 0 8 = nI x := (h2.e (Mp.view hi)).trans ex
        obtain ⟨y, hy, ey⟩ := h2.v.high i hi
        have eyS : S6.1 3 i 0 11 = nI y := (h2.e (Mp.high hi)).trans ey
        have ab := q_isAbove h2 hb hy
        have em : nI x - (1 : Int32) = nI (x - 1) := nI_sub (b := 1) hx1
        have y100 : vp_in (nI y) 100 := vp_in_nI (by omega) (by decide)
        have e7b : U6.1 7 0 0 b = nI v := by rw [e7]; exact ev
        rw [exS, eyS, ex, ey, ab.1, em, nI_clamp (by omega : y < 2 ^ 31), e7b]
        by_cases c4 : v + 1 < x
        · have l1 : nI (v + 1) < nI x := (nI_ltI (by omega) (by omega)).mpr c4
          have l2 : nI v < nI (x - 1) := (nI_ltI (by omega) (by omega)).mpr (by omega)
          rw [if_pos l1, if_pos l2]
          exact ⟨sg, B, h2, ⟨vo.2, hh.2, fun q => absurd q (by decide), fun _ => ⟨fun _ => ⟨ok, fun _ => ⟨ct.2, fun _ => trivial, fun q => absurd l1 q⟩, fun q => absurd c3 q⟩, fun q => absurd cl q⟩⟩, b100, p400, fun q => absurd q c0, fun _ => ⟨fun _ => ⟨p400, p400, p400, fun _ => ⟨p400, fun _ => ⟨b100, i4, fun _ => trivial, fun q => absurd l2 q⟩, fun q => absurd c3'.2 q⟩, fun q => absurd c3'.1 q⟩, fun q => absurd cl q⟩⟩
        · have l1 : ¬ nI (v + 1) < nI x := fun q => c4 ((nI_ltI (by omega) (by omega)).mp q)
          have l2 : ¬ nI v < nI (x - 1) := fun q => c4 (by have := (nI_ltI (by omega) (by omega)).mp q; omega)
          rw [if_neg l1, if_neg l2]
          by_cases c5 : nI v ≤ U6.1 7 0 0 y
          · rw [if_pos c5, if_pos rfl, if_pos c5]
            exact ⟨sg, B, h2, ⟨vo.2, hh.2, fun q => absurd q (by decide), fun _ => ⟨fun _ => ⟨ok, fun _ => ⟨ct.2, fun _ => trivial, fun _ => ⟨ab.2, fun _ => trivial, fun q => absurd rfl q⟩⟩, fun q => absurd c3 q⟩, fun q => absurd cl q⟩⟩, b100, p400, fun q => absurd q c0, fun _ => ⟨fun _ => ⟨p400, p400, p400, fun _ => ⟨p400, fun _ => ⟨b100, i4, fun q => absurd q l2, fun _ => ⟨i4, y100, fun _ => trivial, fun q => absurd c5 q⟩⟩, fun q => absurd c3'.2 q⟩, fun q => absurd c3'.1 q⟩, fun q => absurd cl q⟩⟩
          · rw [if_neg c5, if_neg (by decide), if_neg c5]
            have h3 := h2.w (Mp.high hi) (nI b) (h2.v.w15 hb)
            obtain ⟨w', hw', ew'⟩ := tal2 w hw s hs
            have rn : Rc sg ((si U6 15 0 0 i (nI b)).1 18 0 0) (v + 1) := by
              show Rc sg (U6.1 18 0 0) (v + 1)
              have rv6 : Rc sg (U6.1 18 0 0) v := by rw [e18]; exact rv
              refine rv6.next hw' (by rw [← ew']; exact c3'.2) (fun t ht q => ?_)
              have := h2.v.votesM i hi b hb t ht (by rw [e20, ew']; exact q)
              rw [e7b, nI_clamp (by omega)] at this
              exact this
            have lim := rn.lim h3.v.used
            have en := j_enter h3 hi (v := v + 1) (by omega) (by omega) rn
            obtain ⟨sg', B', jp, op1, op2⟩ := j_propose en.1 hi
            exact ⟨sg', B', jp, ⟨vo.2, hh.2, fun q => absurd q (by decide), fun _ => ⟨fun _ => ⟨ok, fun _ => ⟨ct.2, fun q => absurd q l1, fun _ => ⟨ab.2, fun q => absurd q (by decide), fun _ => ⟨op1, trivial⟩⟩⟩, fun q => absurd c3 q⟩, fun q => absurd cl q⟩⟩, b100, p400, fun q => absurd q c0, fun _ => ⟨fun _ => ⟨p400, p400, p400, fun _ => ⟨p400, fun _ => ⟨b100, i4, fun q => absurd q l2, fun _ => ⟨i4, y100, fun q => absurd q c5, fun _ => ⟨i4, en.2.1, op2, trivial⟩⟩⟩, fun q => absurd c3'.2 q⟩, fun q => absurd c3'.1 q⟩, fun q => absurd cl q⟩⟩
      · rw [if_neg c3]
        have c3' : ¬ (f_M_bits (nI w) Sz = 2 ∧ f_M_bits (tor (nI w) s) Sz = 3) := fun q => c3 (rr.mpr q)
        have eM : ∀ (X : St), (if f_M_bits (nI w) Sz = 2 then if f_M_bits (tor (nI w) s) Sz = 3 then X else U5 else U5) = U5 := fun X => by
          by_cases c2 : f_M_bits (nI w) Sz = 2
          · rw [if_pos c2, if_neg (fun q => c3' ⟨c2, q⟩)]
          · rw [if_neg c2]
        rw [eM]
        exact ⟨sg, B, h1, ⟨vo.2, hh.2, fun q => absurd q (by decide), fun _ => ⟨fun _ => ⟨ok, fun q => absurd q c3, fun _ => trivial⟩, fun q => absurd cl q⟩⟩, b100, p400, fun q => absurd q c0, fun _ => ⟨fun _ => ⟨p400, p400, p400, fun c2 => ⟨p400, fun q => absurd ⟨c2, q⟩ c3', fun _ => trivial⟩, fun _ => trivial⟩, fun q => absurd cl q⟩⟩
    · rw [if_neg cl, if_neg cl]
      exact ⟨sg, B, h, ⟨vo.2, hh.2, fun q => absurd q (by decide), fun _ => ⟨fun q => absurd q cl, fun _ => trivial⟩⟩, b100, p400, fun q => absurd q c0, fun _ => ⟨fun q => absurd q cl, fun _ => trivial⟩⟩
end
section
variable {sd : Int32} {sg : Nat → Nat} {B T : Nat} {ak : Int32} {S U : St}
theorem ix200 (i n : Nat) : (200 : Int32) * nI i + nI n = nI (200 * i + n) := by
  rw [show (200 : Int32) = nI 200 from rfl, nI_m, nI_add]
theorem j_timeout62 (h : J sd sg B T ak S U) {i s v : Nat} {a4 : Int32} (hi : i < 4) (hs : s < 4) (hv1 : 1 ≤ v) (hv2 : v < 128) (hm : Mk sg (U.1 18 0 0) s v) (rv : Rc sg (U.1 18 0 0) v) : ∃ sg' B' U', J sd sg' B' T ak (f_QC_receiveTimeout_31 i (nI s) (nI v) a4 S) U' ∧ ok_QC_receiveTimeout_31 i (nI s) (nI v) a4 S ∧ (∀ (U0 : St) (t0 : Int32), U = si U0 15 0 0 i t0 → f_M_timeout_62 (nI i) (nI s) (nI v) a4 U0 t0 (nI i) = U' ∧ ok_M_timeout_62 (nI i) (nI s) (nI v) a4 U0 t0 (nI i)) := by
  have hB2 := h.v.hB2
  have i4 : vp_in (nI i) 4 := vp_in_nI hi (by decide)
  have p800 : vp_in (nI (200 * i + v)) 800 := vp_in_nI (by omega) (by decide)
  obtain ⟨w, hw, ew⟩ := h.v.touts i hi v (by omega)
  have ewS : S.1 17 i 1 v = nI w := (h.e (Mp.touts hi hv2)).trans ew
  obtain ⟨r, er, rr, ok⟩ := q_tally (j := 1) (s := s) (show v < 128 from hv2) (by decide) hw hs ewS
  have era := congrArg Prod.fst er
  have erb := congrArg Prod.snd er
  simp only at era erb
  have h1 := h.w (Mp.touts hi hv2) (tor (nI w) s) (by
    have := h.v.w21 hi (v := v) (by omega) hs hm
    rw [ew] at this
    exact this)
  have et : nI w ||| ((1 : Int32) <<< (nI s &&& 31)) = tor (nI w) s := rfl
  obtain ⟨S5, hS5⟩ : ∃ z, z = si S 17 i 1 v (tor (nI w) s) := ⟨_, rfl⟩
  obtain ⟨U5, hU5⟩ : ∃ z, z = si U 21 0 0 (200 * i + v) (tor (nI w) s) := ⟨_, rfl⟩
  have eM : ∀ (U0 : St) (t0 : Int32), U = si U0 15 0 0 i t0 → f_M_timeout_62 (nI i) (nI s) (nI v) a4 U0 t0 (nI i) = if f_M_bits (nI w) Sz = 2 then if f_M_bits (tor (nI w) s) Sz = 3 then if nI v < U5.1 12 0 0 i then U5 else if f_M_leader (nI (v + 1)) (f_M_enter (nI i) (nI (v + 1)) U5) = nI i then f_M_propose (nI i) (f_M_enter (nI i) (nI (v + 1)) U5) else f_M_enter (nI i) (nI (v + 1)) U5 else U5 else U5 := fun U0 t0 e0 => by
    unfold f_M_timeout_62
    repeat rw [lt]
    rw [nI_clamp (by omega : i < 2 ^ 31), ← e0, ix200, nI_clamp (by omega : 200 * i + v < 2 ^ 31), ew, et, si_rd, bits_S (nI w) U, bits_S (tor (nI w) s) (si U 21 0 0 (200 * i + v) (tor (nI w) s)), ← hU5, nI_s]
  have oM : (f_M_bits (nI w) Sz = 2 → f_M_bits (tor (nI w) s) Sz = 3 → ¬ nI v < U5.1 12 0 0 i → ok_M_enter (nI i) (nI (v + 1)) U5 ∧ (f_M_leader (nI (v + 1)) (f_M_enter (nI i) (nI (v + 1)) U5) = nI i → ok_M_propose (nI i) (f_M_enter (nI i) (nI (v + 1)) U5))) → ∀ (U0 : St) (t0 : Int32), U = si U0 15 0 0 i t0 → ok_M_timeout_62 (nI i) (nI s) (nI v) a4 U0 t0 (nI i) := fun o U0 t0 e0 => by
    unfold ok_M_timeout_62
    repeat rw [lt]
    rw [nI_clamp (by omega : i < 2 ^ 31), ← e0, ix200, nI_clamp (by omega : 200 * i + v < 2 ^ 31), ew, et, si_rd, bits_S (nI w) U, bits_S (tor (nI w) s) (si U 21 0 0 (200 * i + v) (tor (nI w) s)), ← hU5, nI_s]
    exact ⟨i4, p800, p800, p800, fun a => ⟨p800, fun b => ⟨i4, fun _ => trivial, fun d => ⟨(o a b d).1, fun e => ⟨(o a b d).2 e, trivial⟩, fun _ => trivial⟩⟩, fun _ => trivial⟩, fun _ => trivial⟩
  rw [← hS5, ← hU5] at h1
  have e18 : U5.1 18 0 0 = U.1 18 0 0 := by rw [hU5]; rfl
  have e21 : U5.1 21 0 0 (200 * i + v) = tor (nI w) s := by rw [hU5, si_rd]
  obtain ⟨x, hx1, hx2, ex, rx⟩ := h1.v.view i hi
  have exS : S5.1 3 i 0 8 = nI x := (h1.e (Mp.view hi)).trans ex
  rw [ex] at eM oM
  have eQ : f_QC_receiveTimeout_31 i (nI s) (nI v) a4 S = if r = 3 then if nI x ≤ nI v then if f_QC_leaderOf ((f_Node_enter i (nI (v + 1)) S5).1 3 i 0 8) (f_Node_enter i (nI (v + 1)) S5) = (f_Node_enter i (nI (v + 1)) S5).1 3 i 0 0 then f_QC_propose i (f_Node_enter i (nI (v + 1)) S5) else f_Node_enter i (nI (v + 1)) S5 else S5 else S5 := by
    unfold f_QC_receiveTimeout_31
    repeat rw [lt]
    rw [era, erb, ← hS5, exS, nI_s]
  have oQ : (r = 3 → nI x ≤ nI v → f_QC_leaderOf ((f_Node_enter i (nI (v + 1)) S5).1 3 i 0 8) (f_Node_enter i (nI (v + 1)) S5) = (f_Node_enter i (nI (v + 1)) S5).1 3 i 0 0 → ok_QC_propose i (f_Node_enter i (nI (v + 1)) S5)) → ok_QC_receiveTimeout_31 i (nI s) (nI v) a4 S := fun o => by
    unfold ok_QC_receiveTimeout_31
    repeat rw [lt]
    rw [era, erb, ← hS5, exS, nI_s]
    exact ⟨ok, fun a => ⟨fun b => ⟨fun d => ⟨o a b d, trivial⟩, fun _ => trivial⟩, fun _ => trivial⟩, fun _ => trivial⟩
  by_cases c3 : r = 3
  · have c3' := rr.mp c3
    by_cases cx : x ≤ v
    · have l1 : nI x ≤ nI v := (nI_leI (by omega) (by omega)).mpr cx
      have l2 : ¬ nI v < nI x := fun q => by
        have := (nI_ltI (by omega) (by omega)).mp q
        omega
      obtain ⟨w', hw', ew'⟩ := tal2 w hw s hs
      have rn : Rc sg (U5.1 18 0 0) (v + 1) := by
        have rv5 : Rc sg (U5.1 18 0 0) v := by rw [e18]; exact rv
        refine rv5.next hw' (by rw [← ew']; exact c3'.2) (fun t ht q => ?_)
        exact h1.v.toutsM i hi v (by omega) t ht (by rw [e21, ew']; exact q)
      have lim := rn.lim h1.v.used
      have en := j_enter h1 hi (v := v + 1) (by omega) (by omega) rn
      have evw : (f_Node_enter i (nI (v + 1)) S5).1 3 i 0 8 = nI (v + 1) := (en.1.e (Mp.view hi)).trans en.2.2.2
      have ld := q_leader (v := v + 1) (by omega) (by omega)
      have eid := en.1.r.id i hi
      rw [evw, eid, (ld _).1] at eQ oQ
      rw [(ld _).2] at eM oM
      rw [if_pos c3, if_pos l1] at eQ
      by_cases cl : nI ((v + 1 - 1) / 4 % 4) = nI i
      · obtain ⟨sg', B', jp, op1, op2⟩ := j_propose en.1 hi
        rw [if_pos cl] at eQ
        rw [eQ]
        refine ⟨sg', B', f_M_propose (nI i) (f_M_enter (nI i) (nI (v + 1)) U5), jp, oQ (fun _ _ _ => op1), fun U0 t0 e0 => ⟨?_, oM (fun _ _ _ => ⟨en.2.1, fun _ => op2⟩) U0 t0 e0⟩⟩
        rw [eM U0 t0 e0, if_pos c3'.1, if_pos c3'.2, if_neg l2, if_pos cl]
      · rw [if_neg cl] at eQ
        rw [eQ]
        refine ⟨sg, B, f_M_enter (nI i) (nI (v + 1)) U5, en.1, oQ (fun _ _ q => absurd q cl), fun U0 t0 e0 => ⟨?_, oM (fun _ _ _ => ⟨en.2.1, fun q => absurd q cl⟩) U0 t0 e0⟩⟩
        rw [eM U0 t0 e0, if_pos c3'.1, if_pos c3'.2, if_neg l2, if_neg cl]
    · have l1 : ¬ nI x ≤ nI v := fun q => cx ((nI_leI (by omega) (by omega)).mp q)
      have l2 : nI v < nI x := (nI_ltI (by omega) (by omega)).mpr (by omega)
      rw [if_pos c3, if_neg l1] at eQ
      rw [eQ]
      refine ⟨sg, B, U5, h1, oQ (fun _ q _ => absurd q l1), fun U0 t0 e0 => ⟨?_, oM (fun _ _ q => absurd l2 q) U0 t0 e0⟩⟩
      rw [eM U0 t0 e0, if_pos c3'.1, if_pos c3'.2, if_pos l2]
  · have c3' : ¬ (f_M_bits (nI w) Sz = 2 ∧ f_M_bits (tor (nI w) s) Sz = 3) := fun q => c3 (rr.mpr q)
    rw [if_neg c3] at eQ
    rw [eQ]
    refine ⟨sg, B, U5, h1, oQ (fun q => absurd q c3), fun U0 t0 e0 => ⟨?_, oM (fun a b _ => absurd ⟨a, b⟩ c3') U0 t0 e0⟩⟩
    rw [eM U0 t0 e0]
    by_cases c2 : f_M_bits (nI w) Sz = 2
    · rw [if_pos c2, if_neg (fun q => c3' ⟨c2, q⟩)]
    · rw [if_neg c2]
theorem j_timeout (h : J sd sg B T ak S U) {i s v b : Nat} (hi : i < 4) (hs : s < 4) (hb : b < B) (hv1 : 1 ≤ v) (hv2 : v < 128) (hm : Mk sg (U.1 18 0 0) s v) (rv : Rc sg (U.1 18 0 0) v) : ∃ sg' B', J sd sg' B' T ak (f_QC_receiveTimeout i (nI s) (nI v) (nI b) S) (f_M_timeout (nI i) (nI s) (nI v) (nI b) U) ∧ ok_QC_receiveTimeout i (nI s) (nI v) (nI b) S ∧ ok_M_timeout (nI i) (nI s) (nI v) (nI b) U := by
  have hB2 := h.v.hB2
  have i4 : vp_in (nI i) 4 := vp_in_nI hi (by decide)
  have b100 : vp_in (nI b) 100 := vp_in_nI (by omega) (by decide)
  have p400 : vp_in (nI (100 * i + b)) 400 := vp_in_nI (by omega) (by decide)
  have hh := q_hasBlock h hi (b := b) (by omega)
  have ce := q_isCert h hb
  obtain ⟨x, hx, ex, jr, orr⟩ := j_raise h hi hb
  obtain ⟨y, hy, ey⟩ := h.v.high i hi
  have y100 : vp_in (nI y) 100 := vp_in_nI (by omega) (by decide)
  obtain ⟨sg1, B1, U1, j1, o1, m1⟩ := j_timeout62 (a4 := nI b) h hi hs hv1 hv2 hm rv
  have m1' := m1 U (U.1 15 0 0 i) (si_same U 15 0 0 i).symm
  have e56 : f_M_timeout_56 (nI i) (nI s) (nI v) (nI b) U (nI i) = U1 := by
    unfold f_M_timeout_56
    rw [nI_clamp (by omega : i < 2 ^ 31)]
    exact m1'.1
  have o56 : ok_M_timeout_56 (nI i) (nI s) (nI v) (nI b) U (nI i) := by
    unfold ok_M_timeout_56
    rw [nI_clamp (by omega : i < 2 ^ 31)]
    exact ⟨i4, m1'.2⟩
  obtain ⟨sg2, B2, U2, j2, o2, m2⟩ := j_timeout62 (a4 := nI b) jr hi hs hv1 hv2 hm rv
  have m2' := m2 U (nI x) rfl
  unfold f_QC_receiveTimeout f_M_timeout ok_QC_receiveTimeout ok_M_timeout
  repeat rw [lt]
  rw [hh.1, ce.1, ix100, nI_clamp (by omega : 100 * i + b < 2 ^ 31), nI_clamp (by omega : b < 2 ^ 31), nI_clamp (by omega : i < 2 ^ 31), e56]
  by_cases c0 : U.1 19 0 0 (100 * i + b) = 0
  · rw [if_pos c0, if_pos rfl, if_pos c0]
    exact ⟨sg1, B1, j1, ⟨hh.2, fun _ => o1, fun q => absurd rfl q⟩, p400, fun _ => o56, fun q => absurd c0 q⟩
  · rw [if_neg c0, if_neg (by decide), if_neg c0]
    by_cases c1 : U.1 10 0 0 b = 0
    · rw [if_pos c1, if_pos rfl, if_pos c1]
      exact ⟨sg1, B1, j1, ⟨hh.2, fun q => absurd q (by decide), fun _ => ⟨ce.2, fun _ => o1, fun q => absurd rfl q⟩⟩, p400, fun q => absurd q c0, fun _ => ⟨b100, fun _ => o56, fun q => absurd c1 q⟩⟩
    · rw [if_neg c1, if_neg (by decide), if_neg c1]
      have y' : vp_in (U.1 15 0 0 i) 100 := by rw [ey]; exact y100
      by_cases c2 : U.1 7 0 0 b ≤ U.1 7 0 0 (U.1 15 0 0 i).toNatClampNeg
      · rw [if_pos c2] at ex
        have eU : si U 15 0 0 i (nI x) = U := by
          rw [← ex]
          exact si_same U 15 0 0 i
        have e2 : U2 = U1 := m2'.1.symm.trans (by rw [← ex]; exact m1'.1)
        rw [if_pos c2, ← e2]
        exact ⟨sg2, B2, j2, ⟨hh.2, fun q => absurd q (by decide), fun _ => ⟨ce.2, fun q => absurd q (by decide), fun _ => ⟨orr, o2⟩⟩⟩, p400, fun q => absurd q c0, fun _ => ⟨b100, fun q => absurd q c1, fun _ => ⟨b100, i4, y', fun _ => o56, fun q => absurd c2 q⟩⟩⟩
      · rw [if_neg c2] at ex
        rw [← ex] at m2'
        rw [if_neg c2, m2'.1]
        exact ⟨sg2, B2, j2, ⟨hh.2, fun q => absurd q (by decide), fun _ => ⟨ce.2, fun q => absurd q (by decide), fun _ => ⟨orr, o2⟩⟩⟩, p400, fun q => absurd q c0, fun _ => ⟨b100, fun q => absurd q c1, fun _ => ⟨b100, i4, y', fun q => absurd q c2, fun _ => m2'.2⟩⟩⟩
theorem j_comes (h : J sd sg B T ak S U) {i s b : Nat} (hi : i < 4) (hs : s < 4) (hb : b < B) (hb1 : 1 ≤ b) : J sd sg B T ak (f_QC_receiveBlock i (nI s) (nI b) S) (f_M_comes (nI i) (nI s) (nI b) U) ∧ ok_QC_receiveBlock i (nI s) (nI b) S ∧ ok_M_comes (nI i) (nI s) (nI b) U := by
  have hB2 := h.v.hB2
  have b100 : vp_in (nI b) 100 := vp_in_nI (by omega) (by decide)
  have p400 : vp_in (nI (100 * i + b)) 400 := vp_in_nI (by omega) (by decide)
  obtain ⟨p, hp, ep⟩ := h.v.par b (by omega) hb
  have q400 : vp_in (nI (100 * i + p)) 400 := vp_in_nI (by omega) (by decide)
  have pp := q_parentOf h hb
  rw [ep] at pp
  have hh := q_hasBlock h hi (b := p) (by omega)
  have n0 : ¬ nI b = 0 := nI_ne0 (by omega) (by omega)
  have k := j_keep h hi hb
  unfold f_QC_receiveBlock f_M_comes ok_QC_receiveBlock ok_M_comes
  repeat rw [lt]
  rw [pp.1, hh.1, if_neg n0, nI_clamp (by omega : b < 2 ^ 31), ep, ix100, nI_clamp (by omega : 100 * i + p < 2 ^ 31)]
  by_cases c0 : U.1 19 0 0 (100 * i + p) = 0
  · have p1 : 1 ≤ p := by
      rcases Nat.eq_zero_or_pos p with z | z
      · subst z
        have := h.v.has0 i hi
        rw [Nat.add_zero] at c0
        rw [c0] at this
        exact absurd this (by decide)
      · exact z
    have a := j_ask h hi hs (b := p) (k := 4) (by omega) p1 (Or.inl rfl)
    rw [if_pos c0, if_pos rfl, if_pos c0]
    exact ⟨a.1, ⟨pp.2, hh.2, fun _ => ⟨a.2.1, trivial⟩, fun q => absurd rfl q⟩, fun q => absurd q n0, fun _ => ⟨b100, q400, fun _ => ⟨b100, a.2.2, trivial⟩, fun q => absurd c0 q⟩⟩
  · rw [if_neg c0, if_neg (by decide), if_neg c0]
    unfold f_M_comes_23 ok_M_comes_23
    repeat rw [lt]
    rw [ix100, nI_clamp (by omega : 100 * i + b < 2 ^ 31)]
    exact ⟨k.1, ⟨pp.2, hh.2, fun q => absurd q (by decide), fun _ => ⟨k.2, trivial⟩⟩, fun q => absurd q n0, fun _ => ⟨b100, q400, fun q => absurd q c0, fun _ => ⟨p400, trivial⟩⟩⟩
theorem j_proposal (h : J sd sg B T ak S U) {i s b : Nat} (hi : i < 4) (hs : s < 4) (hb : b < B) (hb1 : 1 ≤ b) : ∃ sg', J sd sg' B T ak (f_QC_receiveProposal i (nI s) (nI b) S) (f_M_proposal (nI i) (nI s) (nI b) U) ∧ ok_QC_receiveProposal i (nI s) (nI b) S ∧ ok_M_proposal (nI i) (nI s) (nI b) U := by
  have hB2 := h.v.hB2
  have i4 : vp_in (nI i) 4 := vp_in_nI hi (by decide)
  have b100 : vp_in (nI b) 100 := vp_in_nI (by omega) (by decide)
  have p400 : vp_in (nI (100 * i + b)) 400 := vp_in_nI (by omega) (by decide)
  obtain ⟨p, hp, ep⟩ := h.v.par b (by omega) hb
  have q400 : vp_in (nI (100 * i + p)) 400 := vp_in_nI (by omega) (by decide)
  have pv100 : vp_in (nI p) 100 := vp_in_nI (by omega) (by decide)
  have hpB : p < B := by omega
  have pp := q_parentOf h hb
  rw [ep] at pp
  have hh := q_hasBlock h hi (b := p) (by omega)
  unfold f_QC_receiveProposal f_M_proposal ok_QC_receiveProposal ok_M_proposal
  repeat rw [lt]
  rw [pp.1, hh.1, nI_clamp (by omega : b < 2 ^ 31), ep, ix100, ix100, nI_clamp (by omega : 100 * i + p < 2 ^ 31), nI_clamp (by omega : 100 * i + b < 2 ^ 31), nI_clamp (by omega : i < 2 ^ 31), nI_clamp (by omega : p < 2 ^ 31)]
  by_cases c0 : U.1 19 0 0 (100 * i + p) = 0
  · have p1 : 1 ≤ p := by
      rcases Nat.eq_zero_or_pos p with z | z
      · subst z
        have := h.v.has0 i hi
        rw [Nat.add_zero] at c0
        rw [c0] at this
        exact absurd this (by decide)
      · exact z
    have a := j_ask h hi hs (b := p) (k := 4) (by omega) p1 (Or.inl rfl)
    rw [if_pos c0, if_pos rfl, if_pos c0]
    exact ⟨sg, a.1, ⟨pp.2, hh.2, fun _ => ⟨a.2.1, trivial⟩, fun q => absurd rfl q⟩, b100, q400, fun _ => ⟨a.2.2, trivial⟩, fun q => absurd c0 q⟩
  · rw [if_neg c0, if_neg (by decide), if_neg c0]
    have k := j_keep h hi hb
    have t := j_takes k.1 hi hpB
    generalize f_Store_keepBlock i (nI b) S = S8 at k t ⊢
    generalize si U 19 0 0 (100 * i + b) 1 = U8 at k t ⊢
    have h2 := t.1
    have tok1 := t.2.1
    have tok2 := t.2.2
    clear t
    generalize f_QC_takeAsCertified i (nI p) S8 = S11 at h2 ⊢
    generalize f_M_takes (nI i) (nI p) U8 = U9 at h2 ⊢
    obtain ⟨v, hv1, hv2, ev, rv⟩ := h2.v.vw b (by omega) hb
    obtain ⟨l, hl, el⟩ := h2.v.locked i hi
    have l100 : vp_in (nI l) 100 := vp_in_nI (by omega) (by decide)
    have elS : S11.1 4 i 0 7 = nI l := (h2.e (Mp.locked hi)).trans el
    obtain ⟨w, hw, ew, _⟩ := h2.v.voted i hi
    have ewS : S11.1 4 i 0 6 = nI w := (h2.e (Mp.voted hi)).trans ew
    obtain ⟨x, hx1, hx2, ex, _⟩ := h2.v.view i hi
    have exS : S11.1 3 i 0 8 = nI x := (h2.e (Mp.view hi)).trans ex
    have vo := q_viewOf h2 hb
    rw [ev] at vo
    obtain ⟨rb, hrb, eb1, eb2, ob1, ob2⟩ := j_below h2 hb hl
    have ab := q_isAbove h2 hpB hl
    obtain ⟨sg', jv, ov1, ov2, ov3⟩ := j_voteFor h2 hi hb hb1 hpB ev hv1 hv2 rv (nI s)
    rw [el, eb2, ev, nI_clamp (by omega : l < 2 ^ 31)]
    -- what the two say of safety
    have eMV : f_QC_mayVoteFor i (nI b) (nI p) S11 = if nI v ≤ nI w then 0 else if nI x ≤ nI v then if rb = 0 then (if U9.1 7 0 0 p ≤ U9.1 7 0 0 l then 0 else 1) else 1 else 0 := by
      unfold f_QC_mayVoteFor
      repeat rw [lt]
      rw [vo.1, ewS, exS, elS, eb1, ab.1]
      by_cases z1 : U9.1 7 0 0 p ≤ U9.1 7 0 0 l
      · rw [if_pos z1, if_pos rfl]
      · rw [if_neg z1, if_neg (show ¬ (1 : Int32) = 0 by decide)]
    have oMV : ok_QC_mayVoteFor i (nI b) (nI p) S11 := by
      unfold ok_QC_mayVoteFor
      repeat rw [lt]
      rw [elS]
      exact ⟨vo.2, fun _ => trivial, fun _ => ⟨fun _ => ⟨ob1, fun _ => ⟨ab.2, trivial⟩, fun _ => trivial⟩, fun _ => trivial⟩⟩
    have e101 : ∀ t0 : Int32, f_M_proposal_101 (nI i) (nI s) (nI b) U9 (nI p) (nI v) t0 = if nI v ≤ nI w then U9 else if nI v < nI x then U9 else if t0 = 0 then U9 else if U9.1 7 0 0 p = nI v - 1 then f_M_proposal_160 (nI i) (nI s) (nI b) U9 (nI v) 6 (nI i) else f_M_proposal_160 (nI i) (nI s) (nI b) U9 (nI v) (U9.1 14 0 0 i) (nI i) := fun t0 => by
      unfold f_M_proposal_101
      rw [nI_clamp (by omega : i < 2 ^ 31), nI_clamp (by omega : p < 2 ^ 31), ew, ex]
    have o101 : ∀ t0 : Int32, ok_M_proposal_101 (nI i) (nI s) (nI b) U9 (nI p) (nI v) t0 := fun t0 => by
      unfold ok_M_proposal_101
      rw [nI_clamp (by omega : i < 2 ^ 31), nI_clamp (by omega : p < 2 ^ 31), ew, ex]
      exact ⟨i4, fun _ => trivial, fun _ => ⟨i4, fun _ => trivial, fun _ => ⟨fun _ => trivial, fun _ => ⟨pv100, ov2, fun q => ⟨i4, ov3 q⟩⟩⟩⟩⟩
    have okM : vp_in (nI b) 100 ∧ vp_in (nI (100 * i + p)) 400 ∧ (U.1 19 0 0 (100 * i + p) = 0 → ok_M_send (nI i) (nI s) 4 (nI p) 0 U ∧ True) ∧ (¬ U.1 19 0 0 (100 * i + p) = 0 → vp_in (nI (100 * i + b)) 400 ∧ ok_M_takes (nI i) (nI p) U8 ∧ vp_in (nI b) 100 ∧ vp_in (nI i) 4 ∧ ok_M_below (nI l) (nI b) U9 ∧ (rb = 0 → vp_in (nI p) 100 ∧ vp_in (nI i) 4 ∧ vp_in (nI l) 100 ∧ (U9.1 7 0 0 p ≤ U9.1 7 0 0 l → ok_M_proposal_101 (nI i) (nI s) (nI b) U9 (nI p) (nI v) 0) ∧ (¬ U9.1 7 0 0 p ≤ U9.1 7 0 0 l → ok_M_proposal_96 (nI i) (nI s) (nI b) U9 (nI p) (nI v))) ∧ (¬ rb = 0 → ok_M_proposal_96 (nI i) (nI s) (nI b) U9 (nI p) (nI v))) :=
      ⟨b100, q400, fun q => absurd q c0, fun _ => ⟨p400, tok2, b100, i4, ob2, fun _ => ⟨pv100, i4, l100, fun _ => o101 0, fun _ => o101 1⟩, fun _ => o101 1⟩⟩
    have eall : (if rb = 0 then if U9.1 7 0 0 p ≤ U9.1 7 0 0 l then f_M_proposal_101 (nI i) (nI s) (nI b) U9 (nI p) (nI v) 0 else f_M_proposal_96 (nI i) (nI s) (nI b) U9 (nI p) (nI v) else f_M_proposal_96 (nI i) (nI s) (nI b) U9 (nI p) (nI v)) = f_M_proposal_101 (nI i) (nI s) (nI b) U9 (nI p) (nI v) (if rb = 0 then (if U9.1 7 0 0 p ≤ U9.1 7 0 0 l then 0 else 1) else 1) := by
      unfold f_M_proposal_96
      by_cases z1 : rb = 0
      · rw [if_pos z1, if_pos z1]
        by_cases z2 : U9.1 7 0 0 p ≤ U9.1 7 0 0 l
        · rw [if_pos z2, if_pos z2]
        · rw [if_neg z2, if_neg z2]
      · rw [if_neg z1, if_neg z1]
    rw [eMV, eall, e101]
    generalize (if rb = 0 then (if U9.1 7 0 0 p ≤ U9.1 7 0 0 l then (0 : Int32) else 1) else 1) = t0
    by_cases c1 : nI v ≤ nI w
    · rw [if_pos c1, if_pos rfl, if_pos c1]
      exact ⟨sg, h2, ⟨pp.2, hh.2, fun q => absurd q (by decide), fun _ => ⟨k.2, tok1, oMV, fun _ => trivial, fun q => absurd rfl q⟩⟩, okM⟩
    · rw [if_neg c1, if_neg c1]
      by_cases c2 : x ≤ v
      · have l1 : nI x ≤ nI v := (nI_leI (by omega) (by omega)).mpr c2
        have l2 : ¬ nI v < nI x := fun q => by
          have := (nI_ltI (by omega) (by omega)).mp q
          omega
        rw [if_pos l1, if_neg l2]
        by_cases ct : t0 = 0
        · rw [if_pos ct, if_pos ct]
          exact ⟨sg, h2, ⟨pp.2, hh.2, fun q => absurd q (by decide), fun _ => ⟨k.2, tok1, oMV, fun _ => trivial, fun q => absurd ct q⟩⟩, okM⟩
        · rw [if_neg ct, if_neg ct]
          exact ⟨sg', jv, ⟨pp.2, hh.2, fun q => absurd q (by decide), fun _ => ⟨k.2, tok1, oMV, fun q => absurd q ct, fun _ => ⟨ov1, trivial⟩⟩⟩, okM⟩
      · have l1 : ¬ nI x ≤ nI v := fun q => c2 ((nI_leI (by omega) (by omega)).mp q)
        have l2 : nI v < nI x := (nI_ltI (by omega) (by omega)).mpr (by omega)
        rw [if_neg l1, if_pos rfl, if_pos l2]
        exact ⟨sg, h2, ⟨pp.2, hh.2, fun q => absurd q (by decide), fun _ => ⟨k.2, tok1, oMV, fun _ => trivial, fun q => absurd rfl q⟩⟩, okM⟩
end
/-! A message comes to a node. -/
theorem nd_or (a : Int32) : (∀ S, f_QC_isNode a S = 0 ∧ f_M_isNode a S = 0) ∨ ∃ i, i < 4 ∧ a = nI i := by
  by_cases h : a < 0
  · refine Or.inl (fun S => ?_)
    unfold f_QC_isNode f_M_isNode
    rw [if_pos h, if_pos h]
    exact ⟨rfl, rfl⟩
  · obtain ⟨j, hj, rfl⟩ := nI_of h
    by_cases c : j < 4
    · exact Or.inr ⟨j, c, rfl⟩
    · refine Or.inl (fun S => ?_)
      unfold f_QC_isNode f_M_isNode
      rw [if_neg h, if_neg h, if_pos (show (4 : Int32) ≤ nI j from (nI_leI (a := 4) (b := j) (by omega) hj).mpr (by omega)), if_pos (show (3 : Int32) < nI j from (nI_ltI (a := 3) (b := j) (by omega) hj).mpr (by omega))]
      exact ⟨rfl, rfl⟩
theorem m_isNode {i : Nat} (hi : i < 4) (S : St) : f_M_isNode (nI i) S = 1 := by
  unfold f_M_isNode
  rw [if_neg (nI_pos (by omega)), if_neg (fun q => by
    have := (nI_ltI (a := 3) (b := i) (by omega) (by omega)).mp q
    omega)]
/-- the class, behind the drop -/
def dQ (i : Nat) (S : St) : Nat × Int32 × St :=
  if S.1 3 i 0 7 = 0 then (0, S.1 14 4 1 1, S) else if f_QC_isHeard 4 1 S = 0 then (0, S.1 14 4 1 1, S) else if S.1 14 4 1 1 = (1 : Int32) then (0, (f_QC_receiveProposal i (S.1 14 4 1 2) (S.1 14 4 1 3) S).1 14 4 1 1, f_QC_receiveProposal i (S.1 14 4 1 2) (S.1 14 4 1 3) S) else if S.1 14 4 1 1 = (2 : Int32) then (0, (f_QC_receiveVote i (S.1 14 4 1 2) (S.1 14 4 1 3) S).1 14 4 1 1, f_QC_receiveVote i (S.1 14 4 1 2) (S.1 14 4 1 3) S) else if S.1 14 4 1 1 = (3 : Int32) then (0, (f_QC_receiveTimeout i (S.1 14 4 1 2) (S.1 14 4 1 4) (S.1 14 4 1 3) S).1 14 4 1 1, f_QC_receiveTimeout i (S.1 14 4 1 2) (S.1 14 4 1 4) (S.1 14 4 1 3) S) else if S.1 14 4 1 1 = (4 : Int32) then (0, (f_QC_receiveAsk i (S.1 14 4 1 2) (S.1 14 4 1 3) S).1 14 4 1 1, f_QC_receiveAsk i (S.1 14 4 1 2) (S.1 14 4 1 3) S) else (0, (f_QC_receiveBlock i (S.1 14 4 1 2) (S.1 14 4 1 3) S).1 14 4 1 1, f_QC_receiveBlock i (S.1 14 4 1 2) (S.1 14 4 1 3) S)
def dQo (i : Nat) (S : St) : Prop :=
  (S.1 3 i 0 7 = 0 → True) ∧ (¬ S.1 3 i 0 7 = 0 → ok_QC_isHeard 4 1 S ∧ (f_QC_isHeard 4 1 S = 0 → True) ∧ (¬ f_QC_isHeard 4 1 S = 0 → (S.1 14 4 1 1 = (1 : Int32) → ok_QC_receiveProposal i (S.1 14 4 1 2) (S.1 14 4 1 3) S ∧ True) ∧ (¬ S.1 14 4 1 1 = (1 : Int32) → (S.1 14 4 1 1 = (2 : Int32) → ok_QC_receiveVote i (S.1 14 4 1 2) (S.1 14 4 1 3) S ∧ True) ∧ (¬ S.1 14 4 1 1 = (2 : Int32) → (S.1 14 4 1 1 = (3 : Int32) → ok_QC_receiveTimeout i (S.1 14 4 1 2) (S.1 14 4 1 4) (S.1 14 4 1 3) S ∧ True) ∧ (¬ S.1 14 4 1 1 = (3 : Int32) → (S.1 14 4 1 1 = (4 : Int32) → ok_QC_receiveAsk i (S.1 14 4 1 2) (S.1 14 4 1 3) S ∧ True) ∧ (¬ S.1 14 4 1 1 = (4 : Int32) → ok_QC_receiveBlock i (S.1 14 4 1 2) (S.1 14 4 1 3) S ∧ True))))))
theorem q_deliver {i : Nat} (hi : i < 4) {S : St} (h0 : ¬ S.1 12 i 0 1 = 0) (hr : S.2.2 13 i 0 0 < 16) : f_QC_deliver (nI i) S = dQ i (f_Inbox_dropFirst i (f_Message_copyFrom 4 1 i (S.2.2 13 i 0 0) S)) ∧ (ok_Inbox_dropFirst i (f_Message_copyFrom 4 1 i (S.2.2 13 i 0 0) S) → dQo i (f_Inbox_dropFirst i (f_Message_copyFrom 4 1 i (S.2.2 13 i 0 0) S)) → ok_QC_deliver (nI i) S) := by
  unfold f_QC_deliver ok_QC_deliver f_Inbox_first ok_Inbox_first
  constructor
  · rw [lt, q_isNode hi, if_neg (by decide), nI_clamp (by omega), if_neg h0, lt, lt, lt]
    generalize f_Inbox_dropFirst i (f_Message_copyFrom 4 1 i (S.2.2 13 i 0 0) S) = W
    unfold dQ
    rw [lt]
    repeat rw [lt]
  · intro o1 o2
    rw [lt, q_isNode hi, nI_clamp (by omega), lt, lt, lt]
    refine ⟨fun q => absurd q (by decide), fun _ => ⟨vp_in_nI hi (by decide), fun q => absurd q h0, fun _ => ⟨⟨hr, trivial⟩, hr, o1, ?_⟩⟩⟩
    generalize f_Inbox_dropFirst i (f_Message_copyFrom 4 1 i (S.2.2 13 i 0 0) S) = W at o2 ⊢
    unfold dQo at o2
    rw [lt]
    exact o2
/-- the reference, behind the landing -/
def dM (i : Nat) (U : St) (l3 l4 l5 l6 : Int32) : Int32 × St :=
  if U.1 11 0 0 i = 0 then (l3, U) else if l3 = (4 : Int32) then (if U.1 19 0 0 (((100 : Int32) * nI i) + l5).toNatClampNeg = 0 then (l3, U) else (l3, f_M_send (nI i) l4 5 l5 0 U)) else if l3 = (5 : Int32) then (l3, f_M_comes (nI i) l4 l5 U) else if (f_M_good l4 (f_M_meant l3 l6 l5 U).1 (f_M_meant l3 l6 l5 U).2).1 = 0 then (l3, (f_M_good l4 (f_M_meant l3 l6 l5 U).1 (f_M_meant l3 l6 l5 U).2).2) else if l3 = (1 : Int32) then (if f_M_leader ((f_M_good l4 (f_M_meant l3 l6 l5 U).1 (f_M_meant l3 l6 l5 U).2).2.1 7 0 0 l5.toNatClampNeg) (f_M_good l4 (f_M_meant l3 l6 l5 U).1 (f_M_meant l3 l6 l5 U).2).2 = l4 then (l3, f_M_proposal (nI i) l4 l5 (f_M_good l4 (f_M_meant l3 l6 l5 U).1 (f_M_meant l3 l6 l5 U).2).2) else f_M_deliver_236 (nI i) (f_M_good l4 (f_M_meant l3 l6 l5 U).1 (f_M_meant l3 l6 l5 U).2).2 l3 l4 l5 l6) else f_M_deliver_236 (nI i) (f_M_good l4 (f_M_meant l3 l6 l5 U).1 (f_M_meant l3 l6 l5 U).2).2 l3 l4 l5 l6
def dMo (i : Nat) (U : St) (l3 l4 l5 l6 : Int32) : Prop :=
  vp_in (nI i) 4 ∧ (U.1 11 0 0 i = 0 → True) ∧ (¬ U.1 11 0 0 i = 0 → (l3 = (4 : Int32) → vp_in (((100 : Int32) * nI i) + l5) 400 ∧ (U.1 19 0 0 (((100 : Int32) * nI i) + l5).toNatClampNeg = 0 → True) ∧ (¬ U.1 19 0 0 (((100 : Int32) * nI i) + l5).toNatClampNeg = 0 → ok_M_send (nI i) l4 5 l5 0 U ∧ True)) ∧ (¬ l3 = (4 : Int32) → (l3 = (5 : Int32) → ok_M_comes (nI i) l4 l5 U ∧ True) ∧ (¬ l3 = (5 : Int32) → ok_M_good l4 (f_M_meant l3 l6 l5 U).1 (f_M_meant l3 l6 l5 U).2 ∧ ((f_M_good l4 (f_M_meant l3 l6 l5 U).1 (f_M_meant l3 l6 l5 U).2).1 = 0 → True) ∧ (¬ (f_M_good l4 (f_M_meant l3 l6 l5 U).1 (f_M_meant l3 l6 l5 U).2).1 = 0 → (l3 = (1 : Int32) → vp_in l5 100 ∧ (f_M_leader ((f_M_good l4 (f_M_meant l3 l6 l5 U).1 (f_M_meant l3 l6 l5 U).2).2.1 7 0 0 l5.toNatClampNeg) (f_M_good l4 (f_M_meant l3 l6 l5 U).1 (f_M_meant l3 l6 l5 U).2).2 = l4 → ok_M_proposal (nI i) l4 l5 (f_M_good l4 (f_M_meant l3 l6 l5 U).1 (f_M_meant l3 l6 l5 U).2).2 ∧ True) ∧ (¬ f_M_leader ((f_M_good l4 (f_M_meant l3 l6 l5 U).1 (f_M_meant l3 l6 l5 U).2).2.1 7 0 0 l5.toNatClampNeg) (f_M_good l4 (f_M_meant l3 l6 l5 U).1 (f_M_meant l3 l6 l5 U).2).2 = l4 → ok_M_deliver_236 (nI i) (f_M_good l4 (f_M_meant l3 l6 l5 U).1 (f_M_meant l3 l6 l5 U).2).2 l3 l4 l5 l6)) ∧ (¬ l3 = (1 : Int32) → ok_M_deliver_236 (nI i) (f_M_good l4 (f_M_meant l3 l6 l5 U).1 (f_M_meant l3 l6 l5 U).2).2 l3 l4 l5 l6)))))
theorem m_dl {i : Nat} (hi : i < 4) (l3 l4 l5 l6 k40 : Int32) (U0 : St) (n : Nat) : ∀ (l : Nat) (V : St), l ≤ 11 → 11 - l < n → Scr U0 V → V.1 1 0 0 40 = k40 → (∀ x, x < l → V.2.1 35 0 0 x = U0.2.1 34 0 0 (11 * (16 * i) + x)) → ∃ V', f_M_deliver_87 (nI i) n V (nI (16 * i)) l3 l4 l5 l6 (nI l) = dM i (f_M_land (nI i) V') l3 l4 l5 l6 ∧ Scr U0 V' ∧ V'.1 1 0 0 40 = k40 ∧ (∀ x, x < 11 → V'.2.1 35 0 0 x = U0.2.1 34 0 0 (11 * (16 * i) + x)) ∧ (ok_M_land (nI i) V' → dMo i (f_M_land (nI i) V') l3 l4 l5 l6 → ok_M_deliver_87 (nI i) n V (nI (16 * i)) l3 l4 l5 l6 (nI l)) := by
  induction n with
  | zero => exact fun l V _ h => absurd h (Nat.not_lt_zero _)
  | succ n ih =>
    intro l V hl hn hV h40 hg
    rw [f_M_deliver_87, ok_M_deliver_87]
    by_cases h : l = 11
    · subst h
      rw [if_pos (by decide), lt, lt]
      refine ⟨V, ?_, hV, h40, hg, fun o1 o2 => ⟨fun _ => ⟨o1, ?_⟩, fun q => absurd (by decide) q⟩⟩
      · generalize f_M_land (nI i) V = W
        unfold dM
        rw [nI_clamp (by omega)]
        repeat rw [lt]
      · generalize f_M_land (nI i) V = W at o2 ⊢
        unfold dMo at o2
        rw [nI_clamp (by omega)]
        repeat rw [lt]
        exact o2
    · have c : ¬ (11 : Int32) ≤ nI l := fun q => by
        have := (nI_leI (a := 11) (b := l) (by omega) (by omega)).mp q
        omega
      rw [if_neg c, lt, lt, ix11, nI_clamp (by omega), nI_clamp (by omega), nI_s]
      obtain ⟨V', e, a, b, d, o⟩ := ih (l + 1) (sl V 35 0 0 l (V.2.1 34 0 0 (11 * (16 * i) + l))) (by omega) (by omega) (hV.trans (Scr.sgl _ _ _)) h40 (fun x hx => by
        rw [sl_l]
        by_cases hc : x = l
        · rw [if_pos ⟨rfl, rfl, rfl, hc⟩, hc, hV.l 34 _ (fun q => by omega) (by decide)]
        · rw [if_neg (fun q => hc q.2.2.2)]
          exact hg x (by omega))
      exact ⟨V', e, a, b, d, fun o1 o2 => ⟨fun q => absurd q c, fun _ => ⟨vp_in_nI (by omega) (by decide), vp_in_nI (by omega) (by decide), o o1 o2⟩⟩⟩
section
variable {sd : Int32} {sg : Nat → Nat} {B T : Nat} {ak : Int32} {S U : St}
theorem MsgOk.us {us' : Nat → Int32} {us vw : Nat → Int32} {kd se bk vi ke : Int32} (h : MsgOk sg B us vw kd se bk vi ke) (e : us' = us) : MsgOk sg B us' vw kd se bk vi ke := by
  rw [e]
  exact h
/-- what a node does with what has come: both sides -/
theorem j_act (h : J sd sg B T ak S U) {i k s b v : Nat} {ke : Int32} (hi : i < 4) (e1 : S.1 14 4 1 1 = nI k) (e2 : S.1 14 4 1 2 = nI s) (e3 : S.1 14 4 1 3 = nI b) (e4 : S.1 14 4 1 4 = nI v) (e5 : S.1 14 4 1 5 = ke) (hk1 : 1 ≤ k) (hk5 : k ≤ 5) (hs : s < 4) (hb : b < B) (hv : v < 128) (ms : MsgOk sg B (U.1 18 0 0) (U.1 7 0 0) (nI k) (nI s) (nI b) (nI v) ke) (e40 : U.1 1 0 0 40 = ke) (es : nI k ≤ 3 → ∀ l, l < 11 → S.2.1 15 4 1 l = U.2.1 35 0 0 l) : ∃ S' U', dQ i S = (0, nI k, S') ∧ dM i U (nI k) (nI s) (nI b) (nI v) = (nI k, U') ∧ JB sd S' U' ∧ U'.1 1 0 0 1 = 0 ∧ dQo i S ∧ dMo i U (nI k) (nI s) (nI b) (nI v) := by
  have hB2 := h.v.hB2
  have i4 : vp_in (nI i) 4 := vp_in_nI hi (by decide)
  have eak : ak = nI k := h.a.symm.trans e1
  subst eak
  obtain ⟨b', hb', eb', nb'⟩ := ms.block
  have ebb : b' = b := (nI_eq (by omega) (by omega)).mp eb'.symm
  subst ebb
  unfold dQ dM dQo dMo
  rw [e1, e2, e3, e4, h.e (Mp.up hi)]
  by_cases cu : U.1 11 0 0 i = 0
  · rw [if_pos cu, if_pos cu]
    exact ⟨S, U, rfl, rfl, h.b, h.t, ⟨fun _ => trivial, fun q => absurd cu q⟩, i4, fun _ => trivial, fun q => absurd cu q⟩
  · rw [if_neg cu, if_neg cu]
    by_cases c4 : k = 4
    · subst c4
      have b1 : 1 ≤ b' := nb' (by decide)
      have p400 : vp_in (nI (100 * i + b')) 400 := vp_in_nI (by omega) (by decide)
      have he : f_QC_isHeard 4 1 S = 1 ∧ ok_QC_isHeard 4 1 S := by
        unfold f_QC_isHeard ok_QC_isHeard
        rw [e1, if_pos (by decide)]
        exact ⟨rfl, fun _ => trivial, fun q => absurd (by decide) q⟩
      have hh := q_hasBlock h hi (b := b') (by omega)
      have as := j_ask h hi hs (k := 5) hb b1 (Or.inr rfl)
      have ra : f_QC_receiveAsk i (nI s) (nI b') S = if U.1 19 0 0 (100 * i + b') = 0 then S else f_QC_sendUnsigned i 5 (nI b') (nI s) S := by
        unfold f_QC_receiveAsk
        repeat rw [lt]
        rw [hh.1]
        by_cases z : U.1 19 0 0 (100 * i + b') = 0
        · rw [if_pos z, if_pos rfl, if_pos z]
        · rw [if_neg z, if_neg (by decide), if_neg z]
      have oa : ok_QC_receiveAsk i (nI s) (nI b') S := by
        unfold ok_QC_receiveAsk
        repeat rw [lt]
        rw [hh.1]
        exact ⟨hh.2, fun _ => trivial, fun _ => ⟨as.2.1, trivial⟩⟩
      rw [he.1, if_neg (by decide), if_neg (by decide), if_neg (by decide), if_neg (by decide), if_pos (by decide), if_pos (by decide), ix100, nI_clamp (by omega), ra]
      have okQ : (U.1 11 0 0 i = 0 → True) ∧ (¬ U.1 11 0 0 i = 0 → ok_QC_isHeard 4 1 S ∧ ((1 : Int32) = 0 → True) ∧ (¬ (1 : Int32) = 0 → (nI 4 = (1 : Int32) → ok_QC_receiveProposal i (nI s) (nI b') S ∧ True) ∧ (¬ nI 4 = (1 : Int32) → (nI 4 = (2 : Int32) → ok_QC_receiveVote i (nI s) (nI b') S ∧ True) ∧ (¬ nI 4 = (2 : Int32) → (nI 4 = (3 : Int32) → ok_QC_receiveTimeout i (nI s) (nI v) (nI b') S ∧ True) ∧ (¬ nI 4 = (3 : Int32) → (nI 4 = (4 : Int32) → ok_QC_receiveAsk i (nI s) (nI b') S ∧ True) ∧ (¬ nI 4 = (4 : Int32) → ok_QC_receiveBlock i (nI s) (nI b') S ∧ True)))))) :=
        ⟨fun q => absurd q cu, fun _ => ⟨he.2, fun q => absurd q (by decide), fun _ => ⟨fun q => absurd q (by decide), fun _ => ⟨fun q => absurd q (by decide), fun _ => ⟨fun q => absurd q (by decide), fun _ => ⟨fun _ => ⟨oa, trivial⟩, fun q => absurd (by decide) q⟩⟩⟩⟩⟩⟩
      by_cases z : U.1 19 0 0 (100 * i + b') = 0
      · rw [if_pos z, if_pos z, e1]
        exact ⟨S, U, rfl, rfl, h.b, h.t, okQ, i4, fun q => absurd q cu, fun _ => ⟨fun _ => ⟨p400, fun _ => trivial, fun q => absurd z q⟩, fun q => absurd (by decide) q⟩⟩
      · rw [if_neg z, if_neg z, show (f_QC_sendUnsigned i 5 (nI b') (nI s) S).1 14 4 1 1 = nI 4 from as.1.a]
        exact ⟨_, _, rfl, rfl, as.1.b, as.1.t, okQ, i4, fun q => absurd q cu, fun _ => ⟨fun _ => ⟨p400, fun q => absurd q z, fun _ => ⟨as.2.2, trivial⟩⟩, fun q => absurd (by decide) q⟩⟩
    · by_cases c5 : k = 5
      · subst c5
        have b1 : 1 ≤ b' := nb' (by decide)
        have he : f_QC_isHeard 4 1 S = 1 ∧ ok_QC_isHeard 4 1 S := by
          unfold f_QC_isHeard ok_QC_isHeard
          rw [e1, if_neg (by decide), if_pos (by decide)]
          exact ⟨rfl, fun q => absurd q (by decide), fun _ => ⟨fun _ => trivial, fun q => absurd (by decide) q⟩⟩
        have co := j_comes h hi hs hb b1
        rw [he.1, if_neg (by decide), if_neg (by decide), if_neg (by decide), if_neg (by decide), if_neg (by decide), if_neg (by decide), if_pos (by decide), show (f_QC_receiveBlock i (nI s) (nI b') S).1 14 4 1 1 = nI 5 from co.1.a]
        exact ⟨_, _, rfl, rfl, co.1.b, co.1.t, ⟨fun q => absurd q cu, fun _ => ⟨he.2, fun q => absurd q (by decide), fun _ => ⟨fun q => absurd q (by decide), fun _ => ⟨fun q => absurd q (by decide), fun _ => ⟨fun q => absurd q (by decide), fun _ => ⟨fun q => absurd q (by decide), fun _ => ⟨co.2.1, trivial⟩⟩⟩⟩⟩⟩⟩, i4, fun q => absurd q cu, fun _ => ⟨fun q => absurd q (by decide), fun _ => ⟨fun _ => ⟨co.2.2, trivial⟩, fun q => absurd (by decide) q⟩⟩⟩
      · -- signed
        have k3 : nI k ≤ (3 : Int32) := (nI_leI (a := k) (b := 3) (by omega) (by omega)).mpr (by omega)
        have n4 : ¬ nI k = (4 : Int32) := fun q => c4 ((nI_eq (a := k) (b := 4) (by omega) (by omega)).mp q)
        have n5 : ¬ nI k = (5 : Int32) := fun q => c5 ((nI_eq (a := k) (b := 5) (by omega) (by omega)).mp q)
        obtain ⟨u, hu, eu⟩ := ms.key k3
        rw [eu] at e5 e40
        obtain ⟨z, ez⟩ := m_mean (nI k) (nI v) (nI b') U
        obtain ⟨V, ev, scV, og⟩ := m_good (fo U z) s u hs hu (mean (nI k) (nI v) (nI b')) e40
        have qg := q_good s 4 1 u S hu e5
        rw [e1, e3, e4] at qg
        have etop : S.2.1 11 s 0 1 = (fo U z).2.1 2 0 0 (64 * s + 1) := by
          rw [fo_l _ _ _ _ (by omega)]
          exact h.r.tr s hs 1 (by decide)
        have egd : goodF (S.2.1 11 s 0 1) (S.2.1 15 4 1) u (mean (nI k) (nI v) (nI b')) = goodF ((fo U z).2.1 2 0 0 (64 * s + 1)) ((fo U z).2.1 35 0 0) u (mean (nI k) (nI v) (nI b')) := by
          rw [etop]
          exact goodF_ext _ _ _ _ _ (fun l hl => by
            rw [es k3 l hl, fo_l _ _ _ _ (by omega)])
        rw [egd] at qg
        obtain ⟨gd, hgd⟩ : ∃ x, x = goodF ((fo U z).2.1 2 0 0 (64 * s + 1)) ((fo U z).2.1 35 0 0) u (mean (nI k) (nI v) (nI b')) := ⟨_, rfl⟩
        have gdb : gd = 0 ∨ gd = 1 := by
          rw [hgd]
          exact goodF_b _ _ _ _
        rw [← hgd] at qg ev
        have hV : J sd sg B T (nI k) S V := (h.scr (Scr.ff U z)).scr scV
        have e18 : V.1 18 0 0 = U.1 18 0 0 := (scV.k 18).trans rfl
        have e7 : V.1 7 0 0 = U.1 7 0 0 := (scV.k 7).trans rfl
        have h49 : f_QC_isHeard_49 4 1 S = gd ∧ ok_QC_isHeard_49 4 1 S := by
          unfold f_QC_isHeard_49 ok_QC_isHeard_49
          repeat rw [lt]
          rw [e2, q_isNode hs, if_neg (by decide), nI_clamp (by omega), qg.1]
          refine ⟨?_, fun q => absurd q (by decide), fun _ => ⟨vp_in_nI hs (by decide), qg.2, trivial⟩⟩
          rcases gdb with g | g
          · rw [g]
            rfl
          · rw [g]
            rfl
        have eg1 := congrArg Prod.fst ev
        have eg2 := congrArg Prod.snd ev
        have ez1 := congrArg Prod.fst ez
        have ez2 := congrArg Prod.snd ez
        simp only at eg1 eg2 ez1 ez2
        rw [ez1, ez2, eg1, eg2, if_neg n4, if_neg n5]
        -- the three kinds
        by_cases c1 : k = 1
        · subst c1
          have b1 : 1 ≤ b' := nb' (by decide)
          have b100 : vp_in (nI b') 100 := vp_in_nI (by omega) (by decide)
          obtain ⟨w, hw1, hw2, ew, _⟩ := h.v.vw b' (by omega) hb
          have vo := q_viewOf h hb
          rw [ew] at vo
          have ld := q_leader hw1 (by omega : w < 129)
          have he : f_QC_isHeard 4 1 S = (if nI ((w - 1) / 4 % 4) = nI s then gd else 0) ∧ ok_QC_isHeard 4 1 S := by
            unfold f_QC_isHeard ok_QC_isHeard
            repeat rw [lt]
            rw [e1, e2, e3, vo.1, (ld S).1, if_neg (by decide), if_neg (by decide), if_pos (by decide), h49.1]
            exact ⟨rfl, fun q => absurd q (by decide), fun _ => ⟨fun q => absurd q (by decide), fun _ => ⟨fun _ => ⟨vo.2, fun _ => h49.2, fun _ => trivial⟩, fun q => absurd (by decide) q⟩⟩⟩
          have e236 : f_M_deliver_236 (nI i) V (nI 1) (nI s) (nI b') (nI v) = (nI 1, V) := by
            unfold f_M_deliver_236
            rw [if_neg (by decide), if_neg (by decide)]
          have o236 : ok_M_deliver_236 (nI i) V (nI 1) (nI s) (nI b') (nI v) := ⟨fun q => absurd q (by decide), fun _ => ⟨fun q => absurd q (by decide), fun _ => trivial⟩⟩
          rw [he.1, nI_clamp (by omega : b' < 2 ^ 31), e7, ew, (ld V).2, if_pos (show nI 1 = (1 : Int32) by decide), if_pos (show nI 1 = (1 : Int32) by decide), e236]
          obtain ⟨sg', jp, op1, op2⟩ := j_proposal hV hi hs hb b1
          have okM : ∀ (P : Prop), vp_in (nI i) 4 ∧ (U.1 11 0 0 i = 0 → True) ∧ (¬ U.1 11 0 0 i = 0 → (nI 1 = (4 : Int32) → vp_in ((100 : Int32) * nI i + nI b') 400 ∧ (U.1 19 0 0 ((100 : Int32) * nI i + nI b').toNatClampNeg = 0 → True) ∧ (¬ U.1 19 0 0 ((100 : Int32) * nI i + nI b').toNatClampNeg = 0 → ok_M_send (nI i) (nI s) 5 (nI b') 0 U ∧ True)) ∧ (¬ nI 1 = (4 : Int32) → (nI 1 = (5 : Int32) → ok_M_comes (nI i) (nI s) (nI b') U ∧ True) ∧ (¬ nI 1 = (5 : Int32) → ok_M_good (nI s) (mean (nI 1) (nI v) (nI b')) (fo U z) ∧ (gd = 0 → True) ∧ (¬ gd = 0 → (nI 1 = (1 : Int32) → vp_in (nI b') 100 ∧ (nI ((w - 1) / 4 % 4) = nI s → ok_M_proposal (nI i) (nI s) (nI b') V ∧ True) ∧ (¬ nI ((w - 1) / 4 % 4) = nI s → ok_M_deliver_236 (nI i) V (nI 1) (nI s) (nI b') (nI v))) ∧ (¬ nI 1 = (1 : Int32) → ok_M_deliver_236 (nI i) V (nI 1) (nI s) (nI b') (nI v)))))) := fun _ =>
            ⟨i4, fun q => absurd q cu, fun _ => ⟨fun q => absurd q (by decide), fun _ => ⟨fun q => absurd q (by decide), fun _ => ⟨og, fun _ => trivial, fun _ => ⟨fun _ => ⟨b100, fun _ => ⟨op2, trivial⟩, fun _ => o236⟩, fun q => absurd (by decide) q⟩⟩⟩⟩⟩
          by_cases cl : nI ((w - 1) / 4 % 4) = nI s
          · rw [if_pos cl, if_pos cl]
            rcases gdb with g | g
            · rw [g, if_pos rfl, if_pos rfl]
              refine ⟨S, V, rfl, rfl, hV.b, hV.t, ⟨fun q => absurd q cu, fun _ => ⟨he.2, fun _ => trivial, fun q => absurd rfl q⟩⟩, ?_⟩
              have := okM True
              rw [g] at this
              exact this
            · rw [g, if_neg (by decide), if_neg (by decide), show (f_QC_receiveProposal i (nI s) (nI b') S).1 14 4 1 1 = nI 1 from jp.a]
              refine ⟨_, _, rfl, rfl, jp.b, jp.t, ⟨fun q => absurd q cu, fun _ => ⟨he.2, fun q => absurd q (by decide), fun _ => ⟨fun _ => ⟨op1, trivial⟩, fun q => absurd (by decide) q⟩⟩⟩, ?_⟩
              have := okM True
              rw [g] at this
              exact this
          · rw [if_neg cl, if_neg cl, if_pos rfl]
            have e0 : (if gd = 0 then (nI 1, V) else (nI 1, V)) = (nI 1, V) := by split <;> rfl
            rw [e0]
            exact ⟨S, V, rfl, rfl, hV.b, hV.t, ⟨fun q => absurd q cu, fun _ => ⟨he.2, fun _ => trivial, fun q => absurd rfl q⟩⟩, okM True⟩
        · have n1 : ¬ nI k = (1 : Int32) := fun q => c1 ((nI_eq (a := k) (b := 1) (by omega) (by omega)).mp q)
          have he : f_QC_isHeard 4 1 S = gd ∧ ok_QC_isHeard 4 1 S := by
            unfold f_QC_isHeard ok_QC_isHeard
            rw [e1, if_neg n4, if_neg n5, if_neg n1]
            exact ⟨h49.1, fun q => absurd q n4, fun _ => ⟨fun q => absurd q n5, fun _ => ⟨fun q => absurd q n1, fun _ => h49.2⟩⟩⟩
          rw [he.1, if_neg n1, if_neg n1]
          by_cases c2 : k = 2
          · subst c2
            have b1 : 1 ≤ b' := nb' (by decide)
            have mk := ms.vote (by decide)
            rw [nI_clamp (by omega), nI_clamp (by omega)] at mk
            obtain ⟨sg', B', jp, op1, op2⟩ := j_vote hV hi hs hb b1 (by rw [e18, e7]; exact mk)
            have e236 : f_M_deliver_236 (nI i) V (nI 2) (nI s) (nI b') (nI v) = (nI 2, f_M_vote (nI i) (nI s) (nI b') V) := by
              unfold f_M_deliver_236
              rw [lt, lt, if_pos (by decide)]
            have o236 : ok_M_deliver_236 (nI i) V (nI 2) (nI s) (nI b') (nI v) := ⟨fun _ => ⟨op2, trivial⟩, fun q => absurd (by decide) q⟩
            rw [e236, if_pos (show nI 2 = (2 : Int32) by decide)]
            rcases gdb with g | g
            · rw [g, if_pos rfl, if_pos rfl]
              exact ⟨S, V, rfl, rfl, hV.b, hV.t, ⟨fun q => absurd q cu, fun _ => ⟨he.2, fun _ => trivial, fun q => absurd rfl q⟩⟩, i4, fun q => absurd q cu, fun _ => ⟨fun q => absurd q (by decide), fun _ => ⟨fun q => absurd q (by decide), fun _ => ⟨og, fun _ => trivial, fun q => absurd rfl q⟩⟩⟩⟩
            · rw [g, if_neg (by decide), if_neg (by decide), show (f_QC_receiveVote i (nI s) (nI b') S).1 14 4 1 1 = nI 2 from jp.a]
              exact ⟨_, _, rfl, rfl, jp.b, jp.t, ⟨fun q => absurd q cu, fun _ => ⟨he.2, fun q => absurd q (by decide), fun _ => ⟨fun q => absurd q (by decide), fun _ => ⟨fun _ => ⟨op1, trivial⟩, fun q => absurd (by decide) q⟩⟩⟩⟩, i4, fun q => absurd q cu, fun _ => ⟨fun q => absurd q (by decide), fun _ => ⟨fun q => absurd q (by decide), fun _ => ⟨og, fun q => absurd q (by decide), fun _ => ⟨fun q => absurd q (by decide), fun _ => o236⟩⟩⟩⟩⟩
          · have c3 : k = 3 := by omega
            subst c3
            have tt := ms.tout (by decide)
            rw [nI_clamp (by omega), nI_clamp (by omega)] at tt
            obtain ⟨sg', B', jp, op1, op2⟩ := j_timeout hV hi hs hb tt.2.1 hv (by rw [e18]; exact tt.1) (by rw [e18]; exact tt.2.2)
            have e236 : f_M_deliver_236 (nI i) V (nI 3) (nI s) (nI b') (nI v) = (nI 3, f_M_timeout (nI i) (nI s) (nI v) (nI b') V) := by
              unfold f_M_deliver_236
              rw [lt, lt, if_neg (by decide), if_pos (by decide)]
            have o236 : ok_M_deliver_236 (nI i) V (nI 3) (nI s) (nI b') (nI v) := ⟨fun q => absurd q (by decide), fun _ => ⟨fun _ => ⟨op2, trivial⟩, fun q => absurd (by decide) q⟩⟩
            rw [e236, if_neg (show ¬ nI 3 = (2 : Int32) by decide), if_pos (show nI 3 = (3 : Int32) by decide)]
            rcases gdb with g | g
            · rw [g, if_pos rfl, if_pos rfl]
              exact ⟨S, V, rfl, rfl, hV.b, hV.t, ⟨fun q => absurd q cu, fun _ => ⟨he.2, fun _ => trivial, fun q => absurd rfl q⟩⟩, i4, fun q => absurd q cu, fun _ => ⟨fun q => absurd q (by decide), fun _ => ⟨fun q => absurd q (by decide), fun _ => ⟨og, fun _ => trivial, fun q => absurd rfl q⟩⟩⟩⟩
            · rw [g, if_neg (by decide), if_neg (by decide), show (f_QC_receiveTimeout i (nI s) (nI v) (nI b') S).1 14 4 1 1 = nI 3 from jp.a]
              exact ⟨_, _, rfl, rfl, jp.b, jp.t, ⟨fun q => absurd q cu, fun _ => ⟨he.2, fun q => absurd q (by decide), fun _ => ⟨fun q => absurd q (by decide), fun _ => ⟨fun q => absurd q (by decide), fun _ => ⟨fun _ => ⟨op1, trivial⟩, fun q => absurd (by decide) q⟩⟩⟩⟩⟩, i4, fun q => absurd q cu, fun _ => ⟨fun q => absurd q (by decide), fun _ => ⟨fun q => absurd q (by decide), fun _ => ⟨og, fun q => absurd q (by decide), fun _ => ⟨fun q => absurd q (by decide), fun _ => o236⟩⟩⟩⟩⟩
end
theorem q_copy_scs (i j : Nat) (S : St) (hi : i < 4) : ScS S (f_Message_copyFrom 4 1 i j S) := by
  have c := q_copy 4 1 i j S (fun q => by omega)
  refine ⟨fun k p q x z => ?_, fun k p q x z => ?_, c.2.2⟩
  · rw [c.1, if_neg (fun y => z ⟨y.1, y.2.1⟩)]
  · rw [c.2.1, if_neg (fun y => z ⟨y.1, y.2.1⟩)]
theorem e16 (i : Nat) : (16 : Int32) * nI i = nI (16 * i) := nI_m 16 i
theorem thr_le {U : St} (t : Int32) : (si U 1 0 0 1 t).1 1 0 0 1 = t := si_rd _ _ _ _ _ _
theorem b_deliver {sd : Int32} {S U : St} (h : JB sd S U) (a : Int32) : ∃ k r S' r' U', f_QC_deliver a S = (k, r, S') ∧ f_M_deliver a U = (r', U') ∧ U'.1 1 0 0 1 = nI k ∧ (k = 0 → r = r') ∧ (k ≤ 2 ∧ (k ≠ 0 → S' = S)) ∧ JB sd S' U' ∧ ok_QC_deliver a S ∧ ok_M_deliver a U := by
  rcases nd_or a with n | ⟨i, hi, rfl⟩
  · refine ⟨1, 0, S, 0, si U 1 0 0 1 1, ?_, ?_, thr_le 1, fun q => absurd q (by decide), ⟨by decide, fun _ => rfl⟩, h.thr 1, ?_, ?_⟩
    · unfold f_QC_deliver
      rw [lt, (n S).1, if_pos rfl]
    · unfold f_M_deliver
      rw [lt, (n U).2, if_pos rfl]
      unfold f_M_deliver_26
      rw [lt, thr_le, if_neg (by decide)]
    · unfold ok_QC_deliver
      rw [lt, (n S).1]
      exact ⟨fun _ => trivial, fun q => absurd rfl q⟩
    · unfold ok_M_deliver
      rw [lt, (n U).2]
      refine ⟨fun _ => ?_, fun q => absurd rfl q⟩
      unfold ok_M_deliver_26
      rw [lt, thr_le]
      exact ⟨fun q => absurd q (by decide), fun _ => trivial⟩
  · obtain ⟨sg, B, T, h1⟩ := h.go
    have hB2 := h1.v.hB2
    have i4 : vp_in (nI i) 4 := vp_in_nI hi (by decide)
    obtain ⟨F, hF, eF⟩ := h1.v.fly i hi
    have eF' : U.1 28 0 0 i = nI F := eF
    have eFS : S.1 12 i 0 1 = nI F := (h1.e (Mp.flying hi)).trans eF
    by_cases c0 : F = 0
    · subst c0
      refine ⟨2, 0, S, 0, si U 1 0 0 1 2, ?_, ?_, thr_le 2, fun q => absurd q (by decide), ⟨by decide, fun _ => rfl⟩, h.thr 2, ?_, ?_⟩
      · unfold f_QC_deliver
        rw [lt, q_isNode hi, if_neg (by decide), nI_clamp (by omega), eFS, if_pos (by decide)]
      · unfold f_M_deliver
        rw [lt, m_isNode hi, if_neg (by decide), nI_clamp (by omega), eF', if_pos (by decide)]
        unfold f_M_deliver_26
        rw [lt, thr_le, if_neg (by decide)]
      · unfold ok_QC_deliver
        rw [lt, q_isNode hi, nI_clamp (by omega), eFS]
        exact ⟨fun q => absurd q (by decide), fun _ => ⟨i4, fun _ => trivial, fun q => absurd (by decide) q⟩⟩
      · unfold ok_M_deliver
        rw [lt, m_isNode hi, nI_clamp (by omega), eF']
        refine ⟨fun q => absurd q (by decide), fun _ => ⟨i4, fun _ => ?_, fun q => absurd (by decide) q⟩⟩
        unfold ok_M_deliver_26
        rw [lt, thr_le]
        exact ⟨fun q => absurd q (by decide), fun _ => trivial⟩
    · obtain ⟨G, rfl⟩ : ∃ G, F = G + 1 := ⟨F - 1, by omega⟩
      have nz : ¬ nI (G + 1) = 0 := nI_ne0 (by omega) (by omega)
      have hr := h1.r.row i hi 0 (by decide)
      have hf0 : 0 < ((si U 1 0 0 1 0).1 28 0 0 i).toNatClampNeg := by rw [eF, nI_clamp (by omega)]; omega
      have ms := h1.v.msgs i hi 0 (by decide) hf0
      have mg := h1.r.msg i hi 0 (by decide) hf0
      have sg0 := h1.r.sg i hi 0 (by decide) hf0
      rw [Nat.add_zero] at ms mg sg0
      obtain ⟨k, hk1, hk5, ek⟩ := ms.kind
      obtain ⟨s, hs, es⟩ := ms.sender
      obtain ⟨b, hb, eb, nb⟩ := ms.block
      obtain ⟨v, hv, ev⟩ := ms.view
      -- the reference's scratch
      obtain ⟨U1, hU1⟩ : ∃ z, z = si U 1 0 0 1 0 := ⟨_, rfl⟩
      rw [← hU1] at h1 eF hf0 ms mg sg0 ek es eb nb ev
      obtain ⟨ke, eke⟩ : ∃ z, z = U1.1 33 0 0 (16 * i) := ⟨_, rfl⟩
      obtain ⟨V, eV, scV, k40, sV, oV⟩ := m_dl hi (nI k) (nI s) (nI b) (nI v) ke (si U1 1 0 0 40 ke) 200 0 (si U1 1 0 0 40 ke) (by omega) (by omega) (Scr.refl _) (si_rd _ _ _ _ _ _) (fun x hx => absurd hx (Nat.not_lt_zero _))
      have scU : Scr U1 V := (Scr.key U1 ke).trans scV
      -- the class's copy
      have cp := q_copy 4 1 i (S.2.2 13 i 0 0) S (fun q => by omega)
      have hc : ∀ f, 1 ≤ f → f ≤ 5 → (f_Message_copyFrom 4 1 i (S.2.2 13 i 0 0) S).1 14 4 1 f = U1.1 (28 + f) 0 0 (16 * i) := fun f p q => by
        rw [cp.1, if_pos ⟨rfl, rfl, rfl, p, q⟩]
        exact mg f p q
      have h2 : J sd sg B T (nI k) (f_Message_copyFrom 4 1 i (S.2.2 13 i 0 0) S) V := J.mk (scU.rel ((q_copy_scs i _ S hi).rel h1.r)) (scU.ivt h1.v) ((hc 1 (by decide) (by decide)).trans ek) ((scU.i 1 1 (by decide) (by decide)).trans h1.t)
      have cl := cp.2.1
      have eV28 : V.1 28 0 0 i = nI (G + 1) := by rw [scU.k 28]; exact eF
      have rd := r_drop h2.r hi (by omega) eV28
      have md := m_drop h2.v hi (by omega) eV28
      have qd := q_deliver hi (S := S) (by rw [eFS]; exact nz) hr
      rw [qd.1]
      have qd2 := qd.2 rd.2.2.2.2.2.1
      obtain ⟨S9, hS9⟩ : ∃ z, z = f_Message_copyFrom 4 1 i (S.2.2 13 i 0 0) S := ⟨_, rfl⟩
      rw [← hS9] at hc h2 rd cl
      have qd3 : dQo i (f_Inbox_dropFirst i S9) → ok_QC_deliver (nI i) S := fun o => qd2 (by rw [← hS9]; exact o)
      rw [← hS9]
      have h3 : J sd sg B T (nI k) (f_Inbox_dropFirst i S9) (f_M_land (nI i) V) := J.mk rd.1 md.1 (by rw [rd.2.1]; exact h2.a) (by rw [md.2.2.1 1 (by decide)]; exact h2.t)
      have oland := rd.2.2.2.2.2.2
      have r14 := rd.2.1
      have r15 := rd.2.2.1
      have m1 := md.2.2.1
      have m35 := md.2.2.2
      have eM : f_M_deliver (nI i) U = dM i (f_M_land (nI i) V) (nI k) (nI s) (nI b) (nI v) := by
        unfold f_M_deliver
        rw [lt, m_isNode hi, if_neg (by decide), nI_clamp (by omega), eF', if_neg nz]
        unfold f_M_deliver_26
        rw [lt, lt, thr_le, if_pos (by decide), e16, nI_clamp (by omega), ← hU1, ek, es, eb, ev, ← eke]
        exact eV
      have p64 : vp_in (nI (16 * i)) 64 := vp_in_nI (by omega) (by decide)
      have oM : dMo i (f_M_land (nI i) V) (nI k) (nI s) (nI b) (nI v) → ok_M_deliver (nI i) U := fun o => by
        unfold ok_M_deliver
        rw [lt, m_isNode hi, nI_clamp (by omega), eF']
        refine ⟨fun q => absurd q (by decide), fun _ => ⟨i4, fun q => absurd q nz, fun _ => ?_⟩⟩
        unfold ok_M_deliver_26
        rw [lt, lt, thr_le, e16, nI_clamp (by omega), ← hU1, ek, es, eb, ev, ← eke]
        exact ⟨fun _ => ⟨p64, p64, p64, p64, p64, oV oland o⟩, fun q => absurd (by decide) q⟩
      generalize f_Inbox_dropFirst i S9 = S12 at h3 qd3 r14 r15 ⊢
      generalize f_M_land (nI i) V = U16 at h3 eM oM m1 m35
      have ms3 : MsgOk sg B (U16.1 18 0 0) (U16.1 7 0 0) (nI k) (nI s) (nI b) (nI v) ke := by
        rw [m1 18 (by decide), m1 7 (by decide), scU.k 18, scU.k 7]
        rw [ek, es, eb, ev, ← eke] at ms
        exact ms
      have fc : ∀ f, 1 ≤ f → f ≤ 5 → S12.1 14 4 1 f = U1.1 (28 + f) 0 0 (16 * i) := fun f p q => by rw [r14]; exact hc f p q
      obtain ⟨S', U', q1, q2, q3, q4, q5, q6⟩ := j_act h3 hi ((fc 1 (by decide) (by decide)).trans ek) ((fc 2 (by decide) (by decide)).trans es) ((fc 3 (by decide) (by decide)).trans eb) ((fc 4 (by decide) (by decide)).trans ev) ((fc 5 (by decide) (by decide)).trans eke.symm) hk1 hk5 hs hb hv ms3 (by rw [m1 1 (by decide)]; exact k40) (fun k3 l hl => by
        rw [r15, m35, cl, if_pos ⟨rfl, rfl, rfl, hl⟩, sV l hl]
        exact sg0 (by rw [ek]; exact k3) l hl)
      exact ⟨0, nI k, S', nI k, U', q1, eM.trans q2, q4, fun _ => rfl, ⟨by decide, fun z => absurd rfl z⟩, q3, qd3 q5, oM q6⟩
