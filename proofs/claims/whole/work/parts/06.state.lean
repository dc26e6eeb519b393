/-! The class's world: kinds of cells. Written by wip/whole/make.py. -/
abbrev clQ : List vw_C := [(R_QC, F_QC, 7), (R_Node, F_Node, 12), (R_Store, F_Store, 8), (R_Accounts, F_Accounts, 2), (R_KeyTree, F_KeyTree, 4), (R_Inbox, F_Inbox, 2), (R_Message, F_Message, 6), (R_Tally, F_Tally, 1), (R_Blocks, F_Blocks, 5), (R_Transactions, F_Transactions, 5)]
abbrev tysQ (ca : Nat → ClassId) : List (ClassId × FieldType) := [(ca 0, .int), (ca 1, .long), (ca 2, .boolean), (ca 3, .object "QuorumChain$Node"), (ca 4, .object "QuorumChain$Message")]
def nwQ : List (String × Nat × MethodName × String) := [("QuorumChain$Accounts", 18, ⟨"QuorumChain", "isAccount", "(I)Z"⟩, "QuorumChain")]
theorem nw_Accounts_18 : (R_Accounts, 18, y_QC_isAccount, "QuorumChain") ∈ nwQ := List.mem_singleton.mpr rfl
def tlen (j : Nat) : Nat := if j = 0 then 100 else 128
def inM (i j : Nat) : Prop := (i < 4 ∧ j < 16) ∨ (i = 4 ∧ j < 2)
def inT (i j : Nat) : Prop := i < 4 ∧ j < 2
theorem inM_D : inM 4 0 := Or.inr ⟨rfl, by decide⟩
theorem inM_A : inM 4 1 := Or.inr ⟨rfl, by decide⟩
theorem vin4 {x : Int32} (h : vp_in x 4) : x.toNatClampNeg < 4 := Nat.not_le.mp fun q => h (Or.inr q)
theorem z_inc {x k : Int32} {n : Int} (h : Int32.ofInt n = k) : x + Int32.ofInt n = x + k := by rw [h]
theorem z_swl {x : Int32} (lo hi : Int) (h : ∀ k : Int, lo ≤ k → k ≤ hi → ¬ x.toInt = k) : x.toInt < lo ∨ hi < x.toInt := by
  by_cases h1 : x.toInt < lo
  · exact Or.inl h1
  · by_cases h2 : hi < x.toInt
    · exact Or.inr h2
    · exact absurd rfl (h x.toInt (Int.not_lt.mp h1) (Int.not_lt.mp h2))
def cfQ (ad : N3 → Nat) (ca : Nat → ClassId) : Cf := fun t f g h => match t with
  | (1, _, _) => .inr (0, [.ref (ad (2, 0, 0)), .ref (ad (19, 0, 0)), .ref (ad (24, 0, 0)), .ref (ad (14, 4, 0)), .ref (ad (14, 4, 1)), .int (f 5), .int (f 6)])
  | (2, _, _) => .inl (ca 3, 4, .inr (.inr (.inr (.inr (fun x => some (ad (3, x, 0)))))))
  | (3, i, _) => .inr (1, [.int (f 0), .ref (ad (4, i, 0)), .ref (ad (12, i, 0)), .ref (ad (16, i, 0)), .ref (ad (16, i, 1)), .ref (ad (18, i, 0)), .int (f 6), .int (f 7), .int (f 8), .int (f 9), .int (f 10), .int (f 11)])
  | (4, i, _) => .inr (2, [.ref (ad (5, i, 0)), .ref (ad (6, i, 0)), .ref (ad (7, i, 0)), .ref (ad (10, i, 0)), .int (f 4), .int (f 5), .int (f 6), .int (f 7)])
  | (5, _, _) => .inl (ca 2, 100, .inl f)
  | (6, _, _) => .inl (ca 0, 100, .inl f)
  | (7, i, _) => .inr (3, [.ref (ad (8, i, 0)), .ref (ad (9, i, 0))])
  | (8, _, _) => .inl (ca 0, 4, .inl f)
  | (9, _, _) => .inl (ca 0, 4, .inl f)
  | (10, i, _) => .inr (4, [.ref (ad (11, i, 0)), .int (f 1), .int (f 2), .int (f 3)])
  | (11, _, _) => .inl (ca 1, 64, .inr (.inl g))
  | (12, i, _) => .inr (5, [.ref (ad (13, i, 0)), .int (f 1)])
  | (13, i, _) => .inl (ca 4, 16, .inr (.inr (.inr (.inr (fun x => some (ad (14, i, h x)))))))
  | (14, i, j) => .inr (6, [.ref (ad (15, i, j)), .int (f 1), .int (f 2), .int (f 3), .int (f 4), .int (f 5)])
  | (15, _, _) => .inl (ca 1, 11, .inr (.inl g))
  | (16, i, j) => .inr (7, [.ref (ad (17, i, j))])
  | (17, _, j) => .inl (ca 0, tlen j, .inl f)
  | (18, _, _) => .inl (ca 0, 40, .inl f)
  | (19, _, _) => .inr (8, [.ref (ad (20, 0, 0)), .ref (ad (21, 0, 0)), .ref (ad (22, 0, 0)), .ref (ad (23, 0, 0)), .int (f 4)])
  | (20, _, _) => .inl (ca 0, 100, .inl f)
  | (21, _, _) => .inl (ca 0, 100, .inl f)
  | (22, _, _) => .inl (ca 0, 100, .inl f)
  | (23, _, _) => .inl (ca 2, 100, .inl f)
  | (24, _, _) => .inr (9, [.ref (ad (25, 0, 0)), .ref (ad (26, 0, 0)), .ref (ad (27, 0, 0)), .ref (ad (28, 0, 0)), .int (f 4)])
  | (25, _, _) => .inl (ca 0, 40, .inl f)
  | (26, _, _) => .inl (ca 0, 40, .inl f)
  | (27, _, _) => .inl (ca 0, 40, .inl f)
  | (28, _, _) => .inl (ca 0, 40, .inl f)
  | (29, _, _) => .inl (ca 1, 1, .inr (.inl g))
  | _ => .inl (ca 0, 0, .inl f)
theorem cfQ_row {ad : N3 → Nat} {ca : Nat → ClassId} {i p w : Nat} {f : Nat → Int32} {g : Nat → Int64} {h : Nat → Nat} : cfQ ad ca (13, i, 0) f g (va_up h p w) = .inl (ca 4, 16, .inr (.inr (.inr (.inr (va_up (fun x => some (ad (14, i, h x))) p (some (ad (14, i, w)))))))) := by
  show Sum.inl (ca 4, 16, _) = _
  congr 7
  funext x
  by_cases hx : x = p
  · simp [va_up, hx]
  · simp [va_up, hx]
def TQ : List N3 := [(1, 0, 0), (2, 0, 0), (3, 0, 0), (3, 1, 0), (3, 2, 0), (3, 3, 0), (4, 0, 0), (4, 1, 0), (4, 2, 0), (4, 3, 0), (5, 0, 0), (5, 1, 0), (5, 2, 0), (5, 3, 0), (6, 0, 0), (6, 1, 0), (6, 2, 0), (6, 3, 0), (7, 0, 0), (7, 1, 0), (7, 2, 0), (7, 3, 0), (8, 0, 0), (8, 1, 0), (8, 2, 0), (8, 3, 0), (9, 0, 0), (9, 1, 0), (9, 2, 0), (9, 3, 0), (10, 0, 0), (10, 1, 0), (10, 2, 0), (10, 3, 0), (11, 0, 0), (11, 1, 0), (11, 2, 0), (11, 3, 0), (12, 0, 0), (12, 1, 0), (12, 2, 0), (12, 3, 0), (13, 0, 0), (13, 1, 0), (13, 2, 0), (13, 3, 0), (14, 0, 0), (14, 0, 1), (14, 0, 2), (14, 0, 3), (14, 0, 4), (14, 0, 5), (14, 0, 6), (14, 0, 7), (14, 0, 8), (14, 0, 9), (14, 0, 10), (14, 0, 11), (14, 0, 12), (14, 0, 13), (14, 0, 14), (14, 0, 15), (14, 1, 0), (14, 1, 1), (14, 1, 2), (14, 1, 3), (14, 1, 4), (14, 1, 5), (14, 1, 6), (14, 1, 7), (14, 1, 8), (14, 1, 9), (14, 1, 10), (14, 1, 11), (14, 1, 12), (14, 1, 13), (14, 1, 14), (14, 1, 15), (14, 2, 0), (14, 2, 1), (14, 2, 2), (14, 2, 3), (14, 2, 4), (14, 2, 5), (14, 2, 6), (14, 2, 7), (14, 2, 8), (14, 2, 9), (14, 2, 10), (14, 2, 11), (14, 2, 12), (14, 2, 13), (14, 2, 14), (14, 2, 15), (14, 3, 0), (14, 3, 1), (14, 3, 2), (14, 3, 3), (14, 3, 4), (14, 3, 5), (14, 3, 6), (14, 3, 7), (14, 3, 8), (14, 3, 9), (14, 3, 10), (14, 3, 11), (14, 3, 12), (14, 3, 13), (14, 3, 14), (14, 3, 15), (14, 4, 0), (14, 4, 1), (15, 0, 0), (15, 0, 1), (15, 0, 2), (15, 0, 3), (15, 0, 4), (15, 0, 5), (15, 0, 6), (15, 0, 7), (15, 0, 8), (15, 0, 9), (15, 0, 10), (15, 0, 11), (15, 0, 12), (15, 0, 13), (15, 0, 14), (15, 0, 15), (15, 1, 0), (15, 1, 1), (15, 1, 2), (15, 1, 3), (15, 1, 4), (15, 1, 5), (15, 1, 6), (15, 1, 7), (15, 1, 8), (15, 1, 9), (15, 1, 10), (15, 1, 11), (15, 1, 12), (15, 1, 13), (15, 1, 14), (15, 1, 15), (15, 2, 0), (15, 2, 1), (15, 2, 2), (15, 2, 3), (15, 2, 4), (15, 2, 5), (15, 2, 6), (15, 2, 7), (15, 2, 8), (15, 2, 9), (15, 2, 10), (15, 2, 11), (15, 2, 12), (15, 2, 13), (15, 2, 14), (15, 2, 15), (15, 3, 0), (15, 3, 1), (15, 3, 2), (15, 3, 3), (15, 3, 4), (15, 3, 5), (15, 3, 6), (15, 3, 7), (15, 3, 8), (15, 3, 9), (15, 3, 10), (15, 3, 11), (15, 3, 12), (15, 3, 13), (15, 3, 14), (15, 3, 15), (15, 4, 0), (15, 4, 1), (16, 0, 0), (16, 0, 1), (16, 1, 0), (16, 1, 1), (16, 2, 0), (16, 2, 1), (16, 3, 0), (16, 3, 1), (17, 0, 0), (17, 0, 1), (17, 1, 0), (17, 1, 1), (17, 2, 0), (17, 2, 1), (17, 3, 0), (17, 3, 1), (18, 0, 0), (18, 1, 0), (18, 2, 0), (18, 3, 0), (19, 0, 0), (20, 0, 0), (21, 0, 0), (22, 0, 0), (23, 0, 0), (24, 0, 0), (25, 0, 0), (26, 0, 0), (27, 0, 0), (28, 0, 0), (29, 0, 0)]
theorem tq1 : ((1, 0, 0) : N3) ∈ TQ := by decide +kernel
theorem tq2 : ((2, 0, 0) : N3) ∈ TQ := by decide +kernel
theorem tq3 {i : Nat} (h : i < 4) : ((3, i, 0) : N3) ∈ TQ := (by decide +kernel : ∀ i, i < 4 → ((3, i, 0) : N3) ∈ TQ) i h
theorem tq4 {i : Nat} (h : i < 4) : ((4, i, 0) : N3) ∈ TQ := (by decide +kernel : ∀ i, i < 4 → ((4, i, 0) : N3) ∈ TQ) i h
theorem tq5 {i : Nat} (h : i < 4) : ((5, i, 0) : N3) ∈ TQ := (by decide +kernel : ∀ i, i < 4 → ((5, i, 0) : N3) ∈ TQ) i h
theorem tq6 {i : Nat} (h : i < 4) : ((6, i, 0) : N3) ∈ TQ := (by decide +kernel : ∀ i, i < 4 → ((6, i, 0) : N3) ∈ TQ) i h
theorem tq7 {i : Nat} (h : i < 4) : ((7, i, 0) : N3) ∈ TQ := (by decide +kernel : ∀ i, i < 4 → ((7, i, 0) : N3) ∈ TQ) i h
theorem tq8 {i : Nat} (h : i < 4) : ((8, i, 0) : N3) ∈ TQ := (by decide +kernel : ∀ i, i < 4 → ((8, i, 0) : N3) ∈ TQ) i h
theorem tq9 {i : Nat} (h : i < 4) : ((9, i, 0) : N3) ∈ TQ := (by decide +kernel : ∀ i, i < 4 → ((9, i, 0) : N3) ∈ TQ) i h
theorem tq10 {i : Nat} (h : i < 4) : ((10, i, 0) : N3) ∈ TQ := (by decide +kernel : ∀ i, i < 4 → ((10, i, 0) : N3) ∈ TQ) i h
theorem tq11 {i : Nat} (h : i < 4) : ((11, i, 0) : N3) ∈ TQ := (by decide +kernel : ∀ i, i < 4 → ((11, i, 0) : N3) ∈ TQ) i h
theorem tq12 {i : Nat} (h : i < 4) : ((12, i, 0) : N3) ∈ TQ := (by decide +kernel : ∀ i, i < 4 → ((12, i, 0) : N3) ∈ TQ) i h
theorem tq13 {i : Nat} (h : i < 4) : ((13, i, 0) : N3) ∈ TQ := (by decide +kernel : ∀ i, i < 4 → ((13, i, 0) : N3) ∈ TQ) i h
theorem tq14 {i j : Nat} (h : inM i j) : ((14, i, j) : N3) ∈ TQ := h.elim (fun h => (by decide +kernel : ∀ i, i < 4 → ∀ j, j < 16 → ((14, i, j) : N3) ∈ TQ) i h.1 j h.2) (fun h => by
  obtain ⟨rfl, hj⟩ := h
  exact (by decide +kernel : ∀ j, j < 2 → ((14, 4, j) : N3) ∈ TQ) j hj)
theorem tq15 {i j : Nat} (h : inM i j) : ((15, i, j) : N3) ∈ TQ := h.elim (fun h => (by decide +kernel : ∀ i, i < 4 → ∀ j, j < 16 → ((15, i, j) : N3) ∈ TQ) i h.1 j h.2) (fun h => by
  obtain ⟨rfl, hj⟩ := h
  exact (by decide +kernel : ∀ j, j < 2 → ((15, 4, j) : N3) ∈ TQ) j hj)
theorem tq16 {i j : Nat} (h : inT i j) : ((16, i, j) : N3) ∈ TQ := (by decide +kernel : ∀ i, i < 4 → ∀ j, j < 2 → ((16, i, j) : N3) ∈ TQ) i h.1 j h.2
theorem tq17 {i j : Nat} (h : inT i j) : ((17, i, j) : N3) ∈ TQ := (by decide +kernel : ∀ i, i < 4 → ∀ j, j < 2 → ((17, i, j) : N3) ∈ TQ) i h.1 j h.2
theorem tq18 {i : Nat} (h : i < 4) : ((18, i, 0) : N3) ∈ TQ := (by decide +kernel : ∀ i, i < 4 → ((18, i, 0) : N3) ∈ TQ) i h
theorem tq19 : ((19, 0, 0) : N3) ∈ TQ := by decide +kernel
theorem tq20 : ((20, 0, 0) : N3) ∈ TQ := by decide +kernel
theorem tq21 : ((21, 0, 0) : N3) ∈ TQ := by decide +kernel
theorem tq22 : ((22, 0, 0) : N3) ∈ TQ := by decide +kernel
theorem tq23 : ((23, 0, 0) : N3) ∈ TQ := by decide +kernel
theorem tq24 : ((24, 0, 0) : N3) ∈ TQ := by decide +kernel
theorem tq25 : ((25, 0, 0) : N3) ∈ TQ := by decide +kernel
theorem tq26 : ((26, 0, 0) : N3) ∈ TQ := by decide +kernel
theorem tq27 : ((27, 0, 0) : N3) ∈ TQ := by decide +kernel
theorem tq28 : ((28, 0, 0) : N3) ∈ TQ := by decide +kernel
theorem tq29 : ((29, 0, 0) : N3) ∈ TQ := by decide +kernel
