/-! ===== texts: what the tape's bytes are ===== -/
abbrev blP (x : Int32) : Prop := x = 32 ∨ x = 10
abbrev leP (x : Int32) : Prop := ¬ x < 97 ∧ ¬ 122 < x
abbrev diP (x : Int32) : Prop := ¬ x < 48 ∧ ¬ 57 < x
/-- where a run ends -/
def rnN (P : Int32 → Bool) (B : Nat → Int32) : Nat → Nat → Nat
  | 0, i => i
  | k + 1, i => if P (B i) = true then rnN P B k (i + 1) else i
theorem rn_ge (P : Int32 → Bool) (B : Nat → Int32) : ∀ k i, i ≤ rnN P B k i ∧ rnN P B k i ≤ i + k := by
  intro k
  induction k with
  | zero => intro i; exact ⟨Nat.le_refl _, Nat.le_refl _⟩
  | succ k ih =>
    intro i
    unfold rnN
    by_cases h : P (B i) = true
    · rw [if_pos h]; have := ih (i + 1); omega
    · rw [if_neg h]; omega
theorem rn_in (P : Int32 → Bool) (B : Nat → Int32) : ∀ k i j, i ≤ j → j < rnN P B k i → P (B j) = true := by
  intro k
  induction k with
  | zero => intro i j h1 h2; simp only [rnN] at h2; omega
  | succ k ih =>
    intro i j h1 h2
    unfold rnN at h2
    by_cases h : P (B i) = true
    · rw [if_pos h] at h2
      by_cases hj : j = i
      · subst hj; exact h
      · exact ih (i + 1) j (by omega) h2
    · rw [if_neg h] at h2; omega
def bkE (B : Nat → Int32) (n i : Nat) : Nat := rnN (fun x => decide (blP x)) B (n - i) i
def enT (B : Nat → Int32) (n p : Nat) : Nat := if p < n then (if leP (B p) then rnN (fun x => decide (leP x)) B (n - p) p else if diP (B p) then rnN (fun x => decide (diP x)) B (n - p) p else p + 1) else n
def plF (B : Nat → Int32) (n : Nat) : Nat → Nat
  | 0 => bkE B n 0
  | k + 1 => bkE B n (enT B n (plF B n k))
def mtB (B : Nat → Int32) : Nat → List Int32 → Bool
  | _, [] => true
  | p, x :: xs => (B p == x) && mtB B (p + 1) xs
def wdB (B : Nat → Int32) (p e : Nat) (w : List Int32) : Bool := (e == p + w.length) && mtB B p w
def wcF (B : Nat → Int32) (p e : Nat) : Nat := if wdB B p e [116, 117, 114, 110, 115] then 4 else if wdB B p e [109, 105, 115, 115, 101, 115] then 5 else if wdB B p e [98, 111, 117, 110, 100, 115] then 6 else if wdB B p e [111, 114] then 7 else if wdB B p e [97, 110, 100] then 8 else if wdB B p e [110, 111, 116] then 9 else if wdB B p e [103, 114, 111, 117, 110, 100, 115] then 32 else if wdB B p e [115, 97, 121, 105, 110, 103] then 33 else if wdB B p e [110, 117, 109, 98, 101, 114] then 34 else if wdB B p e [104, 111, 117, 114] then 35 else if wdB B p e [115, 108, 105, 112, 115] then 36 else if wdB B p e [99, 117, 112] then 37 else 1
def sgF (x : Int32) : Nat := if x = 40 then 10 else if x = 41 then 11 else if x = 59 then 12 else if x = 43 then 13 else if x = 45 then 14 else if x = 42 then 15 else if x = 60 then 16 else if x = 61 then 17 else 1
def vdF (B : Nat → Int32) : Nat → Nat → Nat → Nat
  | 0, _, a => a
  | m + 1, i, a => vdF B m (i + 1) (10 * a + ((B i).toNatClampNeg - 48))
def cdF (B : Nat → Int32) (n p : Nat) : Nat := if p < n then (if leP (B p) then wcF B p (enT B n p) else if diP (B p) then (if 4 < enT B n p - p then 1 else 2) else sgF (B p)) else 0
def vlF (B : Nat → Int32) (n p : Nat) : Nat := if 32 ≤ cdF B n p then cdF B n p - 32 else if cdF B n p = 2 then vdF B (enT B n p - p) p 0 else 0
def soF (B : Nat → Int32) (n p : Nat) : Nat := if 32 ≤ cdF B n p then 3 else cdF B n p
/-! ===== texts: how tokens are read ===== -/
abbrev Vl : Type := (Nat → Int32) → Int32
abbrev Res : Type := Nat × Option (List Int32 × Vl)
abbrev Rd : Type := Nat → Res
def stI (s v : Nat) : Int32 := (nI s <<< (16 &&& 31)) ||| nI v
def lpR (S : Nat → Nat) (p : Rd) (J : Nat → Bool) : Nat → Nat → List Int32 → Vl → Res
  | 0, k, c, v => (k, some (c, v))
  | n + 1, k, c, v => if J (S k) = true then (match p (k + 1) with
    | (k', none) => (k', none)
    | (k', some (c2, v2)) => lpR S p J n k' (c ++ c2 ++ [stI (S k) 0]) (fun nm => joV (nI (S k)) (v nm) (v2 nm))) else (k, some (c, v))
def bnR (S : Nat → Nat) (p : Rd) (J : Nat → Bool) (N : Nat) (k : Nat) : Res := match p k with
  | (k', none) => (k', none)
  | (k', some (c, v)) => lpR S p J N k' c v
def oneR (S V : Nat → Nat) (lo : Option (Rd × Rd × Rd)) (k : Nat) : Res :=
  if S k = 2 then (k + 1, some ([stI 2 (V k)], fun _ => nI (V k)))
  else if S k = 3 then (k + 1, some ([stI 3 (V k)], fun nm => nm (V k)))
  else match lo with
    | none => (k, none)
    | some (o, _, e) =>
      if S k = 10 then (match e (k + 1) with
        | (k', none) => (k', none)
        | (k', some x) => if S k' = 11 then (k' + 1, some x) else (k', none))
      else if S k = 14 then (match o (k + 1) with
        | (k', none) => (k', none)
        | (k', some (c, v)) => (k', some (c ++ [stI 18 0], fun nm => -(v nm))))
      else (k, none)
def jT (s : Nat) : Bool := s == 15
def jS (s : Nat) : Bool := s == 13 || s == 14
def jN (s : Nat) : Bool := s == 16 || s == 17
def jA (s : Nat) : Bool := s == 8
def jO (s : Nat) : Bool := s == 7
def terR (S V : Nat → Nat) (lo : Option (Rd × Rd × Rd)) : Rd := bnR S (oneR S V lo) jT 160
def sumR (S V : Nat → Nat) (lo : Option (Rd × Rd × Rd)) : Rd := bnR S (terR S V lo) jS 160
def notR (S V : Nat → Nat) (lo : Option (Rd × Rd × Rd)) (k : Nat) : Res :=
  if S k = 9 then (match lo with
    | none => (k, none)
    | some (_, n, _) => match n (k + 1) with
      | (k', none) => (k', none)
      | (k', some (c, v)) => (k', some (c ++ [stI 9 0], fun nm => if v nm = 0 then 1 else 0)))
  else bnR S (sumR S V lo) jN 1 k
def andR (S V : Nat → Nat) (lo : Option (Rd × Rd × Rd)) : Rd := bnR S (notR S V lo) jA 160
def eitR (S V : Nat → Nat) (lo : Option (Rd × Rd × Rd)) : Rd := bnR S (andR S V lo) jO 160
def lvR (S V : Nat → Nat) : Nat → Option (Rd × Rd × Rd)
  | 0 => none
  | r + 1 => some (oneR S V (lvR S V r), notR S V (lvR S V r), eitR S V (lvR S V r))
def clR (S V : Nat → Nat) (key k : Nat) : Res := if S k = key then (match eitR S V (lvR S V 5) (k + 1) with
    | (k', none) => (k', none)
    | (k', some x) => if S k' = 12 then (k' + 1, some x) else (k', none)) else (k, none)
def txR (S V : Nat → Nat) : Nat × Option ((List Int32 × Vl) × (List Int32 × Vl) × (List Int32 × Vl)) := match clR S V 4 0 with
  | (k1, none) => (k1, none)
  | (k1, some x1) => match clR S V 5 k1 with
    | (k2, none) => (k2, none)
    | (k2, some x2) => match clR S V 6 k2 with
      | (k3, none) => (k3, none)
      | (k3, some x3) => if S k3 = 0 then (k3, some (x1, x2, x3)) else (k3, none)
/-! ===== texts: steps, and what they come to ===== -/
def AtS (f : Nat → Int32) : Nat → List Int32 → Prop
  | _, [] => True
  | j, x :: xs => f j = x ∧ AtS f (j + 1) xs
theorem AtS_app {f : Nat → Int32} : ∀ (a b : List Int32) (j : Nat), AtS f j (a ++ b) ↔ AtS f j a ∧ AtS f (j + a.length) b := by
  intro a
  induction a with
  | nil => intro b j; simp [AtS]
  | cons x xs ih =>
    intro b j
    simp only [List.cons_append, AtS, List.length_cons, ih]
    rw [show j + 1 + xs.length = j + (xs.length + 1) by omega]
    constructor
    · rintro ⟨h1, h2, h3⟩; exact ⟨⟨h1, h2⟩, h3⟩
    · rintro ⟨⟨h1, h2⟩, h3⟩; exact ⟨h1, h2, h3⟩
theorem AtS_con {f g : Nat → Int32} : ∀ (c : List Int32) (j : Nat), (∀ i, j ≤ i → i < j + c.length → g i = f i) → AtS f j c → AtS g j c := by
  intro c
  induction c with
  | nil => intro j _ _; trivial
  | cons x xs ih =>
    intro j h hA
    refine ⟨by rw [h j (by omega) (by simp)]; exact hA.1, ih (j + 1) (fun i h1 h2 => h i (by omega) (by simp only [List.length_cons]; omega)) hA.2⟩
def EvP (c : List Int32) (v : Vl) : Prop := ∀ (nm stp : Nat → Int32) (m j : Nat) (st : List Int32), AtS stp j c → st.length + c.length ≤ 160 → wF stp nm (c.length + m) j st = wF stp nm m (j + c.length) (v nm :: st)
theorem st_num2 : ∀ a, a < 100 → ∀ b, b < 100 → (usr (stI 2 (100 * a + b)) 16 = 2 ∧ stI 2 (100 * a + b) &&& 65535 = nI (100 * a + b)) := by decide +kernel
theorem st_num {v : Nat} (h : v < 10000) : usr (stI 2 v) 16 = 2 ∧ stI 2 v &&& 65535 = nI v := by
  have := st_num2 (v / 100) (by omega) (v % 100) (by omega)
  rwa [Nat.div_add_mod] at this
theorem st_nam : ∀ v, v < 6 → (usr (stI 3 v) 16 = 3 ∧ stI 3 v &&& 65535 = nI v ∧ (nI v).toNatClampNeg = v ∧ nI v < 6) := by decide +kernel
def isOp (s : Nat) : Bool := s == 7 || s == 8 || s == 13 || s == 14 || s == 15 || s == 16 || s == 17
theorem st_op : ∀ s, s < 19 → (usr (stI s 0) 16 = nI s) := by decide +kernel
theorem ev_num {v : Nat} (h : v < 10000) : EvP [stI 2 v] (fun _ => nI v) := by
  intro nm stp m j st hA hl
  simp only [List.length_cons, List.length_nil] at hl ⊢
  rw [show 0 + 1 + m = m + 1 by omega]
  simp only [wF]
  rw [hA.1, (st_num h).1, if_pos rfl, if_neg (by omega), (st_num h).2]
theorem ev_nam {v : Nat} (h : v < 6) : EvP [stI 3 v] (fun nm => nm v) := by
  intro nm stp m j st hA hl
  simp only [List.length_cons, List.length_nil] at hl ⊢
  rw [show 0 + 1 + m = m + 1 by omega]
  simp only [wF]
  obtain ⟨e1, e2, e3, e4⟩ := st_nam v h
  rw [hA.1, e1, if_neg (by decide), if_pos rfl, if_neg (by omega), e2, if_pos e4, e3]
theorem ev_bin {c1 c2 : List Int32} {v1 v2 : Vl} {s : Nat} (hs : isOp s = true) (h1 : EvP c1 v1) (h2 : EvP c2 v2) : EvP (c1 ++ c2 ++ [stI s 0]) (fun nm => joV (nI s) (v1 nm) (v2 nm)) := by
  intro nm stp m j st hA hl
  rw [AtS_app, AtS_app] at hA
  obtain ⟨⟨hA1, hA2⟩, hA3⟩ := hA
  simp only [List.length_append, List.length_cons, List.length_nil] at hl hA3 ⊢
  rw [show c1.length + c2.length + (0 + 1) + m = c1.length + (c2.length + (m + 1)) by omega, h1 nm stp _ j st hA1 (by omega), h2 nm stp _ _ _ hA2 (by simp only [List.length_cons]; omega)]
  have hs9 : s < 19 ∧ ¬ s = 2 ∧ ¬ s = 3 ∧ ¬ s = 9 ∧ ¬ s = 18 := by
    simp only [isOp, Bool.or_eq_true, beq_iff_eq] at hs; omega
  have e := st_op s hs9.1
  simp only [wF]
  rw [show j + c1.length + c2.length = j + (c1.length + c2.length) by omega, hA3.1, e]
  rw [if_neg (show ¬ nI s = (2 : Int32) from fun w => hs9.2.1 ((nI_eq (b := 2) (by omega) (by decide)).mp w)), if_neg (show ¬ nI s = (3 : Int32) from fun w => hs9.2.2.1 ((nI_eq (b := 3) (by omega) (by decide)).mp w)), if_neg (show ¬ nI s = (9 : Int32) from fun w => hs9.2.2.2.1 ((nI_eq (b := 9) (by omega) (by decide)).mp w)), if_neg (show ¬ nI s = (18 : Int32) from fun w => hs9.2.2.2.2 ((nI_eq (b := 18) (by omega) (by decide)).mp w))]
  rw [show j + (c1.length + c2.length) + 1 = j + (c1.length + c2.length + (0 + 1)) by omega]
theorem ev_neg {c : List Int32} {v : Vl} (h1 : EvP c v) (hc : 0 < c.length) : EvP (c ++ [stI 18 0]) (fun nm => -(v nm)) := by
  intro nm stp m j st hA hl
  rw [AtS_app] at hA
  simp only [List.length_append, List.length_cons, List.length_nil] at hl ⊢
  rw [show c.length + (0 + 1) + m = c.length + (m + 1) by omega, h1 nm stp _ j st hA.1 (by omega)]
  simp only [wF]
  rw [hA.2.1, st_op 18 (by decide), if_neg (by decide), if_neg (by decide), if_neg (by decide), if_pos (show nI 18 = (18 : Int32) from rfl), show j + c.length + 1 = j + (c.length + (0 + 1)) by omega]
theorem ev_not {c : List Int32} {v : Vl} (h1 : EvP c v) (hc : 0 < c.length) : EvP (c ++ [stI 9 0]) (fun nm => if v nm = 0 then 1 else 0) := by
  intro nm stp m j st hA hl
  rw [AtS_app] at hA
  simp only [List.length_append, List.length_cons, List.length_nil] at hl ⊢
  rw [show c.length + (0 + 1) + m = c.length + (m + 1) by omega, h1 nm stp _ j st hA.1 (by omega)]
  simp only [wF]
  rw [hA.2.1, st_op 9 (by decide), if_neg (by decide), if_neg (by decide), if_pos (show nI 9 = (9 : Int32) from rfl), show j + c.length + 1 = j + (c.length + (0 + 1)) by omega]
def OkR (T k : Nat) (x : Res) : Prop := k ≤ x.1 ∧ x.1 ≤ T ∧ ∀ c v, x.2 = some (c, v) → k < x.1 ∧ c.length ≤ x.1 - k ∧ 0 < c.length ∧ EvP c v
def GdR (T : Nat) (p : Rd) : Prop := ∀ k, k ≤ T → OkR T k (p k)
def VOK (S V : Nat → Nat) (T : Nat) : Prop := S T = 0 ∧ ∀ k, (S k = 2 → V k < 10000) ∧ (S k = 3 → V k < 6) ∧ S k < 18
theorem lp_ok {S : Nat → Nat} {T : Nat} {p : Rd} {J : Nat → Bool} (hT : S T = 0) (hp : GdR T p) (hJ : ∀ s, J s = true → isOp s = true) : ∀ (n k k0 : Nat) (c : List Int32) (v : Vl), k0 < k → k ≤ T → c.length ≤ k - k0 → 0 < c.length → EvP c v → OkR T k0 (lpR S p J n k c v) := by
  intro n
  induction n with
  | zero =>
    intro k k0 c v h1 h2 h3 h4 h5
    refine ⟨by simp only [lpR]; omega, h2, fun c' v' e => ?_⟩
    simp only [lpR, Option.some.injEq, Prod.mk.injEq] at e
    obtain ⟨rfl, rfl⟩ := e
    exact ⟨h1, h3, h4, h5⟩
  | succ n ih =>
    intro k k0 c v h1 h2 h3 h4 h5
    by_cases hj : J (S k) = true
    · have hk : k < T := by
        rcases Nat.lt_or_ge k T with g | g
        · exact g
        · have : k = T := by omega
          subst this
          rw [hT] at hj
          exact absurd (hJ _ hj) (by decide)
      have g := hp (k + 1) (by omega)
      simp only [lpR, if_pos hj]
      obtain ⟨g1, g2, g3⟩ := g
      match hq : p (k + 1), g1, g2, g3 with
      | (k', none), g1, g2, g3 => exact ⟨by simp only at g1 ⊢; omega, g2, fun c v e => absurd e (by simp)⟩
      | (k', some (c2, v2)), g1, g2, g3 =>
        obtain ⟨a1, a2, a3, a4⟩ := g3 c2 v2 rfl
        simp only at a1 a2 g2 ⊢
        refine ih k' k0 _ _ (by omega) g2 ?_ ?_ (ev_bin (hJ _ hj) h5 a4)
        · simp only [List.length_append, List.length_cons, List.length_nil]; omega
        · simp only [List.length_append, List.length_cons, List.length_nil]; omega
    · simp only [lpR, if_neg hj]
      refine ⟨by simp only; omega, h2, fun c' v' e => ?_⟩
      simp only [Option.some.injEq, Prod.mk.injEq] at e
      obtain ⟨rfl, rfl⟩ := e
      exact ⟨h1, h3, h4, h5⟩
theorem bn_ok {S : Nat → Nat} {T : Nat} {p : Rd} {J : Nat → Bool} (hT : S T = 0) (hp : GdR T p) (hJ : ∀ s, J s = true → isOp s = true) (n : Nat) : GdR T (bnR S p J n) := by
  intro k hk
  have g := hp k hk
  unfold bnR
  obtain ⟨g1, g2, g3⟩ := g
  match hq : p k, g1, g2, g3 with
  | (k', none), g1, g2, g3 => exact ⟨g1, g2, fun c v e => absurd e (by simp)⟩
  | (k', some (c2, v2)), g1, g2, g3 =>
    obtain ⟨a1, a2, a3, a4⟩ := g3 c2 v2 rfl
    exact lp_ok hT hp hJ n k' k c2 v2 a1 g2 a2 a3 a4
theorem OkR.no {T k : Nat} (h : k ≤ T) : OkR T k (k, none) := ⟨Nat.le_refl _, h, fun c v e => absurd e (by simp)⟩
theorem lt_of_S {S : Nat → Nat} {T k : Nat} (hT : S T = 0) (hk : k ≤ T) (h : S k ≠ 0) : k < T := by
  rcases Nat.lt_or_ge k T with g | g
  · exact g
  · have : k = T := by omega
    subst this
    exact absurd hT h
def GdL (T : Nat) (lo : Option (Rd × Rd × Rd)) : Prop := ∀ x, lo = some x → GdR T x.1 ∧ GdR T x.2.1 ∧ GdR T x.2.2
theorem one_ok {S V : Nat → Nat} {T : Nat} {lo : Option (Rd × Rd × Rd)} (hV : VOK S V T) (hl : GdL T lo) : GdR T (oneR S V lo) := by
  intro k hk
  unfold oneR
  by_cases h2 : S k = 2
  · rw [if_pos h2]
    have := lt_of_S hV.1 hk (by omega)
    refine ⟨by simp, by simp only; omega, fun c v e => ?_⟩
    simp only [Option.some.injEq, Prod.mk.injEq] at e
    obtain ⟨rfl, rfl⟩ := e
    exact ⟨by simp, by simp, by simp, ev_num ((hV.2 k).1 h2)⟩
  rw [if_neg h2]
  by_cases h3 : S k = 3
  · rw [if_pos h3]
    have := lt_of_S hV.1 hk (by omega)
    refine ⟨by simp, by simp only; omega, fun c v e => ?_⟩
    simp only [Option.some.injEq, Prod.mk.injEq] at e
    obtain ⟨rfl, rfl⟩ := e
    exact ⟨by simp, by simp, by simp, ev_nam ((hV.2 k).2.1 h3)⟩
  rw [if_neg h3]
  match lo, hl with
  | none, _ => exact OkR.no hk
  | some (o, n, e), hl =>
    obtain ⟨ho, hn, he⟩ := hl _ rfl
    simp only at ho hn he ⊢
    by_cases h10 : S k = 10
    · rw [if_pos h10]
      have hk1 := lt_of_S hV.1 hk (by omega)
      obtain ⟨g1, g2, g3⟩ := he (k + 1) (by omega)
      match hq : e (k + 1), g1, g2, g3 with
      | (k', none), g1, g2, g3 => exact ⟨by simp only at g1 ⊢; omega, g2, fun c v e => absurd e (by simp)⟩
      | (k', some (c2, v2)), g1, g2, g3 =>
        obtain ⟨a1, a2, a3, a4⟩ := g3 c2 v2 rfl
        simp only at a1 a2 g2 ⊢
        by_cases h11 : S k' = 11
        · rw [if_pos h11]
          have := lt_of_S hV.1 g2 (by omega)
          refine ⟨by simp only; omega, by simp only; omega, fun c v e => ?_⟩
          simp only [Option.some.injEq, Prod.mk.injEq] at e
          obtain ⟨rfl, rfl⟩ := e
          exact ⟨by simp only; omega, by simp only; omega, a3, a4⟩
        · rw [if_neg h11]
          exact ⟨by simp only; omega, g2, fun c v e => absurd e (by simp)⟩
    rw [if_neg h10]
    by_cases h14 : S k = 14
    · rw [if_pos h14]
      have hk1 := lt_of_S hV.1 hk (by omega)
      obtain ⟨g1, g2, g3⟩ := ho (k + 1) (by omega)
      match hq : o (k + 1), g1, g2, g3 with
      | (k', none), g1, g2, g3 => exact ⟨by simp only at g1 ⊢; omega, g2, fun c v e => absurd e (by simp)⟩
      | (k', some (c2, v2)), g1, g2, g3 =>
        obtain ⟨a1, a2, a3, a4⟩ := g3 c2 v2 rfl
        simp only at a1 a2 g2 ⊢
        refine ⟨by simp only; omega, g2, fun c v e => ?_⟩
        simp only [Option.some.injEq, Prod.mk.injEq] at e
        obtain ⟨rfl, rfl⟩ := e
        exact ⟨by simp only; omega, by simp only [List.length_append, List.length_cons, List.length_nil]; omega, by simp, ev_neg a4 a3⟩
    · rw [if_neg h14]; exact OkR.no hk
theorem not_ok {S V : Nat → Nat} {T : Nat} {lo : Option (Rd × Rd × Rd)} (hV : VOK S V T) (hl : GdL T lo) (hs : GdR T (sumR S V lo)) : GdR T (notR S V lo) := by
  intro k hk
  unfold notR
  by_cases h9 : S k = 9
  · rw [if_pos h9]
    match lo, hl with
    | none, _ => exact OkR.no hk
    | some (o, n, e), hl =>
      obtain ⟨ho, hn, he⟩ := hl _ rfl
      simp only at ho hn he ⊢
      have hk1 := lt_of_S hV.1 hk (by omega)
      obtain ⟨g1, g2, g3⟩ := hn (k + 1) (by omega)
      match hq : n (k + 1), g1, g2, g3 with
      | (k', none), g1, g2, g3 => exact ⟨by simp only at g1 ⊢; omega, g2, fun c v e => absurd e (by simp)⟩
      | (k', some (c2, v2)), g1, g2, g3 =>
        obtain ⟨a1, a2, a3, a4⟩ := g3 c2 v2 rfl
        simp only at a1 a2 g2 ⊢
        refine ⟨by simp only; omega, g2, fun c v e => ?_⟩
        simp only [Option.some.injEq, Prod.mk.injEq] at e
        obtain ⟨rfl, rfl⟩ := e
        exact ⟨by simp only; omega, by simp only [List.length_append, List.length_cons, List.length_nil]; omega, by simp, ev_not a4 a3⟩
  · rw [if_neg h9]
    exact bn_ok hV.1 hs (by intro s h; simp only [jN, Bool.or_eq_true, beq_iff_eq] at h; simp only [isOp, Bool.or_eq_true, beq_iff_eq]; omega) 1 k hk
theorem all_ok {S V : Nat → Nat} {T : Nat} {lo : Option (Rd × Rd × Rd)} (hV : VOK S V T) (hl : GdL T lo) : GdR T (oneR S V lo) ∧ GdR T (terR S V lo) ∧ GdR T (sumR S V lo) ∧ GdR T (notR S V lo) ∧ GdR T (andR S V lo) ∧ GdR T (eitR S V lo) := by
  have h1 := one_ok hV hl
  have h2 : GdR T (terR S V lo) := bn_ok hV.1 h1 (by intro s h; simp only [jT, beq_iff_eq] at h; simp only [isOp, Bool.or_eq_true, beq_iff_eq]; omega) 160
  have h3 : GdR T (sumR S V lo) := bn_ok hV.1 h2 (by intro s h; simp only [jS, Bool.or_eq_true, beq_iff_eq] at h; simp only [isOp, Bool.or_eq_true, beq_iff_eq]; omega) 160
  have h4 := not_ok hV hl h3
  have h5 : GdR T (andR S V lo) := bn_ok hV.1 h4 (by intro s h; simp only [jA, beq_iff_eq] at h; simp only [isOp, Bool.or_eq_true, beq_iff_eq]; omega) 160
  exact ⟨h1, h2, h3, h4, h5, bn_ok hV.1 h5 (by intro s h; simp only [jO, beq_iff_eq] at h; simp only [isOp, Bool.or_eq_true, beq_iff_eq]; omega) 160⟩
theorem lv_ok {S V : Nat → Nat} {T : Nat} (hV : VOK S V T) : ∀ r, GdL T (lvR S V r) := by
  intro r
  induction r with
  | zero => intro x h; simp [lvR] at h
  | succ r ih =>
    intro x h
    simp only [lvR, Option.some.injEq] at h
    subst h
    have := all_ok hV ih
    exact ⟨this.1, this.2.2.2.1, this.2.2.2.2.2⟩
