/-! ===== pairs: tells ===== -/
theorem foS_con {it it2 f f2 : Nat → Int32} : ∀ (n j : Nat), (∀ i, j ≤ i → i < j + n → it i = it2 i ∧ f i = f2 i) → foS it f n j = foS it2 f2 n j := by
  intro n
  induction n with
  | zero => intro j _; rfl
  | succ n ih =>
    intro j h
    simp only [foS]
    rw [(h j (by omega) (by omega)).1, (h j (by omega) (by omega)).2, ih (j + 1) (fun i h1 h2 => h i (by omega) (by omega))]
theorem bt_con {f g : Nat → Int32} : ∀ (n j : Nat) (a : Int32), (∀ i, j ≤ i → i < j + n → f i = g i) → btF f n j a = btF g n j a := by
  intro n
  induction n with
  | zero => intro j a _; rfl
  | succ n ih =>
    intro j a h
    simp only [btF]
    rw [h j (by omega) (by omega)]
    exact ih _ _ (fun i h1 h2 => h i (by omega) (by omega))
theorem bt_sn {f : Nat → Int32} : ∀ (n v : Nat) (a : Int32), btF f (n + 1) v a = (if f (v + n) = -1 then btF f n v a ||| (1 <<< (nI (v + n) &&& 31)) else btF f n v a) := by
  intro n
  induction n with
  | zero => intro v a; simp only [btF, Nat.add_zero]
  | succ n ih =>
    intro v a
    rw [btF, ih (v + 1)]
    rw [show v + 1 + n = v + (n + 1) by omega]
    rfl
theorem hc_sn {f : Nat → Int32} : ∀ (n v : Nat) (a : Int32), hcF f (n + 1) v a = (if f (v + n) = -1 then hcF f n v a + 1 else hcF f n v a) := by
  intro n
  induction n with
  | zero => intro v a; simp only [hcF, Nat.add_zero]
  | succ n ih =>
    intro v a
    rw [hcF, ih (v + 1)]
    rw [show v + 1 + n = v + (n + 1) by omega]
    rfl
theorem hl_sn {f : Nat → Int32} : ∀ (n v : Nat), v + n < 1000 → hlF f (n + 1) v = (if hlF f n v = -1 then (if f (v + n) = -1 then nI (v + n) else -1) else hlF f n v) := by
  intro n
  induction n with
  | zero => intro v _; simp only [hlF, Nat.add_zero, if_true]
  | succ n ih =>
    intro v hv
    rw [hlF]
    have e : hlF f (n + 1) v = if f v = -1 then nI v else hlF f n (v + 1) := rfl
    rw [e]
    by_cases g : f v = -1
    · rw [if_pos g, if_pos g, if_neg (nI_ne1 (by omega))]
    · rw [if_neg g, if_neg g, ih (v + 1) (by omega), show v + 1 + n = v + (n + 1) by omega]
theorem tl_1 {f : Nat → Int32} : ∀ (k : Nat) (a c l : Int32), k ≤ 10 → (tlF f k a c l).1 = btF f k 0 0 ||| a := by
  intro k
  induction k with
  | zero => intro a c l _; exact (Int32.zero_or).symm
  | succ k ih =>
    intro a c l hk
    rw [bt_sn, tlF, Nat.zero_add]
    by_cases g : f k = -1
    · rw [if_pos g, if_pos g, if_pos (by omega), ih _ _ _ (by omega), Int32.or_comm a, Int32.or_assoc]
    · rw [if_neg g, if_neg g, ih _ _ _ (by omega)]
theorem tl_2 {f : Nat → Int32} : ∀ (k : Nat) (a c l : Int32), (tlF f k a c l).2.1 = c + hcF f k 0 0 := by
  intro k
  induction k with
  | zero => intro a c l; exact (Int32.add_zero c).symm
  | succ k ih =>
    intro a c l
    rw [hc_sn, tlF, Nat.zero_add]
    by_cases g : f k = -1
    · rw [if_pos g, if_pos g, ih, Int32.add_assoc, Int32.add_comm 1]
    · rw [if_neg g, if_neg g, ih]
theorem tl_3 {f : Nat → Int32} : ∀ (k : Nat) (a c l : Int32), k < 1000 → (tlF f k a c l).2.2 = if hlF f k 0 = -1 then l else hlF f k 0 := by
  intro k
  induction k with
  | zero => intro a c l _; rfl
  | succ k ih =>
    intro a c l hk
    rw [hl_sn k 0 (by omega), tlF, Nat.zero_add]
    by_cases g : f k = -1
    · rw [if_pos g, if_pos g, ih _ _ _ (by omega)]
      by_cases e : hlF f k 0 = -1
      · rw [if_pos e, if_neg (nI_ne1 (by omega))]
      · rw [if_neg e, if_neg e]
    · rw [if_neg g, if_neg g, ih _ _ _ (by omega)]
      by_cases e : hlF f k 0 = -1
      · rw [if_pos e, if_pos e, if_pos rfl]
      · rw [if_neg e, if_neg e, if_neg e]
section PRT
variable {I J : Mi} {Z : Mz} {n m r ru N k : Nat} {tA qA mA aA bA : Nat → Nat} {WA : Nat → Wt}
theorem INV.tvN (h : INV I Z n m r ru N k tA qA mA aA bA WA) {v : Nat} (hv : v < N) : ∀ w nm, w < 3 → tvV (I (qA v)) (aA v) (bA v) (mA v) w nm = WA v w nm := fun w nm hw => (h.2.2.2.1.2.2.2.2 v hv).2.2.2 w nm hw
theorem INV.q45 (h : INV I Z n m r ru N k tA qA mA aA bA WA) {v : Nat} (hv : v < N) : 45 < qA v := (h.2.2.2.1.2.2.2.1 v hv).2.2.2.2.2.2.2.2
theorem INV.txs (h : INV I Z n m r ru N k tA qA mA aA bA WA) : TXS I Z N tA qA mA aA bA := h.2.2.2.1.2.2.2.1
theorem INV.txm (h : INV I Z n m r ru N k tA qA mA aA bA WA) : ∀ v, v < N → TXM I v (WA v) := fun v hv => (h.2.2.2.1.2.2.2.2 v hv).1

theorem INV.rbT1 (h : INV I Z n m r ru N k tA qA mA aA bA WA) (e : RbE I J) {p c v : Nat} {x : Int32} (hv : v < N) (hp : p < m) (hc : c < n) : rbV (iU (blM I 28 10) 33 p x) 28 (qA v) (aA v) (bA v) (mA v) p c = rbM (iU J 54 p x) (WA v) p c := by
  have h6 := h.n6
  have hq := h.q45 hv
  have hW : ∀ w nm, w < 3 → tvV (iU (blM I 28 10) 33 p x (qA v)) (aA v) (bA v) (mA v) w nm = WA v w nm := fun w nm hw => by
    rw [show iU (blM I 28 10) 33 p x (qA v) = I (qA v) from funext fun j => by rw [iU_at (by omega), blM_row (by omega)]]
    exact h.tvN hv w nm hw
  exact rb_gen hW (show iU J 54 p x 52 (2 * c) = iU (blM I 28 10) 33 p x 29 c by rw [iU_at (by omega), iU_at (by omega)]; exact (h.cuJ e hc).1.trans (blM_a (h := 28) (g := 10) (k := 1) (by decide) (by decide) (show c < 6 by omega)).symm) (show iU J 54 p x 52 (2 * c + 1) = iU (blM I 28 10) 33 p x 30 c by rw [iU_at (by omega), iU_at (by omega)]; exact (h.cuJ e hc).2.trans (blM_a (h := 28) (g := 10) (k := 2) (by decide) (by decide) (show c < 6 by omega)).symm) (show iU J 54 p x 54 p = iU (blM I 28 10) 33 p x 33 p by rw [iU_same, iU_same]) (show iU J 54 p x 55 (2 * p) = iU (blM I 28 10) 33 p x 34 p by rw [iU_at (by omega), iU_at (by omega)]; exact (h.reJ e hp).2.1.trans (blM_a (h := 28) (g := 10) (k := 6) (by decide) (by decide) (show p < 5 by omega)).symm) (show iU J 54 p x 55 (2 * p + 1) = iU (blM I 28 10) 33 p x 35 p by rw [iU_at (by omega), iU_at (by omega)]; exact (h.reJ e hp).2.2.trans (blM_a (h := 28) (g := 10) (k := 7) (by decide) (by decide) (show p < 5 by omega)).symm) (show iU J 54 p x 48 8 = iU (blM I 28 10) 33 p x 28 2 by rw [iU_at (by omega), iU_at (by omega)]; exact (h.hoJ e).trans (blM_f (by decide)).symm)
theorem INV.rbT2 (h : INV I Z n m r ru N k tA qA mA aA bA WA) (e : RbE I J) {p c v : Nat} {x : Int32} (hv : v < N) (hp : p < m) (hc : c < n) : rbV (iU (blM I 28 10) 34 p x) 28 (qA v) (aA v) (bA v) (mA v) p c = rbM (iU J 55 (2 * p) x) (WA v) p c := by
  have h6 := h.n6
  have hq := h.q45 hv
  have hW : ∀ w nm, w < 3 → tvV (iU (blM I 28 10) 34 p x (qA v)) (aA v) (bA v) (mA v) w nm = WA v w nm := fun w nm hw => by
    rw [show iU (blM I 28 10) 34 p x (qA v) = I (qA v) from funext fun j => by rw [iU_at (by omega), blM_row (by omega)]]
    exact h.tvN hv w nm hw
  exact rb_gen hW (show iU J 55 (2 * p) x 52 (2 * c) = iU (blM I 28 10) 34 p x 29 c by rw [iU_at (by omega), iU_at (by omega)]; exact (h.cuJ e hc).1.trans (blM_a (h := 28) (g := 10) (k := 1) (by decide) (by decide) (show c < 6 by omega)).symm) (show iU J 55 (2 * p) x 52 (2 * c + 1) = iU (blM I 28 10) 34 p x 30 c by rw [iU_at (by omega), iU_at (by omega)]; exact (h.cuJ e hc).2.trans (blM_a (h := 28) (g := 10) (k := 2) (by decide) (by decide) (show c < 6 by omega)).symm) (show iU J 55 (2 * p) x 54 p = iU (blM I 28 10) 34 p x 33 p by rw [iU_at (by omega), iU_at (by omega)]; exact (h.reJ e hp).1.trans (blM_a (h := 28) (g := 10) (k := 5) (by decide) (by decide) (show p < 5 by omega)).symm) (show iU J 55 (2 * p) x 55 (2 * p) = iU (blM I 28 10) 34 p x 34 p by rw [iU_same, iU_same]) (show iU J 55 (2 * p) x 55 (2 * p + 1) = iU (blM I 28 10) 34 p x 35 p by rw [iU_at (by omega), iU_at (by omega)]; exact (h.reJ e hp).2.2.trans (blM_a (h := 28) (g := 10) (k := 7) (by decide) (by decide) (show p < 5 by omega)).symm) (show iU J 55 (2 * p) x 48 8 = iU (blM I 28 10) 34 p x 28 2 by rw [iU_at (by omega), iU_at (by omega)]; exact (h.hoJ e).trans (blM_f (by decide)).symm)
theorem INV.rbT3 (h : INV I Z n m r ru N k tA qA mA aA bA WA) (e : RbE I J) {p c v : Nat} {x : Int32} (hv : v < N) (hp : p < m) (hc : c < n) : rbV (iU (blM I 28 10) 28 2 x) 28 (qA v) (aA v) (bA v) (mA v) p c = rbM (iU J 48 8 x) (WA v) p c := by
  have h6 := h.n6
  have hq := h.q45 hv
  have hW : ∀ w nm, w < 3 → tvV (iU (blM I 28 10) 28 2 x (qA v)) (aA v) (bA v) (mA v) w nm = WA v w nm := fun w nm hw => by
    rw [show iU (blM I 28 10) 28 2 x (qA v) = I (qA v) from funext fun j => by rw [iU_at (by omega), blM_row (by omega)]]
    exact h.tvN hv w nm hw
  exact rb_gen hW (show iU J 48 8 x 52 (2 * c) = iU (blM I 28 10) 28 2 x 29 c by rw [iU_at (by omega), iU_at (by omega)]; exact (h.cuJ e hc).1.trans (blM_a (h := 28) (g := 10) (k := 1) (by decide) (by decide) (show c < 6 by omega)).symm) (show iU J 48 8 x 52 (2 * c + 1) = iU (blM I 28 10) 28 2 x 30 c by rw [iU_at (by omega), iU_at (by omega)]; exact (h.cuJ e hc).2.trans (blM_a (h := 28) (g := 10) (k := 2) (by decide) (by decide) (show c < 6 by omega)).symm) (show iU J 48 8 x 54 p = iU (blM I 28 10) 28 2 x 33 p by rw [iU_at (by omega), iU_at (by omega)]; exact (h.reJ e hp).1.trans (blM_a (h := 28) (g := 10) (k := 5) (by decide) (by decide) (show p < 5 by omega)).symm) (show iU J 48 8 x 55 (2 * p) = iU (blM I 28 10) 28 2 x 34 p by rw [iU_at (by omega), iU_at (by omega)]; exact (h.reJ e hp).2.1.trans (blM_a (h := 28) (g := 10) (k := 6) (by decide) (by decide) (show p < 5 by omega)).symm) (show iU J 48 8 x 55 (2 * p + 1) = iU (blM I 28 10) 28 2 x 35 p by rw [iU_at (by omega), iU_at (by omega)]; exact (h.reJ e hp).2.2.trans (blM_a (h := 28) (g := 10) (k := 7) (by decide) (by decide) (show p < 5 by omega)).symm) (show iU J 48 8 x 48 8 = iU (blM I 28 10) 28 2 x 28 2 by rw [iU_same, iU_same])
theorem INV.rbT5 (h : INV I Z n m r ru N k tA qA mA aA bA WA) (e : RbE I J) {p c v : Nat} {x : Int32} (hv : v < N) (hp : p < m) (hc : c < n) : rbV (iU (blM I 28 10) 28 3 x) 28 (qA v) (aA v) (bA v) (mA v) p c = rbM (iU J 48 4 x) (WA v) p c := by
  have h6 := h.n6
  have hq := h.q45 hv
  have hW : ∀ w nm, w < 3 → tvV (iU (blM I 28 10) 28 3 x (qA v)) (aA v) (bA v) (mA v) w nm = WA v w nm := fun w nm hw => by
    rw [show iU (blM I 28 10) 28 3 x (qA v) = I (qA v) from funext fun j => by rw [iU_at (by omega), blM_row (by omega)]]
    exact h.tvN hv w nm hw
  exact rb_gen hW (show iU J 48 4 x 52 (2 * c) = iU (blM I 28 10) 28 3 x 29 c by rw [iU_at (by omega), iU_at (by omega)]; exact (h.cuJ e hc).1.trans (blM_a (h := 28) (g := 10) (k := 1) (by decide) (by decide) (show c < 6 by omega)).symm) (show iU J 48 4 x 52 (2 * c + 1) = iU (blM I 28 10) 28 3 x 30 c by rw [iU_at (by omega), iU_at (by omega)]; exact (h.cuJ e hc).2.trans (blM_a (h := 28) (g := 10) (k := 2) (by decide) (by decide) (show c < 6 by omega)).symm) (show iU J 48 4 x 54 p = iU (blM I 28 10) 28 3 x 33 p by rw [iU_at (by omega), iU_at (by omega)]; exact (h.reJ e hp).1.trans (blM_a (h := 28) (g := 10) (k := 5) (by decide) (by decide) (show p < 5 by omega)).symm) (show iU J 48 4 x 55 (2 * p) = iU (blM I 28 10) 28 3 x 34 p by rw [iU_at (by omega), iU_at (by omega)]; exact (h.reJ e hp).2.1.trans (blM_a (h := 28) (g := 10) (k := 6) (by decide) (by decide) (show p < 5 by omega)).symm) (show iU J 48 4 x 55 (2 * p + 1) = iU (blM I 28 10) 28 3 x 35 p by rw [iU_at (by omega), iU_at (by omega)]; exact (h.reJ e hp).2.2.trans (blM_a (h := 28) (g := 10) (k := 7) (by decide) (by decide) (show p < 5 by omega)).symm) (show iU J 48 4 x 48 8 = iU (blM I 28 10) 28 3 x 28 2 by rw [iU_at (by omega), iU_at (by omega)]; exact (h.hoJ e).trans (blM_f (by decide)).symm)
end PRT
theorem wrap40 {a z : Nat} (ha : a ≤ 40) (h : nI a = nI z) : a = z % 2 ^ 32 := by
  have := congrArg (fun y => y.toBitVec.toNat) h
  simp only [nI_bv] at this
  omega
theorem nI_small {a z n : Nat} (ha : a ≤ n) (hz : z ≤ n) (hn : n ≤ 6) (h : nI a = nI z) : z = a := ((nI_eq (by omega) (by omega)).mp h).symm
theorem pr_tells {E : Ev} {I : Mi} {L : Ml} {Z : Mz} {Q : Po} {x y w : Int32} (hI : GI I Z) (H : ∀ (rv : Int32) (I1 : Mi) (L1 : Ml), MD E yX6_tells cX6_tells 11 (some .int) [.ref 48, .int x, .int y, .int w] (some (.int rv)) I1 L1 Z → Q (some (.int rv)) I1 L1 Z) : AC E yX5_tells cX5_tells 5 (some .int) 60 0 0 [.ref 0, .int x, .int y, .int w] I L Z Q := by
  obtain ⟨n, m, r, ru, N, k, tA, qA, mA, aA, bA, WA, h⟩ := hI
  have hG : GZ Z := h.1.1
  have hM : MZ Z := h.1.2.1
  have h6 := h.n6
  have hS := h.2.2.2.2.2
  have hz : ∀ s, s < 4 → ∃ z, z ≤ 40 ∧ I (38 + 2 * s) 2 = nI z := fun s hs => (hS s hs).1
  have h6n := h6.1
  by_cases hx : ¬ w < 0 ∧ ¬ 6 < w
  · obtain ⟨v, hv, rfl⟩ := in_rng (M := 6) (n := 6) rfl (by decide) hx
    match v, hv with
    | 0, _ =>
      refine c_X5_tells0 (m := m) (N := N) (tA := tA) (qA := qA) (mA := mA) (aA := aA) (bA := bA) (by decide) hG h.rd h.cC.2.1 h6.2.1 h.tq hz h.txs h.2.2.2.1.2.1 h.2.2.2.1.1.2 (fun hb => H _ _ _ fun Q2 K => c_X6_tells0 (by decide) hM h.rdm hS.zM (fun _ => K _ _ _ h.gi) (fun s p hs hp e1 e2 => absurd ⟨sh_x hs e1, p, hp, e2⟩ hb) (fun s p z hs hp e1 e2 => absurd ⟨sh_x hs e1, p, hp, e2⟩ hb) (fun s p z hs hp e1 e2 => absurd ⟨sh_x hs e1, p, hp, e2⟩ hb)) (fun s p hs hp e1 e2 g => H _ _ _ fun Q2 K => ?_) (fun s p z hs hp e1 e2 g ez hn => H _ _ _ fun Q2 K => ?_) (fun s p z hs hp e1 e2 g ez hn rv I9 s9 er5 => H _ _ _ fun Q2 K => ?_)
      · have g0 := hS.no hs g
        refine c_X6_tells0 (by decide) hM h.rdm hS.zM (fun hb => absurd ⟨sh_x hs e1, p, hp, e2⟩ hb) (fun s2 p2 hs2 hp2 f1 f2 w => K _ _ _ h.gi) (fun s2 p2 z2 hs2 hp2 f1 f2 w => ?_) (fun s2 p2 z2 hs2 hp2 f1 f2 w => ?_)
        · have et := nI_two (by omega) (by omega) e1 f1
          subst et; exact absurd g0 w
        · have et := nI_two (by omega) (by omega) e1 f1
          subst et; exact absurd g0 w
      · have g1 := hS.yes hs g
        refine c_X6_tells0 (by decide) hM h.rdm hS.zM (fun hb => absurd ⟨sh_x hs e1, p, hp, e2⟩ hb) (fun s2 p2 hs2 hp2 f1 f2 w => ?_) (fun s2 p2 z2 hs2 hp2 f1 f2 w ez2 hn2 => K _ _ _ h.gi) (fun s2 p2 z2 hs2 hp2 f1 f2 w ez2 hn2 => ?_)
        · have et := nI_two (by omega) (by omega) e1 f1
          subst et; rw [g1.1] at w; exact absurd w (by decide)
        · have et := nI_two (by omega) (by omega) e1 f1
          subst et
          exfalso
          obtain ⟨zz, hzz, ezz⟩ := hz s2 hs
          rw [g1.2.2.1, ezz] at ez2
          rw [ezz] at ez
          have a1 := wrap40 hzz ez
          have a2 := wrap40 hzz ez2
          have a3 := hn
          have a4 := hn2
          omega
      · have g1 := hS.yes hs g
        have h9 := h.thx s9
        have eb : RbE I I9 := s9.rbe
        refine c_X6_tells0 (by decide) hM h9.rdm h9.2.2.2.2.2.zM (fun hb => absurd ⟨sh_x hs e1, p, hp, e2⟩ hb) (fun s2 p2 hs2 hp2 f1 f2 w => ?_) (fun s2 p2 z2 hs2 hp2 f1 f2 w ez2 hn2 => ?_) (fun s2 p2 z2 hs2 hp2 f1 f2 w ez2 hn2 rv2 J2 L2 sj er => ?_)
        · have et := nI_two (by omega) (by omega) e1 f1
          subst et; rw [s9 60 (by decide) (by decide) (by decide), g1.1] at w; exact absurd w (by decide)
        · have et := nI_two (by omega) (by omega) e1 f1
          subst et
          exfalso
          obtain ⟨zz, hzz, ezz⟩ := hz s2 hs
          rw [s9 62 (by decide) (by decide) (by decide), g1.2.2.1, ezz] at ez2
          rw [ezz] at ez
          have a1 := wrap40 hzz ez
          have a2 := wrap40 hzz ez2
          have a3 := hn
          have a4 := hn2
          omega
        · have et := nI_two (by omega) (by omega) e1 f1
          have eq := nI_two (by omega) (by omega) e2 f2
          subst et; subst eq
          have ezq : z2 = z := by
            rw [s9 62 (by decide) (by decide) (by decide), g1.2.2.1, ez] at ez2
            exact nI_small hn hn2 h6.1 ez2
          subst ezq
          have hz40 : z2 ≤ 40 := by omega
          have it : ∀ j, j < z2 → I (38 + 2 * s2 + 1) j = I9 63 (40 * s2 + j) := fun j hj => by rw [s9 63 (by decide) (by decide) (by decide)]; exact (g1.2.2.2 z2 ez hz40 j hj).symm
          have ev : rv2 = rv := by
            rw [er, er5]
            exact (foS_con z2 0 (fun j _ hj => ⟨it j (by omega), h.rbJ eb hp (by omega)⟩)).symm
          rw [ev]
          exact K _ _ _ (h9.saM sj).gi
    | 1, _ =>
      refine c_X5_tells1 (m := m) (N := N) (tA := tA) (qA := qA) (mA := mA) (aA := aA) (bA := bA) (by decide) hG h.rd h.cC.2.1 h6.2.1 h.tq hz h.txs h.2.2.2.1.2.1 h.2.2.2.1.1.2 (fun hb => H _ _ _ fun Q2 K => c_X6_tells1 (by decide) hM h.rdm hS.zM (fun _ => K _ _ _ h.gi) (fun s p hs hp e1 e2 => absurd ⟨sh_x hs e1, p, hp, e2⟩ hb) (fun s p z hs hp e1 e2 => absurd ⟨sh_x hs e1, p, hp, e2⟩ hb) (fun s p z hs hp e1 e2 => absurd ⟨sh_x hs e1, p, hp, e2⟩ hb)) (fun s p hs hp e1 e2 g => H _ _ _ fun Q2 K => ?_) (fun s p z hs hp e1 e2 g ez hn => H _ _ _ fun Q2 K => ?_) (fun s p z hs hp e1 e2 g ez hn rv I9 s9 er5 => H _ _ _ fun Q2 K => ?_)
      · have g0 := hS.no hs g
        refine c_X6_tells1 (by decide) hM h.rdm hS.zM (fun hb => absurd ⟨sh_x hs e1, p, hp, e2⟩ hb) (fun s2 p2 hs2 hp2 f1 f2 w => K _ _ _ h.gi) (fun s2 p2 z2 hs2 hp2 f1 f2 w => ?_) (fun s2 p2 z2 hs2 hp2 f1 f2 w => ?_)
        · have et := nI_two (by omega) (by omega) e1 f1
          subst et; exact absurd g0 w
        · have et := nI_two (by omega) (by omega) e1 f1
          subst et; exact absurd g0 w
      · have g1 := hS.yes hs g
        refine c_X6_tells1 (by decide) hM h.rdm hS.zM (fun hb => absurd ⟨sh_x hs e1, p, hp, e2⟩ hb) (fun s2 p2 hs2 hp2 f1 f2 w => ?_) (fun s2 p2 z2 hs2 hp2 f1 f2 w ez2 hn2 => K _ _ _ h.gi) (fun s2 p2 z2 hs2 hp2 f1 f2 w ez2 hn2 => ?_)
        · have et := nI_two (by omega) (by omega) e1 f1
          subst et; rw [g1.1] at w; exact absurd w (by decide)
        · have et := nI_two (by omega) (by omega) e1 f1
          subst et
          exfalso
          obtain ⟨zz, hzz, ezz⟩ := hz s2 hs
          rw [g1.2.2.1, ezz] at ez2
          rw [ezz] at ez
          have a1 := wrap40 hzz ez
          have a2 := wrap40 hzz ez2
          have a3 := hn
          have a4 := hn2
          omega
      · have g1 := hS.yes hs g
        have h9 := h.thx s9
        have eb : RbE I I9 := s9.rbe
        refine c_X6_tells1 (by decide) hM h9.rdm h9.2.2.2.2.2.zM (fun hb => absurd ⟨sh_x hs e1, p, hp, e2⟩ hb) (fun s2 p2 hs2 hp2 f1 f2 w => ?_) (fun s2 p2 z2 hs2 hp2 f1 f2 w ez2 hn2 => ?_) (fun s2 p2 z2 hs2 hp2 f1 f2 w ez2 hn2 rv2 J2 L2 sj er => ?_)
        · have et := nI_two (by omega) (by omega) e1 f1
          subst et; rw [s9 60 (by decide) (by decide) (by decide), g1.1] at w; exact absurd w (by decide)
        · have et := nI_two (by omega) (by omega) e1 f1
          subst et
          exfalso
          obtain ⟨zz, hzz, ezz⟩ := hz s2 hs
          rw [s9 62 (by decide) (by decide) (by decide), g1.2.2.1, ezz] at ez2
          rw [ezz] at ez
          have a1 := wrap40 hzz ez
          have a2 := wrap40 hzz ez2
          have a3 := hn
          have a4 := hn2
          omega
        · have et := nI_two (by omega) (by omega) e1 f1
          have eq := nI_two (by omega) (by omega) e2 f2
          subst et; subst eq
          have ezq : z2 = z := by
            rw [s9 62 (by decide) (by decide) (by decide), g1.2.2.1, ez] at ez2
            exact nI_small hn hn2 h6.1 ez2
          subst ezq
          have hz40 : z2 ≤ 40 := by omega
          have it : ∀ j, j < z2 → I (38 + 2 * s2 + 1) j = I9 63 (40 * s2 + j) := fun j hj => by rw [s9 63 (by decide) (by decide) (by decide)]; exact (g1.2.2.2 z2 ez hz40 j hj).symm
          have ev : rv2 = rv := by
            rw [er, er5]
            have ef : (fun v => foS (fun i => I9 63 (40 * s2 + i)) (rbM (iU I9 54 p2 (nI v)) (WA ru) p2) z2 0) = (fun v => foS (I (38 + 2 * s2 + 1)) (rbV (iU (blM I 28 10) 33 p2 (nI v)) 28 (qA ru) (aA ru) (bA ru) (mA ru) p2) z2 0) := funext fun v => (foS_con z2 0 (fun j _ hj => ⟨it j (by omega), h.rbT1 eb h.2.1.2 hp (by omega)⟩)).symm
            rw [ef]
            exact (tl_1 6 0 0 (-1) (by omega)).trans Int32.or_zero
          rw [ev]
          exact K _ _ _ (h9.saM sj).gi
    | 2, _ =>
      refine c_X5_tells2 (m := m) (N := N) (tA := tA) (qA := qA) (mA := mA) (aA := aA) (bA := bA) (by decide) hG h.rd h.cC.2.1 h6.2.1 h.tq hz h.txs h.2.2.2.1.2.1 h.2.2.2.1.1.2 (fun hb => H _ _ _ fun Q2 K => c_X6_tells2 (by decide) hM h.rdm hS.zM (fun _ => K _ _ _ h.gi) (fun s p hs hp e1 e2 => absurd ⟨sh_x hs e1, p, hp, e2⟩ hb) (fun s p z hs hp e1 e2 => absurd ⟨sh_x hs e1, p, hp, e2⟩ hb) (fun s p z hs hp e1 e2 => absurd ⟨sh_x hs e1, p, hp, e2⟩ hb)) (fun s p hs hp e1 e2 g => H _ _ _ fun Q2 K => ?_) (fun s p z hs hp e1 e2 g ez hn => H _ _ _ fun Q2 K => ?_) (fun s p z hs hp e1 e2 g ez hn rv I9 s9 er5 => H _ _ _ fun Q2 K => ?_)
      · have g0 := hS.no hs g
        refine c_X6_tells2 (by decide) hM h.rdm hS.zM (fun hb => absurd ⟨sh_x hs e1, p, hp, e2⟩ hb) (fun s2 p2 hs2 hp2 f1 f2 w => K _ _ _ h.gi) (fun s2 p2 z2 hs2 hp2 f1 f2 w => ?_) (fun s2 p2 z2 hs2 hp2 f1 f2 w => ?_)
        · have et := nI_two (by omega) (by omega) e1 f1
          subst et; exact absurd g0 w
        · have et := nI_two (by omega) (by omega) e1 f1
          subst et; exact absurd g0 w
      · have g1 := hS.yes hs g
        refine c_X6_tells2 (by decide) hM h.rdm hS.zM (fun hb => absurd ⟨sh_x hs e1, p, hp, e2⟩ hb) (fun s2 p2 hs2 hp2 f1 f2 w => ?_) (fun s2 p2 z2 hs2 hp2 f1 f2 w ez2 hn2 => K _ _ _ h.gi) (fun s2 p2 z2 hs2 hp2 f1 f2 w ez2 hn2 => ?_)
        · have et := nI_two (by omega) (by omega) e1 f1
          subst et; rw [g1.1] at w; exact absurd w (by decide)
        · have et := nI_two (by omega) (by omega) e1 f1
          subst et
          exfalso
          obtain ⟨zz, hzz, ezz⟩ := hz s2 hs
          rw [g1.2.2.1, ezz] at ez2
          rw [ezz] at ez
          have a1 := wrap40 hzz ez
          have a2 := wrap40 hzz ez2
          have a3 := hn
          have a4 := hn2
          omega
      · have g1 := hS.yes hs g
        have h9 := h.thx s9
        have eb : RbE I I9 := s9.rbe
        refine c_X6_tells2 (by decide) hM h9.rdm h9.2.2.2.2.2.zM (fun hb => absurd ⟨sh_x hs e1, p, hp, e2⟩ hb) (fun s2 p2 hs2 hp2 f1 f2 w => ?_) (fun s2 p2 z2 hs2 hp2 f1 f2 w ez2 hn2 => ?_) (fun s2 p2 z2 hs2 hp2 f1 f2 w ez2 hn2 rv2 J2 L2 sj er => ?_)
        · have et := nI_two (by omega) (by omega) e1 f1
          subst et; rw [s9 60 (by decide) (by decide) (by decide), g1.1] at w; exact absurd w (by decide)
        · have et := nI_two (by omega) (by omega) e1 f1
          subst et
          exfalso
          obtain ⟨zz, hzz, ezz⟩ := hz s2 hs
          rw [s9 62 (by decide) (by decide) (by decide), g1.2.2.1, ezz] at ez2
          rw [ezz] at ez
          have a1 := wrap40 hzz ez
          have a2 := wrap40 hzz ez2
          have a3 := hn
          have a4 := hn2
          omega
        · have et := nI_two (by omega) (by omega) e1 f1
          have eq := nI_two (by omega) (by omega) e2 f2
          subst et; subst eq
          have ezq : z2 = z := by
            rw [s9 62 (by decide) (by decide) (by decide), g1.2.2.1, ez] at ez2
            exact nI_small hn hn2 h6.1 ez2
          subst ezq
          have hz40 : z2 ≤ 40 := by omega
          have it : ∀ j, j < z2 → I (38 + 2 * s2 + 1) j = I9 63 (40 * s2 + j) := fun j hj => by rw [s9 63 (by decide) (by decide) (by decide)]; exact (g1.2.2.2 z2 ez hz40 j hj).symm
          have ev : rv2 = rv := by
            rw [er, er5]
            have ef : (fun v => foS (fun i => I9 63 (40 * s2 + i)) (rbM (iU I9 55 (2 * p2) (nI v)) (WA ru) p2) z2 0) = (fun v => foS (I (38 + 2 * s2 + 1)) (rbV (iU (blM I 28 10) 34 p2 (nI v)) 28 (qA ru) (aA ru) (bA ru) (mA ru) p2) z2 0) := funext fun v => (foS_con z2 0 (fun j _ hj => ⟨it j (by omega), h.rbT2 eb h.2.1.2 hp (by omega)⟩)).symm
            rw [ef]
            exact (tl_1 10 0 0 (-1) (by omega)).trans Int32.or_zero
          rw [ev]
          exact K _ _ _ (h9.saM sj).gi
    | 3, _ =>
      refine c_X5_tells3 (m := m) (N := N) (tA := tA) (qA := qA) (mA := mA) (aA := aA) (bA := bA) (by decide) hG h.rd h.cC.2.1 h6.2.1 h.tq hz h.txs h.2.2.2.1.2.1 h.2.2.2.1.1.2 (fun hb => H _ _ _ fun Q2 K => c_X6_tells3 (by decide) hM h.rdm hS.zM (fun _ => K _ _ _ h.gi) (fun s p hs hp e1 e2 => absurd ⟨sh_x hs e1, p, hp, e2⟩ hb) (fun s p z hs hp e1 e2 => absurd ⟨sh_x hs e1, p, hp, e2⟩ hb) (fun s p z hs hp e1 e2 => absurd ⟨sh_x hs e1, p, hp, e2⟩ hb)) (fun s p hs hp e1 e2 g => H _ _ _ fun Q2 K => ?_) (fun s p z hs hp e1 e2 g ez hn => H _ _ _ fun Q2 K => ?_) (fun s p z hs hp e1 e2 g ez hn rv I9 s9 er5 => H _ _ _ fun Q2 K => ?_)
      · have g0 := hS.no hs g
        refine c_X6_tells3 (by decide) hM h.rdm hS.zM (fun hb => absurd ⟨sh_x hs e1, p, hp, e2⟩ hb) (fun s2 p2 hs2 hp2 f1 f2 w => K _ _ _ h.gi) (fun s2 p2 z2 hs2 hp2 f1 f2 w => ?_) (fun s2 p2 z2 hs2 hp2 f1 f2 w => ?_)
        · have et := nI_two (by omega) (by omega) e1 f1
          subst et; exact absurd g0 w
        · have et := nI_two (by omega) (by omega) e1 f1
          subst et; exact absurd g0 w
      · have g1 := hS.yes hs g
        refine c_X6_tells3 (by decide) hM h.rdm hS.zM (fun hb => absurd ⟨sh_x hs e1, p, hp, e2⟩ hb) (fun s2 p2 hs2 hp2 f1 f2 w => ?_) (fun s2 p2 z2 hs2 hp2 f1 f2 w ez2 hn2 => K _ _ _ h.gi) (fun s2 p2 z2 hs2 hp2 f1 f2 w ez2 hn2 => ?_)
        · have et := nI_two (by omega) (by omega) e1 f1
          subst et; rw [g1.1] at w; exact absurd w (by decide)
        · have et := nI_two (by omega) (by omega) e1 f1
          subst et
          exfalso
          obtain ⟨zz, hzz, ezz⟩ := hz s2 hs
          rw [g1.2.2.1, ezz] at ez2
          rw [ezz] at ez
          have a1 := wrap40 hzz ez
          have a2 := wrap40 hzz ez2
          have a3 := hn
          have a4 := hn2
          omega
      · have g1 := hS.yes hs g
        have h9 := h.thx s9
        have eb : RbE I I9 := s9.rbe
        refine c_X6_tells3 (by decide) hM h9.rdm h9.2.2.2.2.2.zM (fun hb => absurd ⟨sh_x hs e1, p, hp, e2⟩ hb) (fun s2 p2 hs2 hp2 f1 f2 w => ?_) (fun s2 p2 z2 hs2 hp2 f1 f2 w ez2 hn2 => ?_) (fun s2 p2 z2 hs2 hp2 f1 f2 w ez2 hn2 rv2 J2 L2 sj er => ?_)
        · have et := nI_two (by omega) (by omega) e1 f1
          subst et; rw [s9 60 (by decide) (by decide) (by decide), g1.1] at w; exact absurd w (by decide)
        · have et := nI_two (by omega) (by omega) e1 f1
          subst et
          exfalso
          obtain ⟨zz, hzz, ezz⟩ := hz s2 hs
          rw [s9 62 (by decide) (by decide) (by decide), g1.2.2.1, ezz] at ez2
          rw [ezz] at ez
          have a1 := wrap40 hzz ez
          have a2 := wrap40 hzz ez2
          have a3 := hn
          have a4 := hn2
          omega
        · have et := nI_two (by omega) (by omega) e1 f1
          have eq := nI_two (by omega) (by omega) e2 f2
          subst et; subst eq
          have ezq : z2 = z := by
            rw [s9 62 (by decide) (by decide) (by decide), g1.2.2.1, ez] at ez2
            exact nI_small hn hn2 h6.1 ez2
          subst ezq
          have hz40 : z2 ≤ 40 := by omega
          have it : ∀ j, j < z2 → I (38 + 2 * s2 + 1) j = I9 63 (40 * s2 + j) := fun j hj => by rw [s9 63 (by decide) (by decide) (by decide)]; exact (g1.2.2.2 z2 ez hz40 j hj).symm
          have ev : rv2 = rv := by
            rw [er, er5]
            have ef : (fun v => foS (fun i => I9 63 (40 * s2 + i)) (rbM (iU I9 48 8 (nI v)) (WA ru) p2) z2 0) = (fun v => foS (I (38 + 2 * s2 + 1)) (rbV (iU (blM I 28 10) 28 2 (nI v)) 28 (qA ru) (aA ru) (bA ru) (mA ru) p2) z2 0) := funext fun v => (foS_con z2 0 (fun j _ hj => ⟨it j (by omega), h.rbT3 eb h.2.1.2 hp (by omega)⟩)).symm
            rw [ef]
            exact (tl_2 100 0 0 (-1)).trans (Int32.zero_add _)
          rw [ev]
          exact K _ _ _ (h9.saM sj).gi
    | 4, _ =>
      refine c_X5_tells4 (m := m) (N := N) (tA := tA) (qA := qA) (mA := mA) (aA := aA) (bA := bA) (by decide) hG h.rd h.cC.2.1 h6.2.1 h.tq hz h.txs h.2.2.2.1.2.1 h.2.2.2.1.1.2 (fun hb => H _ _ _ fun Q2 K => c_X6_tells4 (by decide) hM h.rdm hS.zM (fun _ => K _ _ _ h.gi) (fun s p hs hp e1 e2 => absurd ⟨sh_x hs e1, p, hp, e2⟩ hb) (fun s p z hs hp e1 e2 => absurd ⟨sh_x hs e1, p, hp, e2⟩ hb) (fun s p z hs hp e1 e2 => absurd ⟨sh_x hs e1, p, hp, e2⟩ hb)) (fun s p hs hp e1 e2 g => H _ _ _ fun Q2 K => ?_) (fun s p z hs hp e1 e2 g ez hn => H _ _ _ fun Q2 K => ?_) (fun s p z hs hp e1 e2 g ez hn rv I9 s9 er5 => H _ _ _ fun Q2 K => ?_)
      · have g0 := hS.no hs g
        refine c_X6_tells4 (by decide) hM h.rdm hS.zM (fun hb => absurd ⟨sh_x hs e1, p, hp, e2⟩ hb) (fun s2 p2 hs2 hp2 f1 f2 w => K _ _ _ h.gi) (fun s2 p2 z2 hs2 hp2 f1 f2 w => ?_) (fun s2 p2 z2 hs2 hp2 f1 f2 w => ?_)
        · have et := nI_two (by omega) (by omega) e1 f1
          subst et; exact absurd g0 w
        · have et := nI_two (by omega) (by omega) e1 f1
          subst et; exact absurd g0 w
      · have g1 := hS.yes hs g
        refine c_X6_tells4 (by decide) hM h.rdm hS.zM (fun hb => absurd ⟨sh_x hs e1, p, hp, e2⟩ hb) (fun s2 p2 hs2 hp2 f1 f2 w => ?_) (fun s2 p2 z2 hs2 hp2 f1 f2 w ez2 hn2 => K _ _ _ h.gi) (fun s2 p2 z2 hs2 hp2 f1 f2 w ez2 hn2 => ?_)
        · have et := nI_two (by omega) (by omega) e1 f1
          subst et; rw [g1.1] at w; exact absurd w (by decide)
        · have et := nI_two (by omega) (by omega) e1 f1
          subst et
          exfalso
          obtain ⟨zz, hzz, ezz⟩ := hz s2 hs
          rw [g1.2.2.1, ezz] at ez2
          rw [ezz] at ez
          have a1 := wrap40 hzz ez
          have a2 := wrap40 hzz ez2
          have a3 := hn
          have a4 := hn2
          omega
      · have g1 := hS.yes hs g
        have h9 := h.thx s9
        have eb : RbE I I9 := s9.rbe
        refine c_X6_tells4 (by decide) hM h9.rdm h9.2.2.2.2.2.zM (fun hb => absurd ⟨sh_x hs e1, p, hp, e2⟩ hb) (fun s2 p2 hs2 hp2 f1 f2 w => ?_) (fun s2 p2 z2 hs2 hp2 f1 f2 w ez2 hn2 => ?_) (fun s2 p2 z2 hs2 hp2 f1 f2 w ez2 hn2 rv2 J2 L2 sj er => ?_)
        · have et := nI_two (by omega) (by omega) e1 f1
          subst et; rw [s9 60 (by decide) (by decide) (by decide), g1.1] at w; exact absurd w (by decide)
        · have et := nI_two (by omega) (by omega) e1 f1
          subst et
          exfalso
          obtain ⟨zz, hzz, ezz⟩ := hz s2 hs
          rw [s9 62 (by decide) (by decide) (by decide), g1.2.2.1, ezz] at ez2
          rw [ezz] at ez
          have a1 := wrap40 hzz ez
          have a2 := wrap40 hzz ez2
          have a3 := hn
          have a4 := hn2
          omega
        · have et := nI_two (by omega) (by omega) e1 f1
          have eq := nI_two (by omega) (by omega) e2 f2
          subst et; subst eq
          have ezq : z2 = z := by
            rw [s9 62 (by decide) (by decide) (by decide), g1.2.2.1, ez] at ez2
            exact nI_small hn hn2 h6.1 ez2
          subst ezq
          have hz40 : z2 ≤ 40 := by omega
          have it : ∀ j, j < z2 → I (38 + 2 * s2 + 1) j = I9 63 (40 * s2 + j) := fun j hj => by rw [s9 63 (by decide) (by decide) (by decide)]; exact (g1.2.2.2 z2 ez hz40 j hj).symm
          have ev : rv2 = rv := by
            rw [er, er5]
            have ef : (fun v => foS (fun i => I9 63 (40 * s2 + i)) (rbM (iU I9 48 8 (nI v)) (WA ru) p2) z2 0) = (fun v => foS (I (38 + 2 * s2 + 1)) (rbV (iU (blM I 28 10) 28 2 (nI v)) 28 (qA ru) (aA ru) (bA ru) (mA ru) p2) z2 0) := funext fun v => (foS_con z2 0 (fun j _ hj => ⟨it j (by omega), h.rbT3 eb h.2.1.2 hp (by omega)⟩)).symm
            rw [ef]
            refine (tl_3 100 0 0 (-1) (by omega)).trans ?_
            split
            · rename_i q; exact q.symm
            · rfl
          rw [ev]
          exact K _ _ _ (h9.saM sj).gi
    | 5, _ =>
      refine c_X5_tells5 (m := m) (N := N) (tA := tA) (qA := qA) (mA := mA) (aA := aA) (bA := bA) (by decide) hG h.rd h.cC.2.1 h6.2.1 h.tq hz h.txs h.2.2.2.1.2.1 h.2.2.2.1.1.2 (fun hb => H _ _ _ fun Q2 K => c_X6_tells5 (WA := WA) (N := N) (by decide) hM h.rdm hS.zM h.txm h.2.2.2.1.2.2.1 h.2.2.2.1.1.2 (fun _ => K _ _ _ h.gi) (fun s p hs hp e1 e2 => absurd ⟨sh_x hs e1, p, hp, e2⟩ hb) (fun s p z hs hp e1 e2 => absurd ⟨sh_x hs e1, p, hp, e2⟩ hb) (fun s p z hs hp e1 e2 => absurd ⟨sh_x hs e1, p, hp, e2⟩ hb)) (fun s p hs hp e1 e2 g => H _ _ _ fun Q2 K => ?_) (fun s p z hs hp e1 e2 g ez hn => H _ _ _ fun Q2 K => ?_) (fun s p z hs hp e1 e2 g ez hn rv I9 s9 er5 => H _ _ _ fun Q2 K => ?_)
      · have g0 := hS.no hs g
        refine c_X6_tells5 (WA := WA) (N := N) (by decide) hM h.rdm hS.zM h.txm h.2.2.2.1.2.2.1 h.2.2.2.1.1.2 (fun hb => absurd ⟨sh_x hs e1, p, hp, e2⟩ hb) (fun s2 p2 hs2 hp2 f1 f2 w => K _ _ _ h.gi) (fun s2 p2 z2 hs2 hp2 f1 f2 w => ?_) (fun s2 p2 z2 hs2 hp2 f1 f2 w => ?_)
        · have et := nI_two (by omega) (by omega) e1 f1
          subst et; exact absurd g0 w
        · have et := nI_two (by omega) (by omega) e1 f1
          subst et; exact absurd g0 w
      · have g1 := hS.yes hs g
        refine c_X6_tells5 (WA := WA) (N := N) (by decide) hM h.rdm hS.zM h.txm h.2.2.2.1.2.2.1 h.2.2.2.1.1.2 (fun hb => absurd ⟨sh_x hs e1, p, hp, e2⟩ hb) (fun s2 p2 hs2 hp2 f1 f2 w => ?_) (fun s2 p2 z2 hs2 hp2 f1 f2 w ez2 hn2 => K _ _ _ h.gi) (fun s2 p2 z2 hs2 hp2 f1 f2 w ez2 hn2 => ?_)
        · have et := nI_two (by omega) (by omega) e1 f1
          subst et; rw [g1.1] at w; exact absurd w (by decide)
        · have et := nI_two (by omega) (by omega) e1 f1
          subst et
          exfalso
          obtain ⟨zz, hzz, ezz⟩ := hz s2 hs
          rw [g1.2.2.1, ezz] at ez2
          rw [ezz] at ez
          have a1 := wrap40 hzz ez
          have a2 := wrap40 hzz ez2
          have a3 := hn
          have a4 := hn2
          omega
      · have g1 := hS.yes hs g
        have h9 := h.thx s9
        have eb : RbE I I9 := s9.rbe
        refine c_X6_tells5 (WA := WA) (N := N) (by decide) hM h9.rdm h9.2.2.2.2.2.zM h9.txm h9.2.2.2.1.2.2.1 h9.2.2.2.1.1.2 (fun hb => absurd ⟨sh_x hs e1, p, hp, e2⟩ hb) (fun s2 p2 hs2 hp2 f1 f2 w => ?_) (fun s2 p2 z2 hs2 hp2 f1 f2 w ez2 hn2 => ?_) (fun s2 p2 z2 hs2 hp2 f1 f2 w ez2 hn2 rv2 J2 L2 sj er => ?_)
        · have et := nI_two (by omega) (by omega) e1 f1
          subst et; rw [s9 60 (by decide) (by decide) (by decide), g1.1] at w; exact absurd w (by decide)
        · have et := nI_two (by omega) (by omega) e1 f1
          subst et
          exfalso
          obtain ⟨zz, hzz, ezz⟩ := hz s2 hs
          rw [s9 62 (by decide) (by decide) (by decide), g1.2.2.1, ezz] at ez2
          rw [ezz] at ez
          have a1 := wrap40 hzz ez
          have a2 := wrap40 hzz ez2
          have a3 := hn
          have a4 := hn2
          omega
        · have et := nI_two (by omega) (by omega) e1 f1
          have eq := nI_two (by omega) (by omega) e2 f2
          subst et; subst eq
          have ezq : z2 = z := by
            rw [s9 62 (by decide) (by decide) (by decide), g1.2.2.1, ez] at ez2
            exact nI_small hn hn2 h6.1 ez2
          subst ezq
          have hz40 : z2 ≤ 40 := by omega
          have it : ∀ j, j < z2 → I (38 + 2 * s2 + 1) j = I9 63 (40 * s2 + j) := fun j hj => by rw [s9 63 (by decide) (by decide) (by decide)]; exact (g1.2.2.2 z2 ez hz40 j hj).symm
          have ev : rv2 = rv := by
            rw [er, er5]
            refine ((tl_1 N 0 0 (-1) (by have := h.2.2.2.1.1.2; omega)).trans Int32.or_zero).trans ?_
            refine bt_con N 0 0 (fun v _ hv => (foS_con z2 0 (fun j _ hj => ⟨it j (by omega), h.rbT5 eb (by omega) hp (by omega)⟩)).symm)
          rw [ev]
          exact K _ _ _ (h9.saM sj).gi
    | 6, _ =>
      refine c_X5_tells6 (m := m) (N := N) (tA := tA) (qA := qA) (mA := mA) (aA := aA) (bA := bA) (by decide) hG h.rd h.cC.2.1 h6.2.1 h.tq hz h.txs h.2.2.2.1.2.1 h.2.2.2.1.1.2 (fun hb => H _ _ _ fun Q2 K => c_X6_tells6 (by decide) hM h.rdm hS.zM (fun _ => K _ _ _ h.gi) (fun s p hs hp e1 e2 => absurd ⟨sh_x hs e1, p, hp, e2⟩ hb) (fun s p z hs hp e1 e2 => absurd ⟨sh_x hs e1, p, hp, e2⟩ hb) (fun s p z hs hp e1 e2 => absurd ⟨sh_x hs e1, p, hp, e2⟩ hb)) (fun s p hs hp e1 e2 g => H _ _ _ fun Q2 K => ?_) (fun s p z hs hp e1 e2 g ez hn => H _ _ _ fun Q2 K => ?_) (fun s p z hs hp e1 e2 g ez hn rv I9 s9 er5 => H _ _ _ fun Q2 K => ?_)
      · have g0 := hS.no hs g
        refine c_X6_tells6 (by decide) hM h.rdm hS.zM (fun hb => absurd ⟨sh_x hs e1, p, hp, e2⟩ hb) (fun s2 p2 hs2 hp2 f1 f2 w => K _ _ _ h.gi) (fun s2 p2 z2 hs2 hp2 f1 f2 w => ?_) (fun s2 p2 z2 hs2 hp2 f1 f2 w => ?_)
        · have et := nI_two (by omega) (by omega) e1 f1
          subst et; exact absurd g0 w
        · have et := nI_two (by omega) (by omega) e1 f1
          subst et; exact absurd g0 w
      · have g1 := hS.yes hs g
        refine c_X6_tells6 (by decide) hM h.rdm hS.zM (fun hb => absurd ⟨sh_x hs e1, p, hp, e2⟩ hb) (fun s2 p2 hs2 hp2 f1 f2 w => ?_) (fun s2 p2 z2 hs2 hp2 f1 f2 w ez2 hn2 => K _ _ _ h.gi) (fun s2 p2 z2 hs2 hp2 f1 f2 w ez2 hn2 => ?_)
        · have et := nI_two (by omega) (by omega) e1 f1
          subst et; rw [g1.1] at w; exact absurd w (by decide)
        · have et := nI_two (by omega) (by omega) e1 f1
          subst et
          exfalso
          obtain ⟨zz, hzz, ezz⟩ := hz s2 hs
          rw [g1.2.2.1, ezz] at ez2
          rw [ezz] at ez
          have a1 := wrap40 hzz ez
          have a2 := wrap40 hzz ez2
          have a3 := hn
          have a4 := hn2
          omega
      · have g1 := hS.yes hs g
        have h9 := h.thx s9
        have eb : RbE I I9 := s9.rbe
        refine c_X6_tells6 (by decide) hM h9.rdm h9.2.2.2.2.2.zM (fun hb => absurd ⟨sh_x hs e1, p, hp, e2⟩ hb) (fun s2 p2 hs2 hp2 f1 f2 w => ?_) (fun s2 p2 z2 hs2 hp2 f1 f2 w ez2 hn2 => ?_) (fun s2 p2 z2 hs2 hp2 f1 f2 w ez2 hn2 rv2 J2 L2 sj er => ?_)
        · have et := nI_two (by omega) (by omega) e1 f1
          subst et; rw [s9 60 (by decide) (by decide) (by decide), g1.1] at w; exact absurd w (by decide)
        · have et := nI_two (by omega) (by omega) e1 f1
          subst et
          exfalso
          obtain ⟨zz, hzz, ezz⟩ := hz s2 hs
          rw [s9 62 (by decide) (by decide) (by decide), g1.2.2.1, ezz] at ez2
          rw [ezz] at ez
          have a1 := wrap40 hzz ez
          have a2 := wrap40 hzz ez2
          have a3 := hn
          have a4 := hn2
          omega
        · have et := nI_two (by omega) (by omega) e1 f1
          have eq := nI_two (by omega) (by omega) e2 f2
          subst et; subst eq
          have ezq : z2 = z := by
            rw [s9 62 (by decide) (by decide) (by decide), g1.2.2.1, ez] at ez2
            exact nI_small hn hn2 h6.1 ez2
          subst ezq
          have hz40 : z2 ≤ 40 := by omega
          have it : ∀ j, j < z2 → I (38 + 2 * s2 + 1) j = I9 63 (40 * s2 + j) := fun j hj => by rw [s9 63 (by decide) (by decide) (by decide)]; exact (g1.2.2.2 z2 ez hz40 j hj).symm
          have ev : rv2 = rv := by
            rw [er, er5]
            refine bt_con m 0 0 (fun v _ hv => (foS_con z2 0 (fun j _ hj => ⟨it j (by omega), h.rbJ eb (by omega) (by omega)⟩)).symm)
          rw [ev]
          exact K _ _ _ (h9.saM sj).gi
  · refine c_X5_tellsX (by decide) hG hx (H _ _ _ fun Q2 K => ?_)
    exact c_X6_tellsX (by decide) hM h.rdm hx (K _ _ _ h.gi)
