/-! ===== pairs: sheets ===== -/
theorem beM_o {I : Mi} {a n b j : Nat} {s : Int32} (h : b ≠ a ∧ b ≠ a + 1) : beM I a s n b j = I b j := by
  unfold beM flR
  simp only [rU, h.2, if_false]
  rw [iU_at (by omega), iU_at (by omega)]
theorem beM_1 {I : Mi} {a n : Nat} {s : Int32} : beM I a s n a 1 = s := by
  unfold beM flR
  simp only [rU, show ¬ a = a + 1 by omega, if_false]
  rw [iU_at (by omega), iU_same]
theorem beM_2 {I : Mi} {a n : Nat} {s : Int32} : beM I a s n a 2 = nI n := by
  unfold beM flR
  simp only [rU, show ¬ a = a + 1 by omega, if_false]
  rw [iU_same]
theorem beM_i {I : Mi} {a n j : Nat} {s : Int32} (hj : j < 40) : beM I a s n (a + 1) j = 0 := by
  unfold beM flR
  simp only [rU, if_true, hj]
theorem smM_o {I : Mi} {s b j : Nat} {x y k : Int32} (h : ¬ ((b = 60 ∨ b = 61 ∨ b = 62) ∧ j = s)) : smM I s x y k b j = I b j := by
  unfold smM
  rw [iU_at (by omega), iU_at (by omega), iU_at (by omega)]
theorem smM_s {I : Mi} {s : Nat} {x y k : Int32} : smM I s x y k 60 s = x ∧ smM I s x y k 61 s = y ∧ smM I s x y k 62 s = k := by
  unfold smM
  refine ⟨?_, ?_, ?_⟩
  · rw [iU_at (by omega), iU_at (by omega), iU_same]
  · rw [iU_at (by omega), iU_same]
  · rw [iU_same]
theorem zrM_o {I : Mi} {s n b j : Nat} (h : ¬ (b = 63 ∧ 40 * s ≤ j ∧ j < 40 * s + n)) : zrM I s n b j = I b j := by
  unfold zrM rU
  by_cases hb : b = 63
  · subst hb
    simp only [if_true]
    rw [if_neg (by omega)]
  · simp only [hb, if_false]
theorem zrM_i {I : Mi} {s n j : Nat} (hj : j < n) : zrM I s n 63 (40 * s + j) = 0 := by
  unfold zrM rU
  simp only [if_true]
  rw [if_pos (by omega)]
theorem nI_two {s t : Nat} {x : Int32} (hs : s < 1000) (ht : t < 1000) (h1 : x = nI s) (h2 : x = nI t) : t = s := (nI_eq (by omega) (by omega)).mp (h2.symm.trans h1)
theorem pr_sheet {E : Ev} {I : Mi} {L : Ml} {Z : Mz} {Q : Po} {x y z : Int32} (hI : GI I Z) (H : ∀ (rv : Int32) (I1 : Mi) (L1 : Ml), MD E yX6_sheet cX6_sheet 5 (some .int) [.ref 48, .int x, .int y, .int z] (some (.int rv)) I1 L1 Z → Q (some (.int rv)) I1 L1 Z) : AC E yX5_sheet cX5_sheet 4 (some .int) 60 0 0 [.ref 0, .int x, .int y, .int z] I L Z Q := by
  obtain ⟨n, m, r, ru, N, k, tA, qA, mA, aA, bA, WA, h⟩ := hI
  have hG : GZ Z := h.1.1
  have hM : MZ Z := h.1.2.1
  have h6 := h.n6
  have hS := h.2.2.2.2.2
  refine c_X5_sheet (by decide) hG (fun hb => H _ _ _ fun Q2 K => c_X6_sheet (by decide) hM (fun _ => K _ _ _ h.gi) (fun s hs e g _ => absurd ⟨by rw [e]; exact ⟨nI_pos (by omega), nI_nlt (a := 3) (by omega) (by decide)⟩, g⟩ hb) (fun g1 g2 _ _ => absurd ⟨g1, g2⟩ hb) (fun g1 g2 _ _ _ => absurd ⟨g1, g2⟩ hb) (fun s n hs hn e _ g _ => absurd ⟨by rw [e]; exact ⟨nI_pos (by omega), nI_nlt (a := 3) (by omega) (by decide)⟩, g⟩ hb)) (fun s hs e g gm => H _ _ _ fun Q2 K => c_X6_sheet (by decide) hM (fun hb => absurd ⟨by rw [e]; exact ⟨nI_pos (by omega), nI_nlt (a := 3) (by omega) (by decide)⟩, g⟩ hb) (fun t ht e2 _ _ => ?_) (fun _ _ w => absurd gm w) (fun _ _ w => absurd gm w) (fun _ _ _ _ _ _ _ w => absurd gm w)) (fun g1 g2 g3 g4 => H _ _ _ fun Q2 K => c_X6_sheet (by decide) hM (fun hb => absurd ⟨g1, g2⟩ hb) (fun _ _ _ _ w => absurd w g3) (fun _ _ _ _ => K _ _ _ h.gi) (fun _ _ _ w => absurd w g4) (fun _ n _ hn _ e _ _ => absurd (by rw [e]; exact nI_le (b := 40) hn (by decide)) g4)) (fun g1 g2 g3 g4 g5 => H _ _ _ fun Q2 K => c_X6_sheet (by decide) hM (fun hb => absurd ⟨g1, g2⟩ hb) (fun _ _ _ _ w => absurd w g3) (fun _ _ _ w => absurd g4 w) (fun _ _ _ _ _ => K _ _ _ h.gi) (fun _ n _ hn _ e _ _ => absurd (by rw [e]; exact nI_pos' (by omega)) g5)) (fun s n hs hn e ez g gm => H _ _ _ fun Q2 K => c_X6_sheet (by decide) hM (fun hb => absurd ⟨by rw [e]; exact ⟨nI_pos (by omega), nI_nlt (a := 3) (by omega) (by decide)⟩, g⟩ hb) (fun _ _ _ _ w => absurd w gm) (fun _ _ _ w => absurd (by rw [ez]; exact nI_le (b := 40) hn (by decide)) w) (fun _ _ _ _ w => absurd (by rw [ez]; exact nI_pos' (by omega)) w) (fun t n2 ht hn2 e2 ez2 _ _ => ?_))
  · have et : t = s := nI_two (by omega) (by omega) e e2
    subst et
    refine K _ _ _ (h.she (fun u hu => ?_) (fun a j w g1 g2 => by rw [smM_o (by omega), beM_o (by omega)])).gi
    by_cases eu : u = t
    · subst eu
      refine ⟨⟨0, by decide, ?_⟩, Or.inl ⟨?_, smM_s.1⟩⟩
      · rw [smM_o (by omega), beM_2]
      · rw [smM_o (by omega), beM_1]
    · exact (hS u hu).eqv hu (fun a j w => by rw [smM_o (by omega), beM_o (by omega)])
  · have et : t = s := nI_two (by omega) (by omega) e e2
    have en : n2 = n := nI_two (by omega) (by omega) ez ez2
    subst et
    subst en
    refine K _ _ _ (h.she (fun u hu => ?_) (fun a j w g1 g2 => by rw [zrM_o (by omega), smM_o (by omega), beM_o (by omega)])).gi
    by_cases eu : u = t
    · subst eu
      refine ⟨⟨n2, hn2, ?_⟩, Or.inr ⟨?_, ?_, ?_, ?_, fun z ez9 hz j hj => ?_⟩⟩
      · rw [zrM_o (by omega), smM_o (by omega), beM_2]
      · rw [zrM_o (by omega), smM_o (by omega), beM_1]; exact gm
      · rw [zrM_o (by omega)]; exact smM_s.1
      · rw [zrM_o (by omega), zrM_o (by omega), smM_s.2.1, smM_o (by omega), beM_1]
      · rw [zrM_o (by omega), zrM_o (by omega), smM_s.2.2, smM_o (by omega), beM_2]
      · rw [zrM_o (by omega), smM_o (by omega), beM_2] at ez9
        have ezz : n2 = z := (nI_eq (by omega) (by omega)).mp ez9
        rw [zrM_i (by omega), zrM_o (by omega), smM_o (by omega), beM_i (by omega)]
    · exact (hS u hu).eqv hu (fun a j w => by rw [zrM_o (by omega), smM_o (by omega), beM_o (by omega)])
theorem SheR.zM {I : Mi} (h : SheR I) : ∀ s, s < 4 → ¬ I 60 s = 0 → ∃ z, z ≤ 40 ∧ I 62 s = nI z := by
  intro s hs g
  obtain ⟨⟨z, hz, e⟩, w⟩ := h s hs
  rcases w with ⟨w1, w2⟩ | ⟨w1, w2, w3, w4, w5⟩
  · exact absurd w2 g
  · exact ⟨z, hz, w4.trans e⟩
theorem SheR.yes {I : Mi} (h : SheR I) {s : Nat} (hs : s < 4) (g : ¬ I (38 + 2 * s) 1 = -1) : I 60 s = 1 ∧ I 61 s = I (38 + 2 * s) 1 ∧ I 62 s = I (38 + 2 * s) 2 ∧ ∀ z, I (38 + 2 * s) 2 = nI z → z ≤ 40 → ∀ j, j < z → I 63 (40 * s + j) = I (38 + 2 * s + 1) j := by
  obtain ⟨-, w⟩ := h s hs
  rcases w with ⟨w1, w2⟩ | ⟨w1, w2⟩
  · exact absurd w1 g
  · exact w2
theorem SheR.no {I : Mi} (h : SheR I) {s : Nat} (hs : s < 4) (g : I (38 + 2 * s) 1 = -1) : I 60 s = 0 := by
  obtain ⟨-, w⟩ := h s hs
  rcases w with ⟨w1, w2⟩ | ⟨w1, w2⟩
  · exact w2
  · exact absurd g w1
theorem one_ne0 {x : Int32} (h : x = 1) : ¬ x = 0 := by rw [h]; decide
theorem pr_cell {E : Ev} {I : Mi} {L : Ml} {Z : Mz} {Q : Po} {x y z : Int32} (hI : GI I Z) (H : ∀ (rv : Int32) (I1 : Mi) (L1 : Ml), MD E yX6_cell cX6_cell 4 (some .int) [.ref 48, .int x, .int y, .int z] (some (.int rv)) I1 L1 Z → Q (some (.int rv)) I1 L1 Z) : AC E yX5_cell cX5_cell 5 (some .int) 60 0 0 [.ref 0, .int x, .int y, .int z] I L Z Q := by
  obtain ⟨n, m, r, ru, N, k, tA, qA, mA, aA, bA, WA, h⟩ := hI
  have hG : GZ Z := h.1.1
  have hM : MZ Z := h.1.2.1
  have h6 := h.n6
  have hS := h.2.2.2.2.2
  refine c_X5_cell (by decide) hG (fun s hs => (hS s hs).1) (fun hb => H _ _ _ fun Q2 K => c_X6_cell (by decide) hM hS.zM (fun _ => K _ _ _ h.gi) (fun s hs e _ => absurd (by rw [e]; exact ⟨nI_pos (by omega), nI_nlt (a := 3) (by omega) (by decide)⟩) hb) (fun s hs e _ _ _ _ _ => absurd (by rw [e]; exact ⟨nI_pos (by omega), nI_nlt (a := 3) (by omega) (by decide)⟩) hb) (fun s hs e _ _ _ _ _ _ _ => absurd (by rw [e]; exact ⟨nI_pos (by omega), nI_nlt (a := 3) (by omega) (by decide)⟩) hb)) (fun s hs e g => H _ _ _ fun Q2 K => ?_) (fun s hs e g q eq hq hn => H _ _ _ fun Q2 K => ?_) (fun s hs e g q eq hq j hj ej => H _ _ _ fun Q2 K => ?_)
  · have hx : ¬ x < 0 ∧ ¬ 3 < x := by rw [e]; exact ⟨nI_pos (by omega), nI_nlt (a := 3) (by omega) (by decide)⟩
    refine c_X6_cell (by decide) hM hS.zM (fun w => absurd hx w) (fun _ _ _ _ => K _ _ _ h.gi) (fun t ht e2 w _ _ _ _ => ?_) (fun t ht e2 w _ _ _ _ _ _ => ?_)
    · have et := nI_two (by omega) (by omega) e e2; subst et; exact absurd (hS.no hs g) w
    · have et := nI_two (by omega) (by omega) e e2; subst et; exact absurd (hS.no hs g) w
  · have hx : ¬ x < 0 ∧ ¬ 3 < x := by rw [e]; exact ⟨nI_pos (by omega), nI_nlt (a := 3) (by omega) (by decide)⟩
    obtain ⟨y1, y2, y3, y4⟩ := hS.yes hs g
    refine c_X6_cell (by decide) hM hS.zM (fun w => absurd hx w) (fun t ht e2 w => ?_) (fun _ _ _ _ _ _ _ _ => K _ _ _ h.gi) (fun t ht e2 w p ep hp j hj ej => ?_)
    · have et := nI_two (by omega) (by omega) e e2; subst et; exact absurd w (one_ne0 y1)
    · have et := nI_two (by omega) (by omega) e e2
      subst et
      have epq : p = q := nI_two (by omega) (by omega) (y3.trans eq) ep
      exact absurd ⟨j, by omega, ej⟩ hn
  · have hx : ¬ x < 0 ∧ ¬ 3 < x := by rw [e]; exact ⟨nI_pos (by omega), nI_nlt (a := 3) (by omega) (by decide)⟩
    obtain ⟨y1, y2, y3, y4⟩ := hS.yes hs g
    refine c_X6_cell (by decide) hM (fun t ht w => by rw [iU_at (by omega)] at w ⊢; exact hS.zM t ht w) (fun w => absurd hx w) (fun t ht e2 w => ?_) (fun t ht e2 w p ep hp hn => ?_) (fun t ht e2 w p ep hp j2 hj2 ej2 => ?_)
    · have et := nI_two (by omega) (by omega) e e2; subst et; rw [iU_at (by omega)] at w; exact absurd w (one_ne0 y1)
    · have et := nI_two (by omega) (by omega) e e2
      subst et
      rw [iU_at (by omega)] at ep
      have epq : p = q := nI_two (by omega) (by omega) (y3.trans eq) ep
      exact absurd ⟨j, by omega, ej⟩ hn
    · have et := nI_two (by omega) (by omega) e e2
      subst et
      have ejj : j2 = j := nI_two (by omega) (by omega) ej ej2
      subst ejj
      rw [iU_at (show ¬ (61 = 38 + 2 * t + 1 ∧ t = j2) by omega), y2]
      refine K _ _ _ (h.she (fun u hu => ?_) (fun a i w g1 g2 => by rw [iU_at (by omega), iU_at (by omega)])).gi
      by_cases eu : u = t
      · subst eu
        refine ⟨⟨q, hq, by rw [iU_at (by omega), iU_at (by omega)]; exact eq⟩, Or.inr ⟨by rw [iU_at (by omega), iU_at (by omega)]; exact g, by rw [iU_at (by omega), iU_at (by omega)]; exact y1, by rw [iU_at (by omega), iU_at (by omega), iU_at (by omega), iU_at (by omega)]; exact y2, by rw [iU_at (by omega), iU_at (by omega), iU_at (by omega), iU_at (by omega)]; exact y3, fun p ep hp i hi => ?_⟩⟩
        rw [iU_at (by omega), iU_at (by omega)] at ep
        by_cases ei : i = j2
        · subst ei; rw [iU_same, iU_at (by omega), iU_same]
        · rw [iU_at (by omega), iU_at (by omega), iU_at (by omega), iU_at (by omega)]; exact y4 p ep hp i hi
      · exact (hS u hu).eqv hu (fun a i w => by rw [iU_at (by omega), iU_at (by omega)])
