/-! ===== two memories that are alike as far as a house goes ===== -/
abbrev fld (k : Nat) : Prop := k = 1 ∨ k = 2 ∨ k = 3 ∨ k = 6 ∨ k = 9 ∨ k = 13
def EqvH (h q : Nat) (M M' : Mi) : Prop := (∀ k, fld k → M' h k = M h k) ∧ (∀ k j, 1 ≤ k → k ≤ 7 → j < lnH k → M' (h + k) j = M (h + k) j) ∧ M' q = M q
theorem EqvH.rf {h q : Nat} {M : Mi} : EqvH h q M M := ⟨fun _ _ => rfl, fun _ _ _ _ _ => rfl, rfl⟩
theorem EqvH.up {h q : Nat} {M M' : Mi} (e : EqvH h q M M') {a : Nat} (ha : a ≠ q) (k : Nat) (x : Int32) : EqvH h q (iU M a k x) (iU M' a k x) := by
  refine ⟨fun j hj => ?_, fun i j h1 h2 hj => ?_, ?_⟩
  · simp only [iU]; split
    · rfl
    · exact e.1 j hj
  · simp only [iU]; split
    · rfl
    · exact e.2.1 i j h1 h2 hj
  · funext j
    simp only [iU, show ¬ q = a from fun z => ha z.symm, false_and, if_false]
    rw [e.2.2]
theorem EqvH.rl {h q : Nat} {M M' : Mi} (e : EqvH h q M M') {ma mb mm x p c : Nat} (hp : p < 5) (hc : c < 6) : rlC M' h q ma mb mm x p c = rlC M h q ma mb mm x p c := by
  simp only [rlC, e.2.2, e.2.1 1 c (by decide) (by decide) hc, e.2.1 2 c (by decide) (by decide) hc, e.2.1 6 p (by decide) (by decide) hp, e.2.1 7 p (by decide) (by decide) hp, e.1 2 (by omega)]
theorem EqvH.rn {h q : Nat} {M M' : Mi} (e : EqvH h q M M') {ma mb mm x p : Nat} (hp : p < 5) : rlN M' h q ma mb mm x p = rlN M h q ma mb mm x p := by
  simp only [rlN, e.2.2, e.2.1 6 p (by decide) (by decide) hp, e.2.1 7 p (by decide) (by decide) hp, e.1 2 (by omega)]
theorem EqvH.rb {h q : Nat} {M M' : Mi} (e : EqvH h q M M') {ma mb mm p c : Nat} (hp : p < 5) (hc : c < 6) : rbV M' h q ma mb mm p c = rbV M h q ma mb mm p c := by
  simp only [rbV, e.rl hp hc, e.2.1 1 c (by decide) (by decide) hc, e.2.1 2 c (by decide) (by decide) hc, e.2.1 5 p (by decide) (by decide) hp, e.2.1 6 p (by decide) (by decide) hp, e.1 2 (by omega)]
theorem EqvH.sd {h q : Nat} {M M' : Mi} (e : EqvH h q M M') {ma mb mm p : Nat} (hp : p < 5) : sdP M' h q ma mb mm p ↔ sdP M h q ma mb mm p := by
  simp only [sdP, e.rn hp, e.2.1 5 p (by decide) (by decide) hp, e.2.1 7 p (by decide) (by decide) hp]
theorem EqvH.ro {h q : Nat} {M M' : Mi} (e : EqvH h q M M') {r p c : Nat} {v : Int32} (hp : p < 5) (hc : c < 6) (hq : q < h ∨ h + 7 < q) : EqvH h q (roM M h r p c v) (roM M' h r p c v) := by
  unfold roM
  rw [e.2.1 2 c (by decide) (by decide) hc, e.2.1 7 p (by decide) (by decide) hp, e.1 2 (by omega)]
  by_cases hv : v = 0
  · rw [if_pos hv, if_pos hv]
    exact ((((e.up (by omega) _ _).up (by omega) _ _).up (by omega) _ _).up (by omega) _ _).up (by omega) _ _
  · rw [if_neg hv, if_neg hv]
    exact (((e.up (by omega) _ _).up (by omega) _ _).up (by omega) _ _).up (by omega) _ _
theorem EqvH.fo {h q : Nat} {M M' : Mi} (e : EqvH h q M M') {r : Nat} (hr : r ≤ 12) {lo x : Int32} : foH M' h r lo x = foH M h r lo x :=
  foX_congr fun k hk => ⟨e.2.1 3 k (by decide) (by decide) (Nat.lt_of_lt_of_le hk hr), e.2.1 4 k (by decide) (by decide) (Nat.lt_of_lt_of_le hk hr)⟩
theorem EqvH.dr {h q ma mb mm n m : Nat} (hm : m ≤ 5) (hn : n ≤ 6) (hq : q < h ∨ h + 7 < q) : ∀ (k : Nat) (s : Int32) (M M' : Mi), EqvH h q M M' → EqvH h q (drF h q ma mb mm n m k s M) (drF h q ma mb mm n m k s M') := by
  intro k
  induction k with
  | zero => intro s M M' e; exact e
  | succ k ih =>
    intro s M M' e
    simp only [drF]
    rw [e.1 9 (by omega)]
    split
    · exact e
    · by_cases hc : (dwP (s * 1103515245 + 12345) < m ∧ dwP ((s * 1103515245 + 12345) * 1103515245 + 12345) < n) ∧ sdP M h q ma mb mm (dwP (s * 1103515245 + 12345))
      · rw [if_pos hc, if_pos ⟨hc.1, (e.sd (by omega)).mpr hc.2⟩, e.rb (by omega) (by omega)]
        exact ih _ _ _ (e.ro (by omega) (by omega) hq)
      · rw [if_neg hc]
        rw [if_neg (fun z => hc ⟨z.1, (e.sd (by omega)).mp z.2⟩)]
        exact ih _ _ _ e
theorem drF_9 {h q ma mb mm n m : Nat} : ∀ (k : Nat) (s : Int32) (M : Mi), (∃ r, r ≤ 12 ∧ M h 9 = nI r) → ∃ r, r ≤ 12 ∧ drF h q ma mb mm n m k s M h 9 = nI r := by
  intro k
  induction k with
  | zero => intro s M hM; exact hM
  | succ k ih =>
    intro s M hM
    simp only [drF]
    split
    · exact hM
    · rename_i h12
      split
      · obtain ⟨r, hr, e⟩ := hM
        rw [e, nI_clamp (by omega)] at h12
        refine ih _ _ ⟨r + 1, by omega, ?_⟩
        rw [roM_9, e, nI_clamp (by omega)]
      · exact ih _ _ hM
theorem fdV_ths {I I' : Mi} {q ma mb mm n m N r : Nat} {s : Int32} (t : ThS I I') (hq : 45 < q) (hm : m ≤ 5) (hn : n ≤ 6) (hr : r ≤ 12) (hrn : I 10 9 = nI r) : fdV I' q ma mb mm n m N s = fdV I q ma mb mm n m N s := by
  have e0 : EqvH 28 q (blM I 28 10) (blM I' 28 10) := by
    refine ⟨fun k hk => ?_, fun k j h1 h2 hj => ?_, ?_⟩
    · rw [blM_f hk, blM_f hk, t 10 (by decide) (by decide)]
    · rw [blM_a (by decide) ⟨h1, h2⟩ hj, blM_a (by decide) ⟨h1, h2⟩ hj, t (10 + k) (by omega) (by omega)]
    · rw [blM_row (by omega), blM_row (by omega), t q (by omega) (by omega)]
  have e := EqvH.dr (ma := ma) (mb := mb) (mm := mm) hm hn (by omega) N s _ _ e0
  obtain ⟨r', hr', er⟩ := drF_9 (h := 28) (q := q) (ma := ma) (mb := mb) (mm := mm) (n := n) (m := m) N s (blM I 28 10) ⟨r, hr, by rw [blM_f (by omega)]; exact hrn⟩
  unfold fdV
  rw [e.1 9 (by omega), e.1 1 (by omega), er, nI_clamp (by omega), e.fo hr']
def chF (f : Int32 → Int32) (k : Int32) (sd : Int32) : Nat → Nat → Nat → Nat
  | 0, _, a => a
  | n + 1, j, a => chF f k sd n (j + 1) (if f (sd + nI j) < k then a else a + 1)
theorem chF_le (f : Int32 → Int32) (k sd : Int32) : ∀ n j a, chF f k sd n j a ≤ a + n := by
  intro n
  induction n with
  | zero => intro j a; exact Nat.le_refl _
  | succ n ih =>
    intro j a
    simp only [chF]
    split
    · have := ih (j + 1) a; omega
    · have := ih (j + 1) (a + 1); omega
theorem ThS.rf {I : Mi} : ThS I I := fun _ _ _ => rfl
theorem ThS.tr {I J K : Mi} (s : ThS I J) (k : ThS J K) : ThS I K := fun b h1 h2 => (k b h1 h2).trans (s b h1 h2)
theorem RD.ths {I I' : Mi} {Z : Mz} {ru t q mm ma mb n : Nat} (s : ThS I I') (ht : 45 < t) (g : RD I Z 10 ru t q mm ma mb n) : RD I' Z 10 ru t q mm ma mb n := g.eqv (s 10 (by decide) (by decide)) (s t (by omega) (by omega))
theorem l_X5_chance0 {E : Ev} {d : Nat} {I0 : Mi} {L : Ml} {Z : Mz} {Q : Po} {ru t q mm ma mb n m r M0 : Nat} {sd kk : Int32} (hG : GZ Z) (hR0 : RD I0 Z 10 ru t q mm ma mb n) (hm0 : I0 10 13 = nI m) (hm5 : m ≤ 5) (hrn0 : I0 10 9 = nI r) (hr : r ≤ 12) (htq : 45 < t ∧ 45 < q) (hd : 8 ≤ d) (hM : M0 ≤ 10) : ∀ (k j a : Nat) (I : Mi), j + k = M0 → a ≤ j → ThS I0 I → (∀ (rv : Int64) (I9 : Mi), ThS I0 I9 → rv = lN ((chF (fdV I0 q ma mb mm n m 6) kk sd k j a) / cdN (chF (fdV I0 q ma mb mm n m 6) kk sd k j a) M0 M0) → Q (some (.long rv)) I9 L Z) → AW E yX5_chance cX5_chance 7 (some .long) (rmOf d 0 0) Q 0 0 40 [some (.ref 0), some (.int sd), some (.int (nI M0)), some (.int kk), some (.int 0), some (.int (nI a)), some (.int (nI j))] [] I L Z := by
  intro k
  have hn6 := hR0.2.2.2.2.1
  induction k with
  | zero =>
    intro j a I hj ha hs hQ
    refine aw_iload dX5_chance_40 rfl ?_
    refine aw_iload_n dX5_chance_42 rfl ?_
    refine aw_icmp_ge (tgt := 69) dX5_chance_43 (by decide) (fun c43 => ?_) (fun zz => absurd (by rw [show j = M0 by omega]; exact Int32.le_refl _) zz)
    refine aw_iload dX5_chance_69 rfl ?_
    refine aw_iload_n dX5_chance_71 rfl ?_
    refine aw_iload dX5_chance_72 rfl ?_
    refine aw_S3 dX5_chance_74 cw_X5_210 (by omega) ⟨Nat.le_refl _, Nat.le_refl _⟩ (by decide) (c_X5_partOf0 (o := a) (u := M0) (by omega) (by omega) (by omega) (fun r74 e74 => ?_))
    refine aw_lreturn dX5_chance_77 rfl ?_
    exact hQ _ _ hs e74
  | succ k ih =>
    intro j a I hj ha hs hQ
    have hR := hR0.ths hs htq.1
    have hm : I 10 13 = nI m := by rw [hs 10 (by decide) (by decide)]; exact hm0
    have hrn : I 10 9 = nI r := by rw [hs 10 (by decide) (by decide)]; exact hrn0
    refine aw_iload dX5_chance_40 rfl ?_
    refine aw_iload_n dX5_chance_42 rfl ?_
    refine aw_icmp_ge (tgt := 69) dX5_chance_43 (by decide) (fun zz => absurd zz (nI_ge (by omega) (by omega))) (fun c43 => ?_)
    refine aw_aload_n dX5_chance_46 rfl rfl ?_
    refine aw_iload_n dX5_chance_47 rfl ?_
    refine aw_iload dX5_chance_48 rfl ?_
    refine aw_iadd dX5_chance_50 ?_
    refine aw_bipush (v := 6) dX5_chance_51 (by decide) ?_
    refine aw_V2 dX5_chance_53 cw_X5_245 ⟨_, _, rfl⟩ hG.1 (by omega) ⟨Nat.le_refl _, Nat.le_refl _⟩ (by decide) (c_X5_followersDrawn (N := 6) (by omega) hG hR hm hm5 hrn hr htq (by decide) (fun r53 I53 h53 e53 => ?_))
    rw [fdV_ths hs htq.2 hm5 hn6 hr hrn0] at e53
    refine aw_iload_n dX5_chance_56 rfl ?_
    refine aw_icmp_lt (tgt := 63) dX5_chance_57 (by decide) (fun c57 => ?_) (fun c57 => ?_)
    · refine aw_iinc (v := nI (j + 1)) (ls' := [_, _, _, _, _, _, _]) dX5_chance_63 rfl (nI_1 j) (by decide) rfl rfl ?_
      refine aw_goto (tgt := 40) dX5_chance_66 (by decide) ?_
      subst e53
      refine ih (j + 1) _ I53 (by omega) (by omega) (hs.tr h53) (fun rv I9 h9 e0 => hQ rv I9 h9 ?_)
      rw [e0]
      simp only [chF, c57, not_true_eq_false, not_false_eq_true, and_true, true_and, and_false, false_and, or_true, true_or, or_false, false_or, ite_true, ite_false, if_true, if_false, reduceIte, and_self, or_self]
    · refine aw_iinc (v := nI (a + 1)) (ls' := [_, _, _, _, _, _, _]) dX5_chance_60 rfl (nI_1 a) (by decide) rfl rfl ?_
      refine aw_iinc (v := nI (j + 1)) (ls' := [_, _, _, _, _, _, _]) dX5_chance_63 rfl (nI_1 j) (by decide) rfl rfl ?_
      refine aw_goto (tgt := 40) dX5_chance_66 (by decide) ?_
      subst e53
      refine ih (j + 1) _ I53 (by omega) (by omega) (hs.tr h53) (fun rv I9 h9 e0 => hQ rv I9 h9 ?_)
      rw [e0]
      simp only [chF, c57, not_true_eq_false, not_false_eq_true, and_true, true_and, and_false, false_and, or_true, true_or, or_false, false_or, ite_true, ite_false, if_true, if_false, reduceIte, and_self, or_self]
theorem c_X5_chance0 {E : Ev} {d : Nat} {I : Mi} {L : Ml} {Z : Mz} {Q : Po} {x : Int32} {y : Int32} {z : Int32} {ru t q mm ma mb n m r : Nat} (hd : 8 ≤ d) (hG : GZ Z) (hR : RD I Z 10 ru t q mm ma mb n) (hm : I 10 13 = nI m) (hm5 : m ≤ 5) (hrn : I 10 9 = nI r) (hr : r ≤ 12) (htq : 45 < t ∧ 45 < q) (hB : ¬ ((¬ y < 1 ∧ ¬ 10 < y) ∧ (¬ z < 0 ∧ ¬ 12 < z)) → Q (some (.long (-4611686018427387904))) I L Z) (hS : ∀ M0, 1 ≤ M0 → M0 ≤ 10 → y = nI M0 → (¬ z < 0 ∧ ¬ 12 < z) → ∀ (rv : Int64) (I9 : Mi), ThS I I9 → rv = lN ((chF (fdV I q ma mb mm n m 6) z x M0 0 0) / cdN (chF (fdV I q ma mb mm n m 6) z x M0 0 0) M0 M0) → Q (some (.long rv)) I9 L Z) : AC E yX5_chance cX5_chance 7 (some .long) d 0 0 [.ref 0, .int x, .int y, .int z, .int 0] I L Z Q := by
  refine ac_go (ls := [some (.ref 0), some (.int x), some (.int y), some (.int z), some (.int 0), none, none]) (by decide +kernel) (Nat.le_of_ble_eq_true rfl) rfl ?_
  refine aw_iload_n dX5_chance_0 rfl ?_
  refine aw_iconst (v := 1) dX5_chance_1 (by decide) ?_
  refine aw_bipush (v := 10) dX5_chance_2 (by decide) ?_
  refine aw_S3 dX5_chance_4 cw_X5_72 (by omega) ⟨Nat.le_refl _, Nat.le_refl _⟩ (by decide) (c_X5_within (fun c4 => ?_) (fun c4 => ?_))
  · refine aw_if_eq (tgt := 30) dX5_chance_7 (by decide) (fun zz => absurd zz (by decide)) (fun _ => ?_)
    refine aw_iload_n dX5_chance_10 rfl ?_
    refine aw_iconst (v := 0) dX5_chance_11 (by decide) ?_
    refine aw_bipush (v := 12) dX5_chance_12 (by decide) ?_
    refine aw_S3 dX5_chance_14 cw_X5_72 (by omega) ⟨Nat.le_refl _, Nat.le_refl _⟩ (by decide) (c_X5_within (fun c14 => ?_) (fun c14 => ?_))
    · refine aw_if_eq (tgt := 30) dX5_chance_17 (by decide) (fun zz => absurd zz (by decide)) (fun _ => ?_)
      refine aw_iload dX5_chance_20 rfl ?_
      refine aw_iconst (v := 0) dX5_chance_22 (by decide) ?_
      refine aw_iconst (v := 1) dX5_chance_23 (by decide) ?_
      refine aw_S3 dX5_chance_24 cw_X5_72 (by omega) ⟨Nat.le_refl _, Nat.le_refl _⟩ (by decide) (c_X5_within (fun _ => ?_) (fun zz => absurd (by decide) zz))
      refine aw_if_ne (tgt := 34) dX5_chance_27 (by decide) (fun _ => ?_) (fun zz => absurd zz (by decide))
      refine aw_iconst (v := 0) dX5_chance_34 (by decide) ?_
      refine aw_istore (ls' := [_, _, _, _, _, _, _]) dX5_chance_35 (by decide) rfl rfl ?_
      refine aw_iconst (v := 0) dX5_chance_37 (by decide) ?_
      refine aw_istore (ls' := [_, _, _, _, _, _, _]) dX5_chance_38 (by decide) rfl rfl ?_
      obtain ⟨M0, hM, rfl⟩ := nI_of2 (M := 10) (n := 10) (by decide) (fun zz => c4.1 (by rw [Int32.lt_iff_toInt_lt] at zz ⊢; exact Int.lt_trans zz (by decide))) (Int32.not_lt.mp c4.2)
      have hM1 : 1 ≤ M0 := Nat.not_lt.mp fun zz => c4.1 (nI_lt (b := 1) zz (by decide))
      exact l_X5_chance0 hG hR hm hm5 hrn hr htq hd hM M0 0 0 I (by omega) (by omega) ThS.rf (hS M0 hM1 hM rfl c14)
    · refine aw_if_eq (tgt := 30) dX5_chance_17 (by decide) (fun _ => ?_) (fun zz => absurd zz (by decide))
      refine aw_ldc2 dX5_chance_30 kw_X5_208 ?_
      refine aw_lreturn dX5_chance_33 rfl ?_
      exact hB (fun zz => c14 zz.2)
  · refine aw_if_eq (tgt := 30) dX5_chance_7 (by decide) (fun _ => ?_) (fun zz => absurd zz (by decide))
    refine aw_ldc2 dX5_chance_30 kw_X5_208 ?_
    refine aw_lreturn dX5_chance_33 rfl ?_
    exact hB (fun zz => c4 zz.1)
theorem l_X5_chance1 {E : Ev} {d : Nat} {I0 : Mi} {L : Ml} {Z : Mz} {Q : Po} {ru t q mm ma mb n m r M0 : Nat} {sd kk : Int32} (hG : GZ Z) (hR0 : RD I0 Z 10 ru t q mm ma mb n) (hm0 : I0 10 13 = nI m) (hm5 : m ≤ 5) (hrn0 : I0 10 9 = nI r) (hr : r ≤ 12) (htq : 45 < t ∧ 45 < q) (hd : 8 ≤ d) (hM : M0 ≤ 10) : ∀ (k j a : Nat) (I : Mi), j + k = M0 → a ≤ j → ThS I0 I → (∀ (rv : Int64) (I9 : Mi), ThS I0 I9 → rv = lN (M0 / cdN (chF (fdV I0 q ma mb mm n m 6) kk sd k j a) M0 M0) → Q (some (.long rv)) I9 L Z) → AW E yX5_chance cX5_chance 7 (some .long) (rmOf d 0 0) Q 0 0 40 [some (.ref 0), some (.int sd), some (.int (nI M0)), some (.int kk), some (.int 1), some (.int (nI a)), some (.int (nI j))] [] I L Z := by
  intro k
  have hn6 := hR0.2.2.2.2.1
  induction k with
  | zero =>
    intro j a I hj ha hs hQ
    refine aw_iload dX5_chance_40 rfl ?_
    refine aw_iload_n dX5_chance_42 rfl ?_
    refine aw_icmp_ge (tgt := 69) dX5_chance_43 (by decide) (fun c43 => ?_) (fun zz => absurd (by rw [show j = M0 by omega]; exact Int32.le_refl _) zz)
    refine aw_iload dX5_chance_69 rfl ?_
    refine aw_iload_n dX5_chance_71 rfl ?_
    refine aw_iload dX5_chance_72 rfl ?_
    refine aw_S3 dX5_chance_74 cw_X5_210 (by omega) ⟨Nat.le_refl _, Nat.le_refl _⟩ (by decide) (c_X5_partOf1 (o := a) (u := M0) (by omega) (by omega) (by omega) (fun r74 e74 => ?_))
    refine aw_lreturn dX5_chance_77 rfl ?_
    exact hQ _ _ hs e74
  | succ k ih =>
    intro j a I hj ha hs hQ
    have hR := hR0.ths hs htq.1
    have hm : I 10 13 = nI m := by rw [hs 10 (by decide) (by decide)]; exact hm0
    have hrn : I 10 9 = nI r := by rw [hs 10 (by decide) (by decide)]; exact hrn0
    refine aw_iload dX5_chance_40 rfl ?_
    refine aw_iload_n dX5_chance_42 rfl ?_
    refine aw_icmp_ge (tgt := 69) dX5_chance_43 (by decide) (fun zz => absurd zz (nI_ge (by omega) (by omega))) (fun c43 => ?_)
    refine aw_aload_n dX5_chance_46 rfl rfl ?_
    refine aw_iload_n dX5_chance_47 rfl ?_
    refine aw_iload dX5_chance_48 rfl ?_
    refine aw_iadd dX5_chance_50 ?_
    refine aw_bipush (v := 6) dX5_chance_51 (by decide) ?_
    refine aw_V2 dX5_chance_53 cw_X5_245 ⟨_, _, rfl⟩ hG.1 (by omega) ⟨Nat.le_refl _, Nat.le_refl _⟩ (by decide) (c_X5_followersDrawn (N := 6) (by omega) hG hR hm hm5 hrn hr htq (by decide) (fun r53 I53 h53 e53 => ?_))
    rw [fdV_ths hs htq.2 hm5 hn6 hr hrn0] at e53
    refine aw_iload_n dX5_chance_56 rfl ?_
    refine aw_icmp_lt (tgt := 63) dX5_chance_57 (by decide) (fun c57 => ?_) (fun c57 => ?_)
    · refine aw_iinc (v := nI (j + 1)) (ls' := [_, _, _, _, _, _, _]) dX5_chance_63 rfl (nI_1 j) (by decide) rfl rfl ?_
      refine aw_goto (tgt := 40) dX5_chance_66 (by decide) ?_
      subst e53
      refine ih (j + 1) _ I53 (by omega) (by omega) (hs.tr h53) (fun rv I9 h9 e0 => hQ rv I9 h9 ?_)
      rw [e0]
      simp only [chF, c57, not_true_eq_false, not_false_eq_true, and_true, true_and, and_false, false_and, or_true, true_or, or_false, false_or, ite_true, ite_false, if_true, if_false, reduceIte, and_self, or_self]
    · refine aw_iinc (v := nI (a + 1)) (ls' := [_, _, _, _, _, _, _]) dX5_chance_60 rfl (nI_1 a) (by decide) rfl rfl ?_
      refine aw_iinc (v := nI (j + 1)) (ls' := [_, _, _, _, _, _, _]) dX5_chance_63 rfl (nI_1 j) (by decide) rfl rfl ?_
      refine aw_goto (tgt := 40) dX5_chance_66 (by decide) ?_
      subst e53
      refine ih (j + 1) _ I53 (by omega) (by omega) (hs.tr h53) (fun rv I9 h9 e0 => hQ rv I9 h9 ?_)
      rw [e0]
      simp only [chF, c57, not_true_eq_false, not_false_eq_true, and_true, true_and, and_false, false_and, or_true, true_or, or_false, false_or, ite_true, ite_false, if_true, if_false, reduceIte, and_self, or_self]
theorem c_X5_chance1 {E : Ev} {d : Nat} {I : Mi} {L : Ml} {Z : Mz} {Q : Po} {x : Int32} {y : Int32} {z : Int32} {ru t q mm ma mb n m r : Nat} (hd : 8 ≤ d) (hG : GZ Z) (hR : RD I Z 10 ru t q mm ma mb n) (hm : I 10 13 = nI m) (hm5 : m ≤ 5) (hrn : I 10 9 = nI r) (hr : r ≤ 12) (htq : 45 < t ∧ 45 < q) (hB : ¬ ((¬ y < 1 ∧ ¬ 10 < y) ∧ (¬ z < 0 ∧ ¬ 12 < z)) → Q (some (.long (-4611686018427387904))) I L Z) (hS : ∀ M0, 1 ≤ M0 → M0 ≤ 10 → y = nI M0 → (¬ z < 0 ∧ ¬ 12 < z) → ∀ (rv : Int64) (I9 : Mi), ThS I I9 → rv = lN (M0 / cdN (chF (fdV I q ma mb mm n m 6) z x M0 0 0) M0 M0) → Q (some (.long rv)) I9 L Z) : AC E yX5_chance cX5_chance 7 (some .long) d 0 0 [.ref 0, .int x, .int y, .int z, .int 1] I L Z Q := by
  refine ac_go (ls := [some (.ref 0), some (.int x), some (.int y), some (.int z), some (.int 1), none, none]) (by decide +kernel) (Nat.le_of_ble_eq_true rfl) rfl ?_
  refine aw_iload_n dX5_chance_0 rfl ?_
  refine aw_iconst (v := 1) dX5_chance_1 (by decide) ?_
  refine aw_bipush (v := 10) dX5_chance_2 (by decide) ?_
  refine aw_S3 dX5_chance_4 cw_X5_72 (by omega) ⟨Nat.le_refl _, Nat.le_refl _⟩ (by decide) (c_X5_within (fun c4 => ?_) (fun c4 => ?_))
  · refine aw_if_eq (tgt := 30) dX5_chance_7 (by decide) (fun zz => absurd zz (by decide)) (fun _ => ?_)
    refine aw_iload_n dX5_chance_10 rfl ?_
    refine aw_iconst (v := 0) dX5_chance_11 (by decide) ?_
    refine aw_bipush (v := 12) dX5_chance_12 (by decide) ?_
    refine aw_S3 dX5_chance_14 cw_X5_72 (by omega) ⟨Nat.le_refl _, Nat.le_refl _⟩ (by decide) (c_X5_within (fun c14 => ?_) (fun c14 => ?_))
    · refine aw_if_eq (tgt := 30) dX5_chance_17 (by decide) (fun zz => absurd zz (by decide)) (fun _ => ?_)
      refine aw_iload dX5_chance_20 rfl ?_
      refine aw_iconst (v := 0) dX5_chance_22 (by decide) ?_
      refine aw_iconst (v := 1) dX5_chance_23 (by decide) ?_
      refine aw_S3 dX5_chance_24 cw_X5_72 (by omega) ⟨Nat.le_refl _, Nat.le_refl _⟩ (by decide) (c_X5_within (fun _ => ?_) (fun zz => absurd (by decide) zz))
      refine aw_if_ne (tgt := 34) dX5_chance_27 (by decide) (fun _ => ?_) (fun zz => absurd zz (by decide))
      refine aw_iconst (v := 0) dX5_chance_34 (by decide) ?_
      refine aw_istore (ls' := [_, _, _, _, _, _, _]) dX5_chance_35 (by decide) rfl rfl ?_
      refine aw_iconst (v := 0) dX5_chance_37 (by decide) ?_
      refine aw_istore (ls' := [_, _, _, _, _, _, _]) dX5_chance_38 (by decide) rfl rfl ?_
      obtain ⟨M0, hM, rfl⟩ := nI_of2 (M := 10) (n := 10) (by decide) (fun zz => c4.1 (by rw [Int32.lt_iff_toInt_lt] at zz ⊢; exact Int.lt_trans zz (by decide))) (Int32.not_lt.mp c4.2)
      have hM1 : 1 ≤ M0 := Nat.not_lt.mp fun zz => c4.1 (nI_lt (b := 1) zz (by decide))
      exact l_X5_chance1 hG hR hm hm5 hrn hr htq hd hM M0 0 0 I (by omega) (by omega) ThS.rf (hS M0 hM1 hM rfl c14)
    · refine aw_if_eq (tgt := 30) dX5_chance_17 (by decide) (fun _ => ?_) (fun zz => absurd zz (by decide))
      refine aw_ldc2 dX5_chance_30 kw_X5_208 ?_
      refine aw_lreturn dX5_chance_33 rfl ?_
      exact hB (fun zz => c14 zz.2)
  · refine aw_if_eq (tgt := 30) dX5_chance_7 (by decide) (fun _ => ?_) (fun zz => absurd zz (by decide))
    refine aw_ldc2 dX5_chance_30 kw_X5_208 ?_
    refine aw_lreturn dX5_chance_33 rfl ?_
    exact hB (fun zz => c4 zz.1)
theorem c_X5_chanceX {E : Ev} {d : Nat} {I : Mi} {L : Ml} {Z : Mz} {Q : Po} {x : Int32} {y : Int32} {z : Int32} {w : Int32}  (hd : 4 ≤ d) (hG : GZ Z) (hw : ¬ (¬ w < 0 ∧ ¬ 1 < w)) (hB : Q (some (.long (-4611686018427387904))) I L Z) : AC E yX5_chance cX5_chance 7 (some .long) d 0 0 [.ref 0, .int x, .int y, .int z, .int w] I L Z Q := by
  refine ac_go (ls := [some (.ref 0), some (.int x), some (.int y), some (.int z), some (.int w), none, none]) (by decide +kernel) (Nat.le_of_ble_eq_true rfl) rfl ?_
  refine aw_iload_n dX5_chance_0 rfl ?_
  refine aw_iconst (v := 1) dX5_chance_1 (by decide) ?_
  refine aw_bipush (v := 10) dX5_chance_2 (by decide) ?_
  refine aw_S3 dX5_chance_4 cw_X5_72 (by omega) ⟨Nat.le_refl _, Nat.le_refl _⟩ (by decide) (c_X5_within (fun c4 => ?_) (fun c4 => ?_))
  · refine aw_if_eq (tgt := 30) dX5_chance_7 (by decide) (fun zz => absurd zz (by decide)) (fun _ => ?_)
    refine aw_iload_n dX5_chance_10 rfl ?_
    refine aw_iconst (v := 0) dX5_chance_11 (by decide) ?_
    refine aw_bipush (v := 12) dX5_chance_12 (by decide) ?_
    refine aw_S3 dX5_chance_14 cw_X5_72 (by omega) ⟨Nat.le_refl _, Nat.le_refl _⟩ (by decide) (c_X5_within (fun c14 => ?_) (fun c14 => ?_))
    · refine aw_if_eq (tgt := 30) dX5_chance_17 (by decide) (fun zz => absurd zz (by decide)) (fun _ => ?_)
      refine aw_iload dX5_chance_20 rfl ?_
      refine aw_iconst (v := 0) dX5_chance_22 (by decide) ?_
      refine aw_iconst (v := 1) dX5_chance_23 (by decide) ?_
      refine aw_S3 dX5_chance_24 cw_X5_72 (by omega) ⟨Nat.le_refl _, Nat.le_refl _⟩ (by decide) (c_X5_within (fun zz => absurd zz hw) (fun c24 => ?_))
      refine aw_if_ne (tgt := 34) dX5_chance_27 (by decide) (fun zz => absurd zz (by decide)) (fun _ => ?_)
      refine aw_ldc2 dX5_chance_30 kw_X5_208 ?_
      refine aw_lreturn dX5_chance_33 rfl ?_
      exact hB
    · refine aw_if_eq (tgt := 30) dX5_chance_17 (by decide) (fun _ => ?_) (fun zz => absurd zz (by decide))
      refine aw_ldc2 dX5_chance_30 kw_X5_208 ?_
      refine aw_lreturn dX5_chance_33 rfl ?_
      exact hB
  · refine aw_if_eq (tgt := 30) dX5_chance_7 (by decide) (fun _ => ?_) (fun zz => absurd zz (by decide))
    refine aw_ldc2 dX5_chance_30 kw_X5_208 ?_
    refine aw_lreturn dX5_chance_33 rfl ?_
    exact hB
