/-! ===== the law: its start ===== -/
theorem gi_start {J M : Mi} {Y Y2 : Mz} {P : Nat → Nat → Option Nat} {K Ln : Nat → Nat} (f12 : ∀ a j, a < 46 → (a < 4 ∨ 9 < a) → ¬ (a = 1 ∧ j = 2) → J a j = iC a j) (j12 : J 1 2 = nI 1) (j41 : J 4 1 = 0) (hG : GZ Y) (k10 : zK Y 2 = 10) (zN48 : zN Y = 48) (zp : zP Y 2 0 = some 46) (tx : TxZ Y 46 47 3) (a1 : J 46 1 = nI 1) (a2 : J 46 2 = nI 2) (at5 : AtS (J 47) 0 [stI 2 0, stI 3 1, stI 2 9])
    (hg : Gro Y (P, K, Ln, 48)) (hP2 : P 2 = zP Y 2) (r1 : ∀ b, b < 48 → M b = J b) (r2 : ∀ j, j < 40 → M 49 j = m0 j) (r3 : M 50 0 = nI 40) (r4 : M 48 3 = nI 1) (r5 : M 48 36 = -1) (r6 : ∀ j, j ≠ 3 → j ≠ 36 → M 48 j = 0) (r7 : ∀ b j, 51 ≤ b → M b j = 0) (gr : Gro (P, K, Ln, 48) Y2) (zp2 : zP Y2 2 = P 2) (hM : MZ Y2) (k2 : zK Y2 2 = K 2) : GI M Y2 := by
  have g2 : Gro Y Y2 := hg.tr gr
  have z : ∀ a j, 10 ≤ a → a ≤ 37 → M a j = 0 := fun a j h1 h2 => by rw [r1 a (by omega), f12 a j (by omega) (by omega) (by omega)]; unfold iC; rw [if_neg (by omega)]
  have m0n : ∀ i, i < 40 → ¬ m0 i < 0 := by decide +kernel
  have tx2 : TxZ Y2 46 47 3 := tx.gro g2 (by decide)
  refine INV.gi (n := 0) (m := 0) (r := 0) (ru := 0) (N := 1) (k := 0) (tA := fun _ => 46) (qA := fun _ => 47) (mA := fun _ => 3) (aA := fun _ => 1) (bA := fun _ => 2) (WA := fun _ => wW ([stI 2 0], fun _ => nI 0) ([stI 3 1], fun nm => nm 1) ([stI 2 9], fun _ => nI 9)) ⟨⟨hG.gro g2, hM, ?_⟩, ⟨NowR.of ⟨by omega, by omega, by omega, by omega⟩ ?_ ?_ ?_ (fun c hc => absurd hc (by omega)) (fun c hc => absurd hc (by omega)) (fun c hc => absurd hc (by omega)), by omega⟩, Or.inl ⟨?_, r5⟩, ⟨⟨by omega, by omega⟩, ?_, r4, fun v hv => ?_, fun v hv => ?_⟩, ⟨by omega, ?_, ?_, fun j hj => absurd hj (by omega)⟩, fun s hs => ?_⟩
  · rw [(g2.2 2 (by omega)).2.1]; exact k10
  · exact ⟨z 10 6 (by omega) (by omega), z 10 13 (by omega) (by omega), z 10 9 (by omega) (by omega), z 10 3 (by omega) (by omega)⟩
  · refine ⟨?_, ?_, ?_, ?_, ?_, ?_⟩ <;> rw [r6 _ (by omega) (by omega), z 10 _ (by omega) (by omega)]
  · rw [z 10 1 (by omega) (by omega), z 10 2 (by omega) (by omega)]
    exact ⟨⟨0, by omega, rfl⟩, 0, by omega, rfl⟩
  · rw [r1 0 (by omega), f12 0 6 (by omega) (by omega) (by omega)]; rfl
  · rw [r1 1 (by omega)]; exact j12
  · have ev : v = 0 := by omega
    subst ev
    exact ⟨by rw [zp2, hP2]; exact zp, tx2, by decide, by rw [r1 46 (by omega)]; exact a1, by rw [r1 46 (by omega)]; exact a2, by decide, by decide, by decide, by decide⟩
  · have ev : v = 0 := by omega
    subst ev
    refine ⟨⟨m0, 40, 9, ([stI 2 0], fun _ => nI 0), ([stI 3 1], fun nm => nm 1), ([stI 2 9], fun _ => nI 9), r3, by omega, fun i hi => ⟨?_, m0n i hi⟩, ?_, fun nm => ⟨rfl, rfl, rfl⟩⟩, by decide, by decide, fun p nm hp => ?_⟩
    · rw [show 160 * 0 + i = i by omega]; exact r2 i hi
    · rw [tokS_m.1, tokS_m.2]; exact txS
    · show tvV (M 47) 1 2 3 p nm = _
      rw [r1 47 (by omega)]
      obtain ⟨b1, b2, b3, -⟩ := at5
      match p, hp with
      | 0, _ => exact ev_run (c := [stI 2 0]) (v := fun _ => nI 0) (ev_num (by omega)) nm (J 47) 0 ⟨b1, trivial⟩ (by decide)
      | 1, _ => exact ev_run (c := [stI 3 1]) (v := fun nm => nm 1) (ev_nam (by omega)) nm (J 47) 1 ⟨b2, trivial⟩ (by decide)
      | 2, _ => exact ev_run (c := [stI 2 9]) (v := fun _ => nI 9) (ev_num (by omega)) nm (J 47) 2 ⟨b3, trivial⟩ (by decide)
  · rw [r1 4 (by omega)]; exact j41
  · exact r6 6 (by omega) (by omega)
  · have e1 : M (38 + 2 * s) 1 = -1 := by
      rw [r1 _ (by omega), f12 _ _ (by omega) (by omega) (by omega)]; unfold iC; rw [if_pos (by omega)]
    have e2 : M (38 + 2 * s) 2 = 0 := by
      rw [r1 _ (by omega), f12 _ _ (by omega) (by omega) (by omega)]; unfold iC; rw [if_neg (by omega)]
    exact ⟨⟨0, by omega, e2⟩, Or.inl ⟨e1, r7 60 s (by omega)⟩⟩
theorem law_start {E : Ev} {N : Nat} {xs : Nat → Int32} {Q : Po} (hE : EXT E N xs) (hN : N ≤ 3072) (hQ : ∀ I2 L2 Z2, Q (some (.int 1)) I2 L2 Z2) : AW E yL_law cL_law 4 (some .boolean) room_1 Q 0 0 0 [some (.retAddr 50), none, none, none] [] (fun _ _ => 0) (fun _ _ => 0) (fun _ _ => none, kC, lC, 0) := by
  refine aw_nwT dL_law_0 nw_L_7 (by decide) (by decide) rfl rfl rfl rfl rfl ?_
  refine aw_dup dL_law_3 rfl ?_
  refine aw_callI (d' := 60) (kc' := 47) (ks' := 1537) (As := []) (rest := [.ref 0]) dL_law_4 cw_L_9 rfl rfl (by decide) (by decide) (by decide) (c_X5_init (by decide) hE (fun J K Y f12 j12 j41 hG k10 zN48 zp tx a1 a2 at5 => ?_))
  refine aw_astore_n (ls' := [_, _, _, _]) dL_law_7 (by decide) rfl rfl rfl ?_
  refine aw_mem (Z' := (fun a => if a < 48 then zP Y a else fun _ => none, fun a => if a < 48 then zK Y a else kM a, fun a => if a < 48 then zL Y a else lM a, 48)) (I' := fun a => if a < 48 then J a else fun _ => 0) (L' := fun a => if a < 48 then K a else fun _ => 0) zN48.symm (fun a ha => by
    have h : a < 48 := by omega
    exact ⟨if_pos h, if_pos h, if_pos h, if_pos h, if_pos h⟩) ?_
  refine aw_nwT (n := 48) dL_law_8 nw_L_10 (by decide) (by decide) rfl rfl rfl rfl rfl ?_
  refine aw_dup dL_law_11 rfl ?_
  refine aw_callI (d' := 60) (kc' := 15) (ks' := 1409) (As := []) (rest := [.ref 48]) dL_law_12 cw_L_12 rfl rfl (by decide) (by decide) (by decide) (c_X6_init (by decide) (fun a h1 h2 => ⟨if_neg (by omega), if_neg (by omega)⟩) (fun b hb => if_neg (by omega)) (fun M Y2 r1 r2 r3 r4 r5 r6 r7 gr zp2 hM k2 => ?_))
  refine aw_astore_n (ls' := [_, _, _, _]) dL_law_15 (by decide) rfl rfl rfl ?_
  refine aw_iconst (v := 0) dL_law_16 (by decide) ?_
  refine aw_istore_n (ls' := [_, _, _, _]) dL_law_17 (by decide) rfl rfl ?_
  refine law_loop hE hN hQ 513 0 _ _ _ _ _ (by omega) (by omega) (by decide) (by decide) ?_
  have hgr : Gro Y (fun a => if a < 48 then zP Y a else fun _ => none, fun a => if a < 48 then zK Y a else kM a, fun a => if a < 48 then zL Y a else lM a, 48) := ⟨Nat.le_of_eq zN48, fun a ha => by
    have h : a < 48 := by omega
    exact ⟨fun _ => if_pos h, if_pos h, if_pos h⟩⟩
  exact gi_start f12 j12 j41 hG k10 zN48 zp tx a1 a2 at5 hgr rfl (fun b hb => (r1 b hb).trans (if_pos hb)) r2 r3 r4 r5 r6 r7 gr zp2 hM k2
/-! ===== what the Statement gives of the start ===== -/
def tmS (i : Nat) : Term := .string (owS i).1 (owS i).2.1
def stL : List Cond := flatC (Jvm.Cond.and given_1 narrow_1)
theorem st_ex : ∀ i, i < 13 → Cond.exactly (tmS i) "java/lang/String" ∈ stL := by decide +kernel
theorem st_co : ∀ i, i < 13 → Cond.eq (.field (tmS i) "java/lang/String" "coder" "B") (.int 0) ∈ stL := by decide +kernel
theorem st_ar : ∀ i, i < 13 → Cond.arrayOf (.field (tmS i) "java/lang/String" "value" "[B") .byte ∈ stL := by decide +kernel
theorem st_le : ∀ i, i < 13 → Cond.eq (.length (.field (tmS i) "java/lang/String" "value" "[B")) (.int (Int32.ofNat (lnS.getD i 0))) ∈ stL := by decide +kernel
theorem st_el : ∀ i, i < 13 → ∀ j, j < lnS.getD i 0 → Cond.eq (.elem (.field (tmS i) "java/lang/String" "value" "[B") (.int (Int32.ofNat j))) (.int ((byS.getD i []).getD j 0)) ∈ stL := by decide +kernel
theorem st_ne : ∀ i, i < 13 → ∀ j, j < 13 → i < j → Cond.not (Cond.eq (tmS i) (tmS j)) ∈ stL := by decide +kernel
theorem st_aa : Cond.arrayOf (.static RX5 "ABOVE" "[I") .int ∈ stL := by decide +kernel
theorem st_al : Cond.eq (.length (.static RX5 "ABOVE" "[I")) (.int (Int32.ofNat 6)) ∈ stL := by decide +kernel
theorem st_ae : ∀ j, j < 6 → Cond.eq (.elem (.static RX5 "ABOVE" "[I") (.int (Int32.ofNat j))) (.int (abS j)) ∈ stL := by decide +kernel
theorem st_cs : Cond.eq (.static RJ0 "COMPACT_STRINGS" "Z") (.int 1) ∈ stL := by decide +kernel
theorem st_si : Cond.isRef (.static RJ3 "SIOOBE_FORMATTER" "Ljava/util/function/BiFunction;") ∈ stL := by decide +kernel
theorem wd_s : ∀ i, i < 13 → Cond.stringRef (owS i).1 (owS i).2.1 (owS i).2.2 ∈ lw_tbl := by decide +kernel
theorem wd_a : Cond.laysStatic RX5 "ABOVE" "[I" ∈ lw_tbl ∧ Cond.initialized RX5 ∈ lw_tbl := by decide +kernel
theorem wd_c : Cond.laysStatic RJ0 "COMPACT_STRINGS" "Z" ∈ lw_tbl ∧ Cond.initialized RJ0 ∈ lw_tbl := by decide +kernel
theorem wd_f : Cond.laysStatic RJ3 "SIOOBE_FORMATTER" "Ljava/util/function/BiFunction;" ∈ lw_tbl ∧ Cond.initialized RJ3 ∈ lw_tbl := by decide +kernel
theorem st_XO {args : Array Value} {s : State} {b N : Nat} {xs : Nat → Int32} (hts : ∀ w ∈ lw_tbl, w.before args s = true) (hgv : (Jvm.Cond.and given_1 narrow_1).before args s = true) (hX : va_X b N xs s s.heap) (hb : b < s.heap.size) : ∃ X : Nat → Nat, XO s.heap.size X N xs s s.heap ∧ X 50 = b := by
  have hs : ∀ w ∈ stL, w.before args s = true := flat_of_before _ hgv
  have hA : ∀ a : Nat, a < s.heap.size → ¬ (fun q : Nat => s.heap.size ≤ q) a := fun a h => Nat.not_le.mpr h
  obtain ⟨adK, adV, hS, hEv⟩ := vk_Sof (A := fun q : Nat => s.heap.size ≤ q) (tm := tmS) (len := lnS) (byt := byS) (N := 13) (args := args) (s := s) (by decide) (fun i hi => hs _ (st_ex i hi)) (fun i hi => hs _ (st_co i hi)) (fun i hi => hs _ (st_ar i hi)) (fun i hi => hs _ (st_le i hi)) (fun i hi j hj => hs _ (st_el i hi j hj)) (fun i j hi hj hij => by
    rcases Nat.lt_or_gt_of_ne hij with g | g
    · exact Or.inl (hs _ (st_ne i hi j hj g))
    · exact Or.inr (hs _ (st_ne j hj i hi g))) hA
  obtain ⟨t, ht, hT⟩ := va_Tof (f := fun j => .int (abS j)) (A := fun q : Nat => s.heap.size ≤ q) (N := 6) (by decide) (hs _ st_aa) (va_eqt (hs _ st_al)) (fun j hj => va_eqt (hs _ (st_ae j hj))) hA
  obtain ⟨f, hf, hfr⟩ := Cond.isRef_spec (args := args) (first := s) (o := none) (s := s) (idx := []) (hs _ st_si)
  have hF := va_Zof (A := fun q : Nat => s.heap.size ≤ q) (hts _ wd_f.1) (hts _ wd_f.2) hf hA
  have hAb := va_Zof (A := fun q : Nat => s.heap.size ≤ q) (hts _ wd_a.1) (hts _ wd_a.2) ht hA
  have hC := va_Zof (A := fun q : Nat => s.heap.size ≤ q) (hts _ wd_c.1) (hts _ wd_c.2) (va_eqt (hs _ st_cs)) hA
  have main : ∀ q : Nat, (va_Z RJ3 "SIOOBE_FORMATTER" "Ljava/util/function/BiFunction;" .null (fun q => s.heap.size ≤ q) s s.heap ∨ va_Z RJ3 "SIOOBE_FORMATTER" "Ljava/util/function/BiFunction;" (.ref q) (fun q => s.heap.size ≤ q) s s.heap) → ∃ X : Nat → Nat, XO s.heap.size X N xs s s.heap ∧ X 50 = b := fun q hq => by
    refine ⟨fun k => if k < 13 then adK k else if k < 33 then adV (k - 20) else if k = 40 then t else if k = 50 then b else q, ⟨⟨fun i hi => ?_, fun i j hi hj e => ?_⟩, fun i hi => ?_, hAb, hT, hC, hq, hX, hb⟩, rfl⟩
    · have e1 : (if i < 13 then adK i else if i < 33 then adV (i - 20) else if i = 40 then t else if i = 50 then b else q) = adK i := if_pos hi
      have e2 : (if 20 + i < 13 then adK (20 + i) else if 20 + i < 33 then adV (20 + i - 20) else if 20 + i = 40 then t else if 20 + i = 50 then b else q) = adV i := by rw [if_neg (by omega), if_pos (by omega), Nat.add_sub_cancel_left]
      simp only [e1, e2]
      exact hS.1 i hi
    · simp only [if_pos hi, if_pos hj] at e
      exact hS.2 i j hi hj e
    · simp only [if_pos hi]
      exact vk_R.of (hts _ (wd_s i hi)) (hEv i hi)
  cases f with
  | null => exact main 0 (Or.inl hF)
  | ref q => exact main q (Or.inr hF)
  | _ => simp [Value.isRef] at hfr
theorem st_arr {args : Array Value} {s : State} {ty : FieldType} (hn : ∀ C, ty ≠ .object C) (h : (Cond.arrayClass ty).before args s = true) : ∃ cA : ClassId, ArrOfT s cA ty ∧ va_RA s cA ty := by
  obtain ⟨cA, kA, comp, h1, h2, h3⟩ := Cond.arrayClass_spec h
  refine ⟨cA, fun n z => ⟨fun k h => (by cases h), kA, h2, comp, h3⟩, ?_⟩
  cases ty with
  | object C => exact absurd rfl (hn C)
  | _ => exact h1
theorem st_arO {args : Array Value} {s : State} {C : String} (h : (Cond.arrayOver (.object C)).before args s = true) : ∃ cA : ClassId, ArrOfT s cA (.object C) ∧ va_RA s cA (.object C) := by
  obtain ⟨comp, cA, kA, h1, -, h3, h4, h5⟩ := Cond.arrayOver_spec h
  exact ⟨cA, fun n z => ⟨fun k h => (by cases h), kA, h3, comp, h4⟩, kA, comp, h3, h4, h1, h5⟩
theorem tb2_in {w : Cond} (h : w ∈ tb2) : w ∈ lw_tbl := (List.mem_filter.mp h).1
theorem st_K {args : Array Value} {s : State} (hts : ∀ w ∈ lw_tbl, w.before args s = true) : ∃ (D : va_G) (C : Nat → ClassId), va_K D vwCl [(C 7, .int), (C 8, .boolean), (C 9, .object RX2), (C 10, .object RX4)] s := by
  have one : ∀ (ci : Nat) (Cn : String) (T : u_T) (n : Nat), vwCl[ci]? = some (Cn, T, n) → Cond.instantiable Cn n ∈ lw_tbl → ∃ (cC : ClassId) (iS : Nat → Nat), u_Kn s Cn T n cC iS := fun ci Cn T n h hi => u_known (args := args) hts (fun w hw => tb2_in ((cls_ok h).1 w hw)) (hts _ hi)
  obtain ⟨c0, i0, h0⟩ := one 0 _ _ _ rfl (by decide +kernel)
  obtain ⟨c1, i1, h1⟩ := one 1 _ _ _ rfl (by decide +kernel)
  obtain ⟨c2, i2, h2⟩ := one 2 _ _ _ rfl (by decide +kernel)
  obtain ⟨c3, i3, h3⟩ := one 3 _ _ _ rfl (by decide +kernel)
  obtain ⟨c4, i4, h4⟩ := one 4 _ _ _ rfl (by decide +kernel)
  obtain ⟨c5, i5, h5⟩ := one 5 _ _ _ rfl (by decide +kernel)
  obtain ⟨c6, i6, h6⟩ := one 6 _ _ _ rfl (by decide +kernel)
  obtain ⟨a7, p7⟩ := st_arr (ty := .int) (by intro C h; cases h) (hts _ (tb2_in ac_int))
  obtain ⟨a8, p8⟩ := st_arr (ty := .boolean) (by intro C h; cases h) (hts _ (tb2_in ac_bool))
  obtain ⟨a9, p9⟩ := st_arO (hts _ (tb2_in na_X5_38.2))
  obtain ⟨a10, p10⟩ := st_arO (hts _ (tb2_in na_X3_9.2))
  refine ⟨(fun k => match k with | 0 => c0 | 1 => c1 | 2 => c2 | 3 => c3 | 4 => c4 | 5 => c5 | _ => c6, fun k => match k with | 0 => i0 | 1 => i1 | 2 => i2 | 3 => i3 | 4 => i4 | 5 => i5 | _ => i6), fun k => match k with | 7 => a7 | 8 => a8 | 9 => a9 | _ => a10, fun k q hq => ?_, fun k q hq => ?_⟩
  · match k, hq with
    | 0, hq => cases hq; exact h0
    | 1, hq => cases hq; exact h1
    | 2, hq => cases hq; exact h2
    | 3, hq => cases hq; exact h3
    | 4, hq => cases hq; exact h4
    | 5, hq => cases hq; exact h5
    | 6, hq => cases hq; exact h6
    | k + 7, hq => simp [vwCl] at hq
  · match k, hq with
    | 0, hq => cases hq; exact p7
    | 1, hq => cases hq; exact p8
    | 2, hq => cases hq; exact p9
    | 3, hq => cases hq; exact p10
    | k + 4, hq => simp at hq
