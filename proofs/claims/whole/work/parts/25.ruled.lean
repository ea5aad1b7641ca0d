theorem c_X4_worth0 {E : Ev} {d : Nat} {I : Mi} {L : Ml} {Z : Mz} {Q : Po} {t : Nat} {nm : Nat} {q mm ma mb : Nat} (hd : 1 ≤ d) (hT : TxZ Z t q mm) (hN : ArrI Z nm 6) (hS : ArrI Z 3 160) (hm : mm ≤ 160) (ha : I t 1 = nI ma) (hb : I t 2 = nI mb) (hab : ma ≤ mb) (hbm : mb ≤ mm) (hq3 : q ≠ 3) (hn3 : nm ≠ 3) (hQ : ∀ (rv : Int32) (I9 : Mi), Sam3 I I9 → rv = wF (I q) (I nm) ma 0 [] → Q (some (.int rv)) I9 L Z) : AC E yX4_worth cX4_worth 10 (some .int) d 0 0 [.ref t, .int 0, .ref nm, .ref 3] I L Z Q := by
  refine ac_go (ls := [some (.ref t), some (.int 0), some (.ref nm), some (.ref 3), none, none, none, none, none, none]) (by decide +kernel) (Nat.le_of_ble_eq_true rfl) rfl ?_
  refine aw_iload_n dX4_worth_0 rfl ?_
  refine aw_if_ne (tgt := 8) dX4_worth_1 (by decide) (fun zz => absurd zz (by decide)) (fun _ => ?_)
  refine aw_iconst (v := 0) dX4_worth_4 (by decide) ?_
  refine aw_goto (tgt := 24) dX4_worth_5 (by decide) ?_
  refine aw_istore (ls' := [_, _, _, _, _, _, _, _, _, _]) dX4_worth_24 (by decide) rfl rfl ?_
  refine aw_iload_n dX4_worth_26 rfl ?_
  refine aw_if_ne (tgt := 37) dX4_worth_27 (by decide) (fun zz => absurd zz (by decide)) (fun _ => ?_)
  refine aw_aload_n dX4_worth_30 rfl rfl ?_
  refine aw_gi dX4_worth_31 fw_X4_15 hT.1 ?_
  refine aw_goto (tgt := 54) dX4_worth_34 (by decide) ?_
  refine aw_istore (ls' := [_, _, _, _, _, _, _, _, _, _]) dX4_worth_54 (by decide) rfl rfl ?_
  refine aw_iconst (v := 0) dX4_worth_56 (by decide) ?_
  refine aw_istore (ls' := [_, _, _, _, _, _, _, _, _, _]) dX4_worth_57 (by decide) rfl rfl ?_
  refine aw_iload dX4_worth_59 rfl ?_
  refine aw_istore (ls' := [_, _, _, _, _, _, _, _, _, _]) dX4_worth_61 (by decide) rfl rfl ?_
  rw [ha]
  exact l_X4_worth (e := ma) hT hN hS hd hm (by omega) hq3 hn3 ma 0 [] I _ _ (by omega) (fun _ _ => rfl) trivial (by simp) hQ
theorem c_X4_worth1 {E : Ev} {d : Nat} {I : Mi} {L : Ml} {Z : Mz} {Q : Po} {t : Nat} {nm : Nat} {q mm ma mb : Nat} (hd : 1 ≤ d) (hT : TxZ Z t q mm) (hN : ArrI Z nm 6) (hS : ArrI Z 3 160) (hm : mm ≤ 160) (ha : I t 1 = nI ma) (hb : I t 2 = nI mb) (hab : ma ≤ mb) (hbm : mb ≤ mm) (hq3 : q ≠ 3) (hn3 : nm ≠ 3) (hQ : ∀ (rv : Int32) (I9 : Mi), Sam3 I I9 → rv = wF (I q) (I nm) (mb - ma) ma [] → Q (some (.int rv)) I9 L Z) : AC E yX4_worth cX4_worth 10 (some .int) d 0 0 [.ref t, .int 1, .ref nm, .ref 3] I L Z Q := by
  refine ac_go (ls := [some (.ref t), some (.int 1), some (.ref nm), some (.ref 3), none, none, none, none, none, none]) (by decide +kernel) (Nat.le_of_ble_eq_true rfl) rfl ?_
  refine aw_iload_n dX4_worth_0 rfl ?_
  refine aw_if_ne (tgt := 8) dX4_worth_1 (by decide) (fun _ => ?_) (fun zz => absurd zz (by decide))
  refine aw_iload_n dX4_worth_8 rfl ?_
  refine aw_iconst (v := 1) dX4_worth_9 (by decide) ?_
  refine aw_icmp_ne (tgt := 20) dX4_worth_10 (by decide) (fun zz => absurd zz (by decide)) (fun _ => ?_)
  refine aw_aload_n dX4_worth_13 rfl rfl ?_
  refine aw_gi dX4_worth_14 fw_X4_15 hT.1 ?_
  refine aw_goto (tgt := 24) dX4_worth_17 (by decide) ?_
  refine aw_istore (ls' := [_, _, _, _, _, _, _, _, _, _]) dX4_worth_24 (by decide) rfl rfl ?_
  refine aw_iload_n dX4_worth_26 rfl ?_
  refine aw_if_ne (tgt := 37) dX4_worth_27 (by decide) (fun _ => ?_) (fun zz => absurd zz (by decide))
  refine aw_iload_n dX4_worth_37 rfl ?_
  refine aw_iconst (v := 1) dX4_worth_38 (by decide) ?_
  refine aw_icmp_ne (tgt := 49) dX4_worth_39 (by decide) (fun zz => absurd zz (by decide)) (fun _ => ?_)
  refine aw_aload_n dX4_worth_42 rfl rfl ?_
  refine aw_gi dX4_worth_43 fw_X4_19 hT.1 ?_
  refine aw_goto (tgt := 54) dX4_worth_46 (by decide) ?_
  refine aw_istore (ls' := [_, _, _, _, _, _, _, _, _, _]) dX4_worth_54 (by decide) rfl rfl ?_
  refine aw_iconst (v := 0) dX4_worth_56 (by decide) ?_
  refine aw_istore (ls' := [_, _, _, _, _, _, _, _, _, _]) dX4_worth_57 (by decide) rfl rfl ?_
  refine aw_iload dX4_worth_59 rfl ?_
  refine aw_istore (ls' := [_, _, _, _, _, _, _, _, _, _]) dX4_worth_61 (by decide) rfl rfl ?_
  rw [ha, hb]
  exact l_X4_worth (e := mb) hT hN hS hd hm (by omega) hq3 hn3 (mb - ma) ma [] I _ _ (by omega) (fun _ _ => rfl) trivial (by simp) hQ
theorem c_X4_worth2 {E : Ev} {d : Nat} {I : Mi} {L : Ml} {Z : Mz} {Q : Po} {t : Nat} {nm : Nat} {q mm ma mb : Nat} (hd : 1 ≤ d) (hT : TxZ Z t q mm) (hN : ArrI Z nm 6) (hS : ArrI Z 3 160) (hm : mm ≤ 160) (ha : I t 1 = nI ma) (hb : I t 2 = nI mb) (hab : ma ≤ mb) (hbm : mb ≤ mm) (hq3 : q ≠ 3) (hn3 : nm ≠ 3) (hQ : ∀ (rv : Int32) (I9 : Mi), Sam3 I I9 → rv = wF (I q) (I nm) (mm - mb) mb [] → Q (some (.int rv)) I9 L Z) : AC E yX4_worth cX4_worth 10 (some .int) d 0 0 [.ref t, .int 2, .ref nm, .ref 3] I L Z Q := by
  refine ac_go (ls := [some (.ref t), some (.int 2), some (.ref nm), some (.ref 3), none, none, none, none, none, none]) (by decide +kernel) (Nat.le_of_ble_eq_true rfl) rfl ?_
  refine aw_iload_n dX4_worth_0 rfl ?_
  refine aw_if_ne (tgt := 8) dX4_worth_1 (by decide) (fun _ => ?_) (fun zz => absurd zz (by decide))
  refine aw_iload_n dX4_worth_8 rfl ?_
  refine aw_iconst (v := 1) dX4_worth_9 (by decide) ?_
  refine aw_icmp_ne (tgt := 20) dX4_worth_10 (by decide) (fun _ => ?_) (fun zz => absurd zz (by decide))
  refine aw_aload_n dX4_worth_20 rfl rfl ?_
  refine aw_gi dX4_worth_21 fw_X4_19 hT.1 ?_
  refine aw_istore (ls' := [_, _, _, _, _, _, _, _, _, _]) dX4_worth_24 (by decide) rfl rfl ?_
  refine aw_iload_n dX4_worth_26 rfl ?_
  refine aw_if_ne (tgt := 37) dX4_worth_27 (by decide) (fun _ => ?_) (fun zz => absurd zz (by decide))
  refine aw_iload_n dX4_worth_37 rfl ?_
  refine aw_iconst (v := 1) dX4_worth_38 (by decide) ?_
  refine aw_icmp_ne (tgt := 49) dX4_worth_39 (by decide) (fun _ => ?_) (fun zz => absurd zz (by decide))
  refine aw_aload_n dX4_worth_49 rfl rfl ?_
  refine aw_gr dX4_worth_50 fw_X4_9 hT.1 hT.2.1 ?_
  refine aw_al dX4_worth_53 hT.2.2 ?_
  refine aw_istore (ls' := [_, _, _, _, _, _, _, _, _, _]) dX4_worth_54 (by decide) rfl rfl ?_
  refine aw_iconst (v := 0) dX4_worth_56 (by decide) ?_
  refine aw_istore (ls' := [_, _, _, _, _, _, _, _, _, _]) dX4_worth_57 (by decide) rfl rfl ?_
  refine aw_iload dX4_worth_59 rfl ?_
  refine aw_istore (ls' := [_, _, _, _, _, _, _, _, _, _]) dX4_worth_61 (by decide) rfl rfl ?_
  rw [hb]
  exact l_X4_worth (e := mm) hT hN hS hd hm (by omega) hq3 hn3 (mm - mb) mb [] I _ _ (by omega) (fun _ _ => rfl) trivial (by simp) hQ
/-! ===== a house: who reads what ===== -/
def ArrO (Z : Mz) (a n : Nat) : Prop := a < zN Z ∧ (zK Z a = 9 ∨ zK Z a = 10) ∧ zL Z a = n
theorem aw_ar {E : Ev} {y : MethodName} {cc : ByteArray} {nL : Nat} {rt : Option FieldType} {R : Room} {Q : Po} {cells slots pc : Nat} {ls : List (Option Value)} {rest : List Value} {I : Mi} {L : Ml} {Z : Mz} {a n b : Nat} (j : Nat) {i : Int32} (hd : decode cc pc = .ok (.aaload, 1)) (hA : ArrO Z a n) (hi : i = nI j) (hj : j < n) (hn : n < 2 ^ 31) (hp : zP Z a j = some b) (kk : AW E y cc nL rt R Q cells slots (pc + 1) ls (.ref b :: rest) I L Z) : AW E y cc nL rt R Q cells slots pc ls (.int i :: .ref a :: rest) I L Z := by
  refine aw_aald (r := some b) hd hA.1 hA.2.1 (by rw [hA.2.2, hi]; exact vp_in_nI hj hn) (by rw [hi, nI_clamp (by omega)]; exact hp) ?_
  exact kk
def ShZ (Z : Mz) : Prop := ObjZ Z 1 3 ∧ zP Z 1 0 = some 2 ∧ zP Z 1 1 = some 3 ∧ ArrI Z 3 160 ∧ ArrO Z 2 6
/-- THE RULE of a house: its text -/
def RuP (I : Mi) (Z : Mz) (h ru t q mm ma mb : Nat) : Prop := I h 3 = nI ru ∧ ru < 6 ∧ zP Z 2 ru = some t ∧ TxZ Z t q mm ∧ mm ≤ 160 ∧ I t 1 = nI ma ∧ I t 2 = nI mb ∧ ma ≤ mb ∧ mb ≤ mm ∧ q ≠ 3 ∧ q ≠ h + 8 ∧ t ≠ 3 ∧ t ≠ h + 8
def SamH (h : Nat) (I I' : Mi) : Prop := ∀ a, a ≠ 3 → a ≠ h + 8 → I' a = I a
theorem SamH.rf {h : Nat} {I : Mi} : SamH h I I := fun _ _ _ => rfl
theorem SamH.up {h : Nat} {I J : Mi} (s : SamH h I J) (k : Nat) (x : Int32) : SamH h I (iU J (h + 8) k x) := by
  intro a h3 h8
  rw [← s a h3 h8]
  funext j
  exact iU_at (fun z => h8 z.1)
theorem SamH.s3 {h : Nat} {I J K : Mi} (s : SamH h I J) (k : Sam3 J K) : SamH h I K := fun a h3 h8 => (k a h3).trans (s a h3 h8)
theorem SamH.tr {h : Nat} {I J K : Mi} (s : SamH h I J) (k : SamH h J K) : SamH h I K := fun a h3 h8 => (k a h3 h8).trans (s a h3 h8)
def nmV (g t nu ho sl cu : Int32) : Nat → Int32 := fun k => match k with
  | 0 => g
  | 1 => t
  | 2 => nu
  | 3 => ho
  | 4 => sl
  | _ => cu
theorem wF_congr {stp nm nm' : Nat → Int32} (h : ∀ k, k < 6 → nm k = nm' k) : ∀ (n j : Nat) (st : List Int32), wF stp nm n j st = wF stp nm' n j st := by
  intro n
  induction n with
  | zero => intro j st; rfl
  | succ n ih =>
    intro j st
    obtain ⟨vk, hvk, ev⟩ := pk_andE (stp j) (m := 65535) 16 (by decide)
    simp only [wF, ih]
    by_cases hv : (stp j &&& 65535) < 6
    · have h6 : vk < 6 := by rw [ev] at hv; exact (nI_ltI (b := 6) (by omega) (by decide)).mp hv
      rw [show nm (stp j &&& 65535).toNatClampNeg = nm' (stp j &&& 65535).toNatClampNeg by rw [ev, nI_clamp (by omega)]; exact h vk h6]
    · simp only [hv, if_false]
def tvV (s : Nat → Int32) (ma mb mm : Nat) (p : Nat) (nm : Nat → Int32) : Int32 := match p with
  | 0 => wF s nm ma 0 []
  | 1 => wF s nm (mb - ma) ma []
  | _ => wF s nm (mm - mb) mb []
theorem tvV_congr {s nm nm' : Nat → Int32} (h : ∀ k, k < 6 → nm k = nm' k) (ma mb mm p : Nat) : tvV s ma mb mm p nm = tvV s ma mb mm p nm' := by
  unfold tvV
  split <;> exact wF_congr h _ _ _
def clV (lo w : Int32) : Int32 := if lo < (if w < 99 then w else 99) then (if w < 99 then w else 99) else lo
/-- what THE RULE's part p tells of one and a cup -/
def rlC (I : Mi) (h q ma mb mm p one cup : Nat) : Int32 := clV (if p = 2 then 0 else -99) (tvV (I q) ma mb mm p (nmV (bcV (I (h + 1) cup)) (I (h + 2) cup) (I (h + 6) one) (I h 2) (I (h + 7) one) (nI cup)))
def rlN (I : Mi) (h q ma mb mm p one : Nat) : Int32 := clV (if p = 2 then 0 else -99) (tvV (I q) ma mb mm p (nmV 0 0 (I (h + 6) one) (I h 2) (I (h + 7) one) 0))
theorem c_X0_ruled0 {E : Ev} {d : Nat} {I : Mi} {L : Ml} {Z : Mz} {Q : Po} {h : Nat} {ru t q mm ma mb p c n : Nat} (hd : 2 ≤ d) (hH : HZ Z h) (hS : ShZ Z) (hRu : RuP I Z h ru t q mm ma mb) (hp : p < 5) (hn : I h 6 = nI n) (hn6 : n ≤ 6) (hc : c < n) (hh3 : h + 8 ≠ 3) (hQ : ∀ (rv : Int32) (I9 : Mi), SamH h I I9 → rv = rlC I h q ma mb mm 0 p c → Q (some (.int rv)) I9 L Z) : AC E yX0_ruled cX0_ruled 6 (some .int) d 0 0 [.ref h, .int 0, .int (nI p), .int (nI c)] I L Z Q := by
  refine ac_go (ls := [some (.ref h), some (.int 0), some (.int (nI p)), some (.int (nI c)), none, none]) (by decide +kernel) (Nat.le_of_ble_eq_true rfl) rfl ?_
  have hru := hRu.1
  have hr6 := hRu.2.1
  have h8t : ¬ t = h + 8 := hRu.2.2.2.2.2.2.2.2.2.2.2.2
  have h83 : h + 8 ≠ 3 := hh3
  refine aw_aload_n dX0_ruled_0 rfl rfl ?_
  refine aw_gi dX0_ruled_1 fw_X0_47 hH.1 ?_
  refine aw_if_lt (tgt := 31) dX0_ruled_4 (by decide) (fun zz => absurd zz (by rw [hru]; exact nI_pos (by omega))) (fun c4 => ?_)
  refine aw_aload_n dX0_ruled_7 rfl rfl ?_
  refine aw_gi dX0_ruled_8 fw_X0_47 hH.1 ?_
  refine aw_bipush (v := 6) dX0_ruled_11 (by decide) ?_
  refine aw_icmp_ge (tgt := 31) dX0_ruled_13 (by decide) (fun zz => absurd zz (by rw [hru]; exact nI_ge (b := 6) (by omega) (by decide))) (fun c13 => ?_)
  refine aw_aload_n dX0_ruled_16 rfl rfl ?_
  refine aw_gr dX0_ruled_17 fw_X0_36 hH.1 hH.2.1 ?_
  refine aw_gr dX0_ruled_20 fw_X0_79 hS.1 hS.2.1 ?_
  refine aw_aload_n dX0_ruled_23 rfl rfl ?_
  refine aw_gi dX0_ruled_24 fw_X0_47 hH.1 ?_
  refine aw_ar ru dX0_ruled_27 hS.2.2.2.2 hru hRu.2.1 (by decide) hRu.2.2.1 ?_
  refine aw_ifnonnull (tgt := 33) dX0_ruled_28 (by decide) ?_
  refine aw_aload_n dX0_ruled_33 rfl rfl ?_
  refine aw_iload_n dX0_ruled_34 rfl ?_
  refine aw_V1 dX0_ruled_35 cw_X0_65 ⟨_, _, rfl⟩ hH.1 (by omega) ⟨Nat.le_refl _, Nat.le_refl _⟩ (by decide) (c_X0_hasCup hH (fun c35 => ?_) (fun zz => absurd ⟨nI_pos (by omega), by rw [hn]; exact nI_ge hc (by omega)⟩ zz))
  refine aw_istore (ls' := [_, _, _, _, _, _]) dX0_ruled_38 (by decide) rfl rfl ?_
  refine aw_aload_n dX0_ruled_40 rfl rfl ?_
  refine aw_gr dX0_ruled_41 fw_X0_33 hH.1 hH.2.2.2.2.2.2.2.2.2.1 ?_
  refine aw_iconst (v := 0) dX0_ruled_44 (by decide) ?_
  refine aw_iload dX0_ruled_45 rfl ?_
  refine aw_if_eq (tgt := 62) dX0_ruled_47 (by decide) (fun zz => absurd zz (by decide)) (fun _ => ?_)
  refine aw_aload_n dX0_ruled_50 rfl rfl ?_
  refine aw_gr dX0_ruled_51 fw_X0_9 hH.1 hH.2.2.1 ?_
  refine aw_iload_n dX0_ruled_54 rfl ?_
  refine aw_ia c dX0_ruled_55 hH.2.2.2.2.2.2.2.2.2.2.1 rfl (by omega) (by decide) ?_
  refine aw_S1 dX0_ruled_56 cw_X0_85 (by omega) ⟨Nat.le_refl _, Nat.le_refl _⟩ (by simp [Value.category, psh]) (c_bc (fun r56 e56 => ?_))
  refine aw_goto (tgt := 63) dX0_ruled_59 (by decide) ?_
  refine aw_is 0 dX0_ruled_63 hH.2.2.2.2.2.2.2.2.2.2.2.2.2.2.2.2.2 rfl (by decide) (by decide) ?_
  refine aw_aload_n dX0_ruled_64 rfl rfl ?_
  refine aw_gr dX0_ruled_65 fw_X0_33 hH.1 hH.2.2.2.2.2.2.2.2.2.1 ?_
  refine aw_iconst (v := 1) dX0_ruled_68 (by decide) ?_
  refine aw_iload dX0_ruled_69 rfl ?_
  refine aw_if_eq (tgt := 83) dX0_ruled_71 (by decide) (fun zz => absurd zz (by decide)) (fun _ => ?_)
  refine aw_aload_n dX0_ruled_74 rfl rfl ?_
  refine aw_gr dX0_ruled_75 fw_X0_15 hH.1 hH.2.2.2.1 ?_
  refine aw_iload_n dX0_ruled_78 rfl ?_
  refine aw_ia c dX0_ruled_79 hH.2.2.2.2.2.2.2.2.2.2.2.1 rfl (by omega) (by decide) ?_
  refine aw_goto (tgt := 84) dX0_ruled_80 (by decide) ?_
  refine aw_is 1 dX0_ruled_84 hH.2.2.2.2.2.2.2.2.2.2.2.2.2.2.2.2.2 rfl (by decide) (by decide) ?_
  refine aw_aload_n dX0_ruled_85 rfl rfl ?_
  refine aw_gr dX0_ruled_86 fw_X0_33 hH.1 hH.2.2.2.2.2.2.2.2.2.1 ?_
  refine aw_iconst (v := 2) dX0_ruled_89 (by decide) ?_
  refine aw_aload_n dX0_ruled_90 rfl rfl ?_
  refine aw_gr dX0_ruled_91 fw_X0_27 hH.1 hH.2.2.2.2.2.2.2.1 ?_
  refine aw_iload_n dX0_ruled_94 rfl ?_
  refine aw_ia p dX0_ruled_95 hH.2.2.2.2.2.2.2.2.2.2.2.2.2.2.2.1 rfl (by omega) (by decide) ?_
  refine aw_is 2 dX0_ruled_96 hH.2.2.2.2.2.2.2.2.2.2.2.2.2.2.2.2.2 rfl (by decide) (by decide) ?_
  refine aw_aload_n dX0_ruled_97 rfl rfl ?_
  refine aw_gr dX0_ruled_98 fw_X0_33 hH.1 hH.2.2.2.2.2.2.2.2.2.1 ?_
  refine aw_iconst (v := 3) dX0_ruled_101 (by decide) ?_
  refine aw_aload_n dX0_ruled_102 rfl rfl ?_
  refine aw_gi dX0_ruled_103 fw_X0_44 hH.1 ?_
  refine aw_is 3 dX0_ruled_106 hH.2.2.2.2.2.2.2.2.2.2.2.2.2.2.2.2.2 rfl (by decide) (by decide) ?_
  refine aw_aload_n dX0_ruled_107 rfl rfl ?_
  refine aw_gr dX0_ruled_108 fw_X0_33 hH.1 hH.2.2.2.2.2.2.2.2.2.1 ?_
  refine aw_iconst (v := 4) dX0_ruled_111 (by decide) ?_
  refine aw_aload_n dX0_ruled_112 rfl rfl ?_
  refine aw_gr dX0_ruled_113 fw_X0_30 hH.1 hH.2.2.2.2.2.2.2.2.1 ?_
  refine aw_iload_n dX0_ruled_116 rfl ?_
  refine aw_ia p dX0_ruled_117 hH.2.2.2.2.2.2.2.2.2.2.2.2.2.2.2.2.1 rfl (by omega) (by decide) ?_
  refine aw_is 4 dX0_ruled_118 hH.2.2.2.2.2.2.2.2.2.2.2.2.2.2.2.2.2 rfl (by decide) (by decide) ?_
  refine aw_aload_n dX0_ruled_119 rfl rfl ?_
  refine aw_gr dX0_ruled_120 fw_X0_33 hH.1 hH.2.2.2.2.2.2.2.2.2.1 ?_
  refine aw_iconst (v := 5) dX0_ruled_123 (by decide) ?_
  refine aw_iload dX0_ruled_124 rfl ?_
  refine aw_if_eq (tgt := 133) dX0_ruled_126 (by decide) (fun zz => absurd zz (by decide)) (fun _ => ?_)
  refine aw_iload_n dX0_ruled_129 rfl ?_
  refine aw_goto (tgt := 134) dX0_ruled_130 (by decide) ?_
  refine aw_is 5 dX0_ruled_134 hH.2.2.2.2.2.2.2.2.2.2.2.2.2.2.2.2.2 rfl (by decide) (by decide) ?_
  refine aw_aload_n dX0_ruled_135 rfl rfl ?_
  refine aw_gr dX0_ruled_136 fw_X0_36 hH.1 hH.2.1 ?_
  refine aw_gr dX0_ruled_139 fw_X0_79 hS.1 hS.2.1 ?_
  refine aw_aload_n dX0_ruled_142 rfl rfl ?_
  refine aw_gi dX0_ruled_143 fw_X0_47 hH.1 ?_
  refine aw_ar ru dX0_ruled_146 hS.2.2.2.2 (by simp [iU]; exact hru) hRu.2.1 (by decide) hRu.2.2.1 ?_
  refine aw_iload_n dX0_ruled_147 rfl ?_
  refine aw_aload_n dX0_ruled_148 rfl rfl ?_
  refine aw_gr dX0_ruled_149 fw_X0_33 hH.1 hH.2.2.2.2.2.2.2.2.2.1 ?_
  refine aw_aload_n dX0_ruled_152 rfl rfl ?_
  refine aw_gr dX0_ruled_153 fw_X0_36 hH.1 hH.2.1 ?_
  refine aw_gr dX0_ruled_156 fw_X0_91 hS.1 hS.2.2.1 ?_
  refine aw_V3 dX0_ruled_159 cw_X0_94 ⟨_, _, rfl⟩ hRu.2.2.2.1.1 (by omega) ⟨Nat.le_refl _, Nat.le_refl _⟩ (by decide) (c_X4_worth0 (q := q) (mm := mm) (ma := ma) (mb := mb) (by omega) hRu.2.2.2.1 hH.2.2.2.2.2.2.2.2.2.2.2.2.2.2.2.2.2 hS.2.2.2.1 hRu.2.2.2.2.1 (by simp [iU, h8t]; exact hRu.2.2.2.2.2.1) (by simp [iU, h8t]; exact hRu.2.2.2.2.2.2.1) hRu.2.2.2.2.2.2.2.1 hRu.2.2.2.2.2.2.2.2.1 hRu.2.2.2.2.2.2.2.2.2.1 h83 (fun r159 I159 h159 e159 => ?_))
  refine aw_istore (ls' := [_, _, _, _, _, _]) dX0_ruled_162 (by decide) rfl rfl ?_
  refine aw_iload_n dX0_ruled_164 rfl ?_
  refine aw_iconst (v := 2) dX0_ruled_165 (by decide) ?_
  refine aw_icmp_ne (tgt := 173) dX0_ruled_166 (by decide) (fun _ => ?_) (fun zz => absurd zz (by decide))
  refine aw_bipush (v := -99) dX0_ruled_173 (by decide) ?_
  refine aw_bipush (v := 99) dX0_ruled_175 (by decide) ?_
  refine aw_iload dX0_ruled_177 rfl ?_
  refine aw_mmin dX0_ruled_179 ml_X0_100 (rm_ok (d' := 0) (by omega)) (by simp [Value.category, psh]) ?_
  refine aw_mmax dX0_ruled_182 ml_X0_106 (rm_ok (d' := 0) (by omega)) (by decide) ?_
  refine aw_ireturn (ty := .int) dX0_ruled_185 rfl rfl ?_
  refine hQ _ _ ?_ ?_
  · exact ((((((SamH.rf.up _ _).up _ _).up _ _).up _ _).up _ _).up _ _).s3 h159
  · rw [e159]
    show clV _ (wF _ _ _ _ []) = clV _ (wF _ _ _ _ [])
    refine congrArg (clV _) ?_
    rw [show (iU (iU (iU (iU (iU (iU I (h + 8) 0 _) (h + 8) 1 _) (h + 8) 2 _) (h + 8) 3 _) (h + 8) 4 _) (h + 8) 5 _) q = I q from SamH.up (SamH.up (SamH.up (SamH.up (SamH.up (SamH.up SamH.rf _ _) _ _) _ _) _ _) _ _) _ _ q hRu.2.2.2.2.2.2.2.2.2.1 hRu.2.2.2.2.2.2.2.2.2.2.1]
    refine wF_congr (fun k hk => ?_) _ _ _
    rcases (show k = 0 ∨ k = 1 ∨ k = 2 ∨ k = 3 ∨ k = 4 ∨ k = 5 by omega) with rfl | rfl | rfl | rfl | rfl | rfl <;> simp [iU, nmV, e56]
theorem c_X0_ruled1 {E : Ev} {d : Nat} {I : Mi} {L : Ml} {Z : Mz} {Q : Po} {h : Nat} {ru t q mm ma mb p c n : Nat} (hd : 2 ≤ d) (hH : HZ Z h) (hS : ShZ Z) (hRu : RuP I Z h ru t q mm ma mb) (hp : p < 5) (hn : I h 6 = nI n) (hn6 : n ≤ 6) (hc : c < n) (hh3 : h + 8 ≠ 3) (hQ : ∀ (rv : Int32) (I9 : Mi), SamH h I I9 → rv = rlC I h q ma mb mm 1 p c → Q (some (.int rv)) I9 L Z) : AC E yX0_ruled cX0_ruled 6 (some .int) d 0 0 [.ref h, .int 1, .int (nI p), .int (nI c)] I L Z Q := by
  refine ac_go (ls := [some (.ref h), some (.int 1), some (.int (nI p)), some (.int (nI c)), none, none]) (by decide +kernel) (Nat.le_of_ble_eq_true rfl) rfl ?_
  have hru := hRu.1
  have hr6 := hRu.2.1
  have h8t : ¬ t = h + 8 := hRu.2.2.2.2.2.2.2.2.2.2.2.2
  have h83 : h + 8 ≠ 3 := hh3
  refine aw_aload_n dX0_ruled_0 rfl rfl ?_
  refine aw_gi dX0_ruled_1 fw_X0_47 hH.1 ?_
  refine aw_if_lt (tgt := 31) dX0_ruled_4 (by decide) (fun zz => absurd zz (by rw [hru]; exact nI_pos (by omega))) (fun c4 => ?_)
  refine aw_aload_n dX0_ruled_7 rfl rfl ?_
  refine aw_gi dX0_ruled_8 fw_X0_47 hH.1 ?_
  refine aw_bipush (v := 6) dX0_ruled_11 (by decide) ?_
  refine aw_icmp_ge (tgt := 31) dX0_ruled_13 (by decide) (fun zz => absurd zz (by rw [hru]; exact nI_ge (b := 6) (by omega) (by decide))) (fun c13 => ?_)
  refine aw_aload_n dX0_ruled_16 rfl rfl ?_
  refine aw_gr dX0_ruled_17 fw_X0_36 hH.1 hH.2.1 ?_
  refine aw_gr dX0_ruled_20 fw_X0_79 hS.1 hS.2.1 ?_
  refine aw_aload_n dX0_ruled_23 rfl rfl ?_
  refine aw_gi dX0_ruled_24 fw_X0_47 hH.1 ?_
  refine aw_ar ru dX0_ruled_27 hS.2.2.2.2 hru hRu.2.1 (by decide) hRu.2.2.1 ?_
  refine aw_ifnonnull (tgt := 33) dX0_ruled_28 (by decide) ?_
  refine aw_aload_n dX0_ruled_33 rfl rfl ?_
  refine aw_iload_n dX0_ruled_34 rfl ?_
  refine aw_V1 dX0_ruled_35 cw_X0_65 ⟨_, _, rfl⟩ hH.1 (by omega) ⟨Nat.le_refl _, Nat.le_refl _⟩ (by decide) (c_X0_hasCup hH (fun c35 => ?_) (fun zz => absurd ⟨nI_pos (by omega), by rw [hn]; exact nI_ge hc (by omega)⟩ zz))
  refine aw_istore (ls' := [_, _, _, _, _, _]) dX0_ruled_38 (by decide) rfl rfl ?_
  refine aw_aload_n dX0_ruled_40 rfl rfl ?_
  refine aw_gr dX0_ruled_41 fw_X0_33 hH.1 hH.2.2.2.2.2.2.2.2.2.1 ?_
  refine aw_iconst (v := 0) dX0_ruled_44 (by decide) ?_
  refine aw_iload dX0_ruled_45 rfl ?_
  refine aw_if_eq (tgt := 62) dX0_ruled_47 (by decide) (fun zz => absurd zz (by decide)) (fun _ => ?_)
  refine aw_aload_n dX0_ruled_50 rfl rfl ?_
  refine aw_gr dX0_ruled_51 fw_X0_9 hH.1 hH.2.2.1 ?_
  refine aw_iload_n dX0_ruled_54 rfl ?_
  refine aw_ia c dX0_ruled_55 hH.2.2.2.2.2.2.2.2.2.2.1 rfl (by omega) (by decide) ?_
  refine aw_S1 dX0_ruled_56 cw_X0_85 (by omega) ⟨Nat.le_refl _, Nat.le_refl _⟩ (by simp [Value.category, psh]) (c_bc (fun r56 e56 => ?_))
  refine aw_goto (tgt := 63) dX0_ruled_59 (by decide) ?_
  refine aw_is 0 dX0_ruled_63 hH.2.2.2.2.2.2.2.2.2.2.2.2.2.2.2.2.2 rfl (by decide) (by decide) ?_
  refine aw_aload_n dX0_ruled_64 rfl rfl ?_
  refine aw_gr dX0_ruled_65 fw_X0_33 hH.1 hH.2.2.2.2.2.2.2.2.2.1 ?_
  refine aw_iconst (v := 1) dX0_ruled_68 (by decide) ?_
  refine aw_iload dX0_ruled_69 rfl ?_
  refine aw_if_eq (tgt := 83) dX0_ruled_71 (by decide) (fun zz => absurd zz (by decide)) (fun _ => ?_)
  refine aw_aload_n dX0_ruled_74 rfl rfl ?_
  refine aw_gr dX0_ruled_75 fw_X0_15 hH.1 hH.2.2.2.1 ?_
  refine aw_iload_n dX0_ruled_78 rfl ?_
  refine aw_ia c dX0_ruled_79 hH.2.2.2.2.2.2.2.2.2.2.2.1 rfl (by omega) (by decide) ?_
  refine aw_goto (tgt := 84) dX0_ruled_80 (by decide) ?_
  refine aw_is 1 dX0_ruled_84 hH.2.2.2.2.2.2.2.2.2.2.2.2.2.2.2.2.2 rfl (by decide) (by decide) ?_
  refine aw_aload_n dX0_ruled_85 rfl rfl ?_
  refine aw_gr dX0_ruled_86 fw_X0_33 hH.1 hH.2.2.2.2.2.2.2.2.2.1 ?_
  refine aw_iconst (v := 2) dX0_ruled_89 (by decide) ?_
  refine aw_aload_n dX0_ruled_90 rfl rfl ?_
  refine aw_gr dX0_ruled_91 fw_X0_27 hH.1 hH.2.2.2.2.2.2.2.1 ?_
  refine aw_iload_n dX0_ruled_94 rfl ?_
  refine aw_ia p dX0_ruled_95 hH.2.2.2.2.2.2.2.2.2.2.2.2.2.2.2.1 rfl (by omega) (by decide) ?_
  refine aw_is 2 dX0_ruled_96 hH.2.2.2.2.2.2.2.2.2.2.2.2.2.2.2.2.2 rfl (by decide) (by decide) ?_
  refine aw_aload_n dX0_ruled_97 rfl rfl ?_
  refine aw_gr dX0_ruled_98 fw_X0_33 hH.1 hH.2.2.2.2.2.2.2.2.2.1 ?_
  refine aw_iconst (v := 3) dX0_ruled_101 (by decide) ?_
  refine aw_aload_n dX0_ruled_102 rfl rfl ?_
  refine aw_gi dX0_ruled_103 fw_X0_44 hH.1 ?_
  refine aw_is 3 dX0_ruled_106 hH.2.2.2.2.2.2.2.2.2.2.2.2.2.2.2.2.2 rfl (by decide) (by decide) ?_
  refine aw_aload_n dX0_ruled_107 rfl rfl ?_
  refine aw_gr dX0_ruled_108 fw_X0_33 hH.1 hH.2.2.2.2.2.2.2.2.2.1 ?_
  refine aw_iconst (v := 4) dX0_ruled_111 (by decide) ?_
  refine aw_aload_n dX0_ruled_112 rfl rfl ?_
  refine aw_gr dX0_ruled_113 fw_X0_30 hH.1 hH.2.2.2.2.2.2.2.2.1 ?_
  refine aw_iload_n dX0_ruled_116 rfl ?_
  refine aw_ia p dX0_ruled_117 hH.2.2.2.2.2.2.2.2.2.2.2.2.2.2.2.2.1 rfl (by omega) (by decide) ?_
  refine aw_is 4 dX0_ruled_118 hH.2.2.2.2.2.2.2.2.2.2.2.2.2.2.2.2.2 rfl (by decide) (by decide) ?_
  refine aw_aload_n dX0_ruled_119 rfl rfl ?_
  refine aw_gr dX0_ruled_120 fw_X0_33 hH.1 hH.2.2.2.2.2.2.2.2.2.1 ?_
  refine aw_iconst (v := 5) dX0_ruled_123 (by decide) ?_
  refine aw_iload dX0_ruled_124 rfl ?_
  refine aw_if_eq (tgt := 133) dX0_ruled_126 (by decide) (fun zz => absurd zz (by decide)) (fun _ => ?_)
  refine aw_iload_n dX0_ruled_129 rfl ?_
  refine aw_goto (tgt := 134) dX0_ruled_130 (by decide) ?_
  refine aw_is 5 dX0_ruled_134 hH.2.2.2.2.2.2.2.2.2.2.2.2.2.2.2.2.2 rfl (by decide) (by decide) ?_
  refine aw_aload_n dX0_ruled_135 rfl rfl ?_
  refine aw_gr dX0_ruled_136 fw_X0_36 hH.1 hH.2.1 ?_
  refine aw_gr dX0_ruled_139 fw_X0_79 hS.1 hS.2.1 ?_
  refine aw_aload_n dX0_ruled_142 rfl rfl ?_
  refine aw_gi dX0_ruled_143 fw_X0_47 hH.1 ?_
  refine aw_ar ru dX0_ruled_146 hS.2.2.2.2 (by simp [iU]; exact hru) hRu.2.1 (by decide) hRu.2.2.1 ?_
  refine aw_iload_n dX0_ruled_147 rfl ?_
  refine aw_aload_n dX0_ruled_148 rfl rfl ?_
  refine aw_gr dX0_ruled_149 fw_X0_33 hH.1 hH.2.2.2.2.2.2.2.2.2.1 ?_
  refine aw_aload_n dX0_ruled_152 rfl rfl ?_
  refine aw_gr dX0_ruled_153 fw_X0_36 hH.1 hH.2.1 ?_
  refine aw_gr dX0_ruled_156 fw_X0_91 hS.1 hS.2.2.1 ?_
  refine aw_V3 dX0_ruled_159 cw_X0_94 ⟨_, _, rfl⟩ hRu.2.2.2.1.1 (by omega) ⟨Nat.le_refl _, Nat.le_refl _⟩ (by decide) (c_X4_worth1 (q := q) (mm := mm) (ma := ma) (mb := mb) (by omega) hRu.2.2.2.1 hH.2.2.2.2.2.2.2.2.2.2.2.2.2.2.2.2.2 hS.2.2.2.1 hRu.2.2.2.2.1 (by simp [iU, h8t]; exact hRu.2.2.2.2.2.1) (by simp [iU, h8t]; exact hRu.2.2.2.2.2.2.1) hRu.2.2.2.2.2.2.2.1 hRu.2.2.2.2.2.2.2.2.1 hRu.2.2.2.2.2.2.2.2.2.1 h83 (fun r159 I159 h159 e159 => ?_))
  refine aw_istore (ls' := [_, _, _, _, _, _]) dX0_ruled_162 (by decide) rfl rfl ?_
  refine aw_iload_n dX0_ruled_164 rfl ?_
  refine aw_iconst (v := 2) dX0_ruled_165 (by decide) ?_
  refine aw_icmp_ne (tgt := 173) dX0_ruled_166 (by decide) (fun _ => ?_) (fun zz => absurd zz (by decide))
  refine aw_bipush (v := -99) dX0_ruled_173 (by decide) ?_
  refine aw_bipush (v := 99) dX0_ruled_175 (by decide) ?_
  refine aw_iload dX0_ruled_177 rfl ?_
  refine aw_mmin dX0_ruled_179 ml_X0_100 (rm_ok (d' := 0) (by omega)) (by simp [Value.category, psh]) ?_
  refine aw_mmax dX0_ruled_182 ml_X0_106 (rm_ok (d' := 0) (by omega)) (by decide) ?_
  refine aw_ireturn (ty := .int) dX0_ruled_185 rfl rfl ?_
  refine hQ _ _ ?_ ?_
  · exact ((((((SamH.rf.up _ _).up _ _).up _ _).up _ _).up _ _).up _ _).s3 h159
  · rw [e159]
    show clV _ (wF _ _ _ _ []) = clV _ (wF _ _ _ _ [])
    refine congrArg (clV _) ?_
    rw [show (iU (iU (iU (iU (iU (iU I (h + 8) 0 _) (h + 8) 1 _) (h + 8) 2 _) (h + 8) 3 _) (h + 8) 4 _) (h + 8) 5 _) q = I q from SamH.up (SamH.up (SamH.up (SamH.up (SamH.up (SamH.up SamH.rf _ _) _ _) _ _) _ _) _ _) _ _ q hRu.2.2.2.2.2.2.2.2.2.1 hRu.2.2.2.2.2.2.2.2.2.2.1]
    refine wF_congr (fun k hk => ?_) _ _ _
    rcases (show k = 0 ∨ k = 1 ∨ k = 2 ∨ k = 3 ∨ k = 4 ∨ k = 5 by omega) with rfl | rfl | rfl | rfl | rfl | rfl <;> simp [iU, nmV, e56]
theorem c_X0_ruled2 {E : Ev} {d : Nat} {I : Mi} {L : Ml} {Z : Mz} {Q : Po} {h : Nat} {ru t q mm ma mb p : Nat} (hd : 2 ≤ d) (hH : HZ Z h) (hS : ShZ Z) (hRu : RuP I Z h ru t q mm ma mb) (hp : p < 5) (hh3 : h + 8 ≠ 3) (hQ : ∀ (rv : Int32) (I9 : Mi), SamH h I I9 → rv = rlN I h q ma mb mm 2 p → Q (some (.int rv)) I9 L Z) : AC E yX0_ruled cX0_ruled 6 (some .int) d 0 0 [.ref h, .int 2, .int (nI p), .int (-1)] I L Z Q := by
  refine ac_go (ls := [some (.ref h), some (.int 2), some (.int (nI p)), some (.int (-1)), none, none]) (by decide +kernel) (Nat.le_of_ble_eq_true rfl) rfl ?_
  have hru := hRu.1
  have hr6 := hRu.2.1
  have h8t : ¬ t = h + 8 := hRu.2.2.2.2.2.2.2.2.2.2.2.2
  have h83 : h + 8 ≠ 3 := hh3
  refine aw_aload_n dX0_ruled_0 rfl rfl ?_
  refine aw_gi dX0_ruled_1 fw_X0_47 hH.1 ?_
  refine aw_if_lt (tgt := 31) dX0_ruled_4 (by decide) (fun zz => absurd zz (by rw [hru]; exact nI_pos (by omega))) (fun c4 => ?_)
  refine aw_aload_n dX0_ruled_7 rfl rfl ?_
  refine aw_gi dX0_ruled_8 fw_X0_47 hH.1 ?_
  refine aw_bipush (v := 6) dX0_ruled_11 (by decide) ?_
  refine aw_icmp_ge (tgt := 31) dX0_ruled_13 (by decide) (fun zz => absurd zz (by rw [hru]; exact nI_ge (b := 6) (by omega) (by decide))) (fun c13 => ?_)
  refine aw_aload_n dX0_ruled_16 rfl rfl ?_
  refine aw_gr dX0_ruled_17 fw_X0_36 hH.1 hH.2.1 ?_
  refine aw_gr dX0_ruled_20 fw_X0_79 hS.1 hS.2.1 ?_
  refine aw_aload_n dX0_ruled_23 rfl rfl ?_
  refine aw_gi dX0_ruled_24 fw_X0_47 hH.1 ?_
  refine aw_ar ru dX0_ruled_27 hS.2.2.2.2 hru hRu.2.1 (by decide) hRu.2.2.1 ?_
  refine aw_ifnonnull (tgt := 33) dX0_ruled_28 (by decide) ?_
  refine aw_aload_n dX0_ruled_33 rfl rfl ?_
  refine aw_iload_n dX0_ruled_34 rfl ?_
  refine aw_V1 dX0_ruled_35 cw_X0_65 ⟨_, _, rfl⟩ hH.1 (by omega) ⟨Nat.le_refl _, Nat.le_refl _⟩ (by decide) (c_X0_hasCup hH (fun zz => absurd zz (fun w => w.1 (by decide))) (fun c35 => ?_))
  refine aw_istore (ls' := [_, _, _, _, _, _]) dX0_ruled_38 (by decide) rfl rfl ?_
  refine aw_aload_n dX0_ruled_40 rfl rfl ?_
  refine aw_gr dX0_ruled_41 fw_X0_33 hH.1 hH.2.2.2.2.2.2.2.2.2.1 ?_
  refine aw_iconst (v := 0) dX0_ruled_44 (by decide) ?_
  refine aw_iload dX0_ruled_45 rfl ?_
  refine aw_if_eq (tgt := 62) dX0_ruled_47 (by decide) (fun _ => ?_) (fun zz => absurd zz (by decide))
  refine aw_iconst (v := 0) dX0_ruled_62 (by decide) ?_
  refine aw_is 0 dX0_ruled_63 hH.2.2.2.2.2.2.2.2.2.2.2.2.2.2.2.2.2 rfl (by decide) (by decide) ?_
  refine aw_aload_n dX0_ruled_64 rfl rfl ?_
  refine aw_gr dX0_ruled_65 fw_X0_33 hH.1 hH.2.2.2.2.2.2.2.2.2.1 ?_
  refine aw_iconst (v := 1) dX0_ruled_68 (by decide) ?_
  refine aw_iload dX0_ruled_69 rfl ?_
  refine aw_if_eq (tgt := 83) dX0_ruled_71 (by decide) (fun _ => ?_) (fun zz => absurd zz (by decide))
  refine aw_iconst (v := 0) dX0_ruled_83 (by decide) ?_
  refine aw_is 1 dX0_ruled_84 hH.2.2.2.2.2.2.2.2.2.2.2.2.2.2.2.2.2 rfl (by decide) (by decide) ?_
  refine aw_aload_n dX0_ruled_85 rfl rfl ?_
  refine aw_gr dX0_ruled_86 fw_X0_33 hH.1 hH.2.2.2.2.2.2.2.2.2.1 ?_
  refine aw_iconst (v := 2) dX0_ruled_89 (by decide) ?_
  refine aw_aload_n dX0_ruled_90 rfl rfl ?_
  refine aw_gr dX0_ruled_91 fw_X0_27 hH.1 hH.2.2.2.2.2.2.2.1 ?_
  refine aw_iload_n dX0_ruled_94 rfl ?_
  refine aw_ia p dX0_ruled_95 hH.2.2.2.2.2.2.2.2.2.2.2.2.2.2.2.1 rfl (by omega) (by decide) ?_
  refine aw_is 2 dX0_ruled_96 hH.2.2.2.2.2.2.2.2.2.2.2.2.2.2.2.2.2 rfl (by decide) (by decide) ?_
  refine aw_aload_n dX0_ruled_97 rfl rfl ?_
  refine aw_gr dX0_ruled_98 fw_X0_33 hH.1 hH.2.2.2.2.2.2.2.2.2.1 ?_
  refine aw_iconst (v := 3) dX0_ruled_101 (by decide) ?_
  refine aw_aload_n dX0_ruled_102 rfl rfl ?_
  refine aw_gi dX0_ruled_103 fw_X0_44 hH.1 ?_
  refine aw_is 3 dX0_ruled_106 hH.2.2.2.2.2.2.2.2.2.2.2.2.2.2.2.2.2 rfl (by decide) (by decide) ?_
  refine aw_aload_n dX0_ruled_107 rfl rfl ?_
  refine aw_gr dX0_ruled_108 fw_X0_33 hH.1 hH.2.2.2.2.2.2.2.2.2.1 ?_
  refine aw_iconst (v := 4) dX0_ruled_111 (by decide) ?_
  refine aw_aload_n dX0_ruled_112 rfl rfl ?_
  refine aw_gr dX0_ruled_113 fw_X0_30 hH.1 hH.2.2.2.2.2.2.2.2.1 ?_
  refine aw_iload_n dX0_ruled_116 rfl ?_
  refine aw_ia p dX0_ruled_117 hH.2.2.2.2.2.2.2.2.2.2.2.2.2.2.2.2.1 rfl (by omega) (by decide) ?_
  refine aw_is 4 dX0_ruled_118 hH.2.2.2.2.2.2.2.2.2.2.2.2.2.2.2.2.2 rfl (by decide) (by decide) ?_
  refine aw_aload_n dX0_ruled_119 rfl rfl ?_
  refine aw_gr dX0_ruled_120 fw_X0_33 hH.1 hH.2.2.2.2.2.2.2.2.2.1 ?_
  refine aw_iconst (v := 5) dX0_ruled_123 (by decide) ?_
  refine aw_iload dX0_ruled_124 rfl ?_
  refine aw_if_eq (tgt := 133) dX0_ruled_126 (by decide) (fun _ => ?_) (fun zz => absurd zz (by decide))
  refine aw_iconst (v := 0) dX0_ruled_133 (by decide) ?_
  refine aw_is 5 dX0_ruled_134 hH.2.2.2.2.2.2.2.2.2.2.2.2.2.2.2.2.2 rfl (by decide) (by decide) ?_
  refine aw_aload_n dX0_ruled_135 rfl rfl ?_
  refine aw_gr dX0_ruled_136 fw_X0_36 hH.1 hH.2.1 ?_
  refine aw_gr dX0_ruled_139 fw_X0_79 hS.1 hS.2.1 ?_
  refine aw_aload_n dX0_ruled_142 rfl rfl ?_
  refine aw_gi dX0_ruled_143 fw_X0_47 hH.1 ?_
  refine aw_ar ru dX0_ruled_146 hS.2.2.2.2 (by simp [iU]; exact hru) hRu.2.1 (by decide) hRu.2.2.1 ?_
  refine aw_iload_n dX0_ruled_147 rfl ?_
  refine aw_aload_n dX0_ruled_148 rfl rfl ?_
  refine aw_gr dX0_ruled_149 fw_X0_33 hH.1 hH.2.2.2.2.2.2.2.2.2.1 ?_
  refine aw_aload_n dX0_ruled_152 rfl rfl ?_
  refine aw_gr dX0_ruled_153 fw_X0_36 hH.1 hH.2.1 ?_
  refine aw_gr dX0_ruled_156 fw_X0_91 hS.1 hS.2.2.1 ?_
  refine aw_V3 dX0_ruled_159 cw_X0_94 ⟨_, _, rfl⟩ hRu.2.2.2.1.1 (by omega) ⟨Nat.le_refl _, Nat.le_refl _⟩ (by decide) (c_X4_worth2 (q := q) (mm := mm) (ma := ma) (mb := mb) (by omega) hRu.2.2.2.1 hH.2.2.2.2.2.2.2.2.2.2.2.2.2.2.2.2.2 hS.2.2.2.1 hRu.2.2.2.2.1 (by simp [iU, h8t]; exact hRu.2.2.2.2.2.1) (by simp [iU, h8t]; exact hRu.2.2.2.2.2.2.1) hRu.2.2.2.2.2.2.2.1 hRu.2.2.2.2.2.2.2.2.1 hRu.2.2.2.2.2.2.2.2.2.1 h83 (fun r159 I159 h159 e159 => ?_))
  refine aw_istore (ls' := [_, _, _, _, _, _]) dX0_ruled_162 (by decide) rfl rfl ?_
  refine aw_iload_n dX0_ruled_164 rfl ?_
  refine aw_iconst (v := 2) dX0_ruled_165 (by decide) ?_
  refine aw_icmp_ne (tgt := 173) dX0_ruled_166 (by decide) (fun zz => absurd zz (by decide)) (fun _ => ?_)
  refine aw_iconst (v := 0) dX0_ruled_169 (by decide) ?_
  refine aw_goto (tgt := 175) dX0_ruled_170 (by decide) ?_
  refine aw_bipush (v := 99) dX0_ruled_175 (by decide) ?_
  refine aw_iload dX0_ruled_177 rfl ?_
  refine aw_mmin dX0_ruled_179 ml_X0_100 (rm_ok (d' := 0) (by omega)) (by simp [Value.category, psh]) ?_
  refine aw_mmax dX0_ruled_182 ml_X0_106 (rm_ok (d' := 0) (by omega)) (by decide) ?_
  refine aw_ireturn (ty := .int) dX0_ruled_185 rfl rfl ?_
  refine hQ _ _ ?_ ?_
  · exact ((((((SamH.rf.up _ _).up _ _).up _ _).up _ _).up _ _).up _ _).s3 h159
  · rw [e159]
    show clV _ (wF _ _ _ _ []) = clV _ (wF _ _ _ _ [])
    refine congrArg (clV _) ?_
    rw [show (iU (iU (iU (iU (iU (iU I (h + 8) 0 _) (h + 8) 1 _) (h + 8) 2 _) (h + 8) 3 _) (h + 8) 4 _) (h + 8) 5 _) q = I q from SamH.up (SamH.up (SamH.up (SamH.up (SamH.up (SamH.up SamH.rf _ _) _ _) _ _) _ _) _ _) _ _ q hRu.2.2.2.2.2.2.2.2.2.1 hRu.2.2.2.2.2.2.2.2.2.2.1]
    refine wF_congr (fun k hk => ?_) _ _ _
    rcases (show k = 0 ∨ k = 1 ∨ k = 2 ∨ k = 3 ∨ k = 4 ∨ k = 5 by omega) with rfl | rfl | rfl | rfl | rfl | rfl <;> simp [iU, nmV]
