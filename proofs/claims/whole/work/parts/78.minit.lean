/-! ===== the reference: its constructor ===== -/
def kM (a : Nat) : Nat := [6, 7, 7, 7, 7, 7, 7, 7, 7, 7, 7, 7, 8, 7, 7, 7].getD (a - 48) 0
def lM (a : Nat) : Nat := [0, 960, 6, 160, 12, 26, 5, 10, 10, 12, 26, 10, 4, 4, 4, 160].getD (a - 48) 0
theorem c_X6_spell {E : Ev} {d : Nat} {I : Mi} {L : Ml} {Z : Mz} {Q : Po} {xa : Int32} {xb : Int32} {xc : Int32} {xd : Int32} {xe : Int32} {xf : Int32} {xg : Int32} {xh : Int32} {t : Nat} (hO : ObjZ Z 48 6) (hp : zP Z 48 1 = some 49) (hA : ArrI Z 49 960) (ht : t < 900) (hQ : Q none (iU (iU (iU (iU (iU (iU (iU (iU I 49 t xa) 49 (t + 1) xb) 49 (t + 2) xc) 49 (t + 3) xd) 49 (t + 4) xe) 49 (t + 5) xf) 49 (t + 6) xg) 49 (t + 7) xh) L Z) : AC E yX6_spell cX6_spell 10 none d 0 0 [.ref 48, .int (nI t), .int xa, .int xb, .int xc, .int xd, .int xe, .int xf, .int xg, .int xh] I L Z Q := by
  refine ac_go (ls := [some (.ref 48), some (.int (nI t)), some (.int xa), some (.int xb), some (.int xc), some (.int xd), some (.int xe), some (.int xf), some (.int xg), some (.int xh)]) (by decide +kernel) (Nat.le_of_ble_eq_true rfl) rfl ?_
  refine aw_aload_n dX6_spell_0 rfl rfl ?_
  refine aw_gr dX6_spell_1 fw_X6_13 hO hp ?_
  refine aw_iload_n dX6_spell_4 rfl ?_
  refine aw_iload_n dX6_spell_5 rfl ?_
  refine aw_is t dX6_spell_6 hA rfl (by omega) (by decide) ?_
  refine aw_aload_n dX6_spell_7 rfl rfl ?_
  refine aw_gr dX6_spell_8 fw_X6_13 hO hp ?_
  refine aw_iload_n dX6_spell_11 rfl ?_
  refine aw_iconst (v := 1) dX6_spell_12 (by decide) ?_
  refine aw_iadd dX6_spell_13 ?_
  refine aw_iload_n dX6_spell_14 rfl ?_
  refine aw_is (t + 1) dX6_spell_15 hA (nI_add t 1) (by omega) (by decide) ?_
  refine aw_aload_n dX6_spell_16 rfl rfl ?_
  refine aw_gr dX6_spell_17 fw_X6_13 hO hp ?_
  refine aw_iload_n dX6_spell_20 rfl ?_
  refine aw_iconst (v := 2) dX6_spell_21 (by decide) ?_
  refine aw_iadd dX6_spell_22 ?_
  refine aw_iload dX6_spell_23 rfl ?_
  refine aw_is (t + 2) dX6_spell_25 hA (nI_add t 2) (by omega) (by decide) ?_
  refine aw_aload_n dX6_spell_26 rfl rfl ?_
  refine aw_gr dX6_spell_27 fw_X6_13 hO hp ?_
  refine aw_iload_n dX6_spell_30 rfl ?_
  refine aw_iconst (v := 3) dX6_spell_31 (by decide) ?_
  refine aw_iadd dX6_spell_32 ?_
  refine aw_iload dX6_spell_33 rfl ?_
  refine aw_is (t + 3) dX6_spell_35 hA (nI_add t 3) (by omega) (by decide) ?_
  refine aw_aload_n dX6_spell_36 rfl rfl ?_
  refine aw_gr dX6_spell_37 fw_X6_13 hO hp ?_
  refine aw_iload_n dX6_spell_40 rfl ?_
  refine aw_iconst (v := 4) dX6_spell_41 (by decide) ?_
  refine aw_iadd dX6_spell_42 ?_
  refine aw_iload dX6_spell_43 rfl ?_
  refine aw_is (t + 4) dX6_spell_45 hA (nI_add t 4) (by omega) (by decide) ?_
  refine aw_aload_n dX6_spell_46 rfl rfl ?_
  refine aw_gr dX6_spell_47 fw_X6_13 hO hp ?_
  refine aw_iload_n dX6_spell_50 rfl ?_
  refine aw_iconst (v := 5) dX6_spell_51 (by decide) ?_
  refine aw_iadd dX6_spell_52 ?_
  refine aw_iload dX6_spell_53 rfl ?_
  refine aw_is (t + 5) dX6_spell_55 hA (nI_add t 5) (by omega) (by decide) ?_
  refine aw_aload_n dX6_spell_56 rfl rfl ?_
  refine aw_gr dX6_spell_57 fw_X6_13 hO hp ?_
  refine aw_iload_n dX6_spell_60 rfl ?_
  refine aw_bipush (v := 6) dX6_spell_61 (by decide) ?_
  refine aw_iadd dX6_spell_63 ?_
  refine aw_iload dX6_spell_64 rfl ?_
  refine aw_is (t + 6) dX6_spell_66 hA (nI_add t 6) (by omega) (by decide) ?_
  refine aw_aload_n dX6_spell_67 rfl rfl ?_
  refine aw_gr dX6_spell_68 fw_X6_13 hO hp ?_
  refine aw_iload_n dX6_spell_71 rfl ?_
  refine aw_bipush (v := 7) dX6_spell_72 (by decide) ?_
  refine aw_iadd dX6_spell_74 ?_
  refine aw_iload dX6_spell_75 rfl ?_
  refine aw_is (t + 7) dX6_spell_77 hA (nI_add t 7) (by omega) (by decide) ?_
  refine aw_return dX6_spell_78 rfl ?_
  exact hQ
theorem c_X6_init {E : Ev} {d : Nat} {I : Mi} {L : Ml} {Q : Po} {P : Nat → Nat → Option Nat} {K Ln : Nat → Nat} (hd : 2 ≤ d) (hK : ∀ a, 48 ≤ a → a < 64 → K a = kM a ∧ Ln a = lM a) (hI : ∀ b, 48 ≤ b → I b = fun _ => 0) (hQ : ∀ (J : Mi) (Y : Mz), (∀ b, b < 48 → J b = I b) → (∀ j, j < 40 → J 49 j = m0 j) → J 50 0 = nI 40 → J 48 3 = nI 1 → J 48 36 = -1 → (∀ j, j ≠ 3 → j ≠ 36 → J 48 j = 0) → (∀ b j, 51 ≤ b → J b j = 0) → Gro (P, K, Ln, 48) Y → zP Y 2 = P 2 → MZ Y → zK Y 2 = K 2 → Q none J L Y) : AC E yX6_init cX6_init 1 none d 15 1409 [.ref 48] I L (P, K, Ln, 49) Q := by
  refine ac_go (ls := [some (.ref 48)]) (by decide +kernel) (Nat.le_of_ble_eq_true rfl) rfl ?_
  refine aw_aload_n dX6_init_0 rfl rfl ?_
  refine aw_objInit dX6_init_1 cw_X6_7 oi_ok.1 oi_ok.2 ⟨by show 1 ≤ d; omega, by show 20 ≤ 64 * d; omega⟩ (by decide) ?_
  refine aw_aload_n dX6_init_4 rfl rfl ?_
  refine aw_sipush (v := 960) dX6_init_5 (by decide) ?_
  refine aw_niT (n := 49) (N := 960) dX6_init_8 (by decide) (by decide) (by decide) (show 0 + 1 ≤ 15 by decide) (show 0 + 960 ≤ 1409 by decide) (hK 49 (by decide) (by decide)).1 (hK 49 (by decide) (by decide)).2 (hI 49 (by decide)) ?_
  refine aw_pp dX6_init_10 fw_X6_13 ww_X6_13 (show ObjZ _ 48 6 from ⟨by show 48 < 50; decide, (hK 48 (by decide) (by decide)).1⟩) ?_
  refine aw_aload_n dX6_init_13 rfl rfl ?_
  refine aw_bipush (v := 6) dX6_init_14 (by decide) ?_
  refine aw_niT (n := 50) (N := 6) dX6_init_16 (by decide) (by decide) (by decide) (show 1 + 1 ≤ 15 by decide) (show 960 + 6 ≤ 1409 by decide) (hK 50 (by decide) (by decide)).1 (hK 50 (by decide) (by decide)).2 (hI 50 (by decide)) ?_
  refine aw_pp dX6_init_18 fw_X6_17 ww_X6_17 (show ObjZ _ 48 6 from ⟨by show 48 < 51; decide, (hK 48 (by decide) (by decide)).1⟩) ?_
  refine aw_aload_n dX6_init_21 rfl rfl ?_
  refine aw_sipush (v := 160) dX6_init_22 (by decide) ?_
  refine aw_niT (n := 51) (N := 160) dX6_init_25 (by decide) (by decide) (by decide) (show 2 + 1 ≤ 15 by decide) (show 966 + 160 ≤ 1409 by decide) (hK 51 (by decide) (by decide)).1 (hK 51 (by decide) (by decide)).2 (hI 51 (by decide)) ?_
  refine aw_pp dX6_init_27 fw_X6_20 ww_X6_20 (show ObjZ _ 48 6 from ⟨by show 48 < 52; decide, (hK 48 (by decide) (by decide)).1⟩) ?_
  refine aw_aload_n dX6_init_30 rfl rfl ?_
  refine aw_bipush (v := 12) dX6_init_31 (by decide) ?_
  refine aw_niT (n := 52) (N := 12) dX6_init_33 (by decide) (by decide) (by decide) (show 3 + 1 ≤ 15 by decide) (show 1126 + 12 ≤ 1409 by decide) (hK 52 (by decide) (by decide)).1 (hK 52 (by decide) (by decide)).2 (hI 52 (by decide)) ?_
  refine aw_pp dX6_init_35 fw_X6_23 ww_X6_23 (show ObjZ _ 48 6 from ⟨by show 48 < 53; decide, (hK 48 (by decide) (by decide)).1⟩) ?_
  refine aw_aload_n dX6_init_38 rfl rfl ?_
  refine aw_bipush (v := 26) dX6_init_39 (by decide) ?_
  refine aw_niT (n := 53) (N := 26) dX6_init_41 (by decide) (by decide) (by decide) (show 4 + 1 ≤ 15 by decide) (show 1138 + 26 ≤ 1409 by decide) (hK 53 (by decide) (by decide)).1 (hK 53 (by decide) (by decide)).2 (hI 53 (by decide)) ?_
  refine aw_pp dX6_init_43 fw_X6_26 ww_X6_26 (show ObjZ _ 48 6 from ⟨by show 48 < 54; decide, (hK 48 (by decide) (by decide)).1⟩) ?_
  refine aw_aload_n dX6_init_46 rfl rfl ?_
  refine aw_iconst (v := 5) dX6_init_47 (by decide) ?_
  refine aw_niT (n := 54) (N := 5) dX6_init_48 (by decide) (by decide) (by decide) (show 5 + 1 ≤ 15 by decide) (show 1164 + 5 ≤ 1409 by decide) (hK 54 (by decide) (by decide)).1 (hK 54 (by decide) (by decide)).2 (hI 54 (by decide)) ?_
  refine aw_pp dX6_init_50 fw_X6_29 ww_X6_29 (show ObjZ _ 48 6 from ⟨by show 48 < 55; decide, (hK 48 (by decide) (by decide)).1⟩) ?_
  refine aw_aload_n dX6_init_53 rfl rfl ?_
  refine aw_bipush (v := 10) dX6_init_54 (by decide) ?_
  refine aw_niT (n := 55) (N := 10) dX6_init_56 (by decide) (by decide) (by decide) (show 6 + 1 ≤ 15 by decide) (show 1169 + 10 ≤ 1409 by decide) (hK 55 (by decide) (by decide)).1 (hK 55 (by decide) (by decide)).2 (hI 55 (by decide)) ?_
  refine aw_pp dX6_init_58 fw_X6_32 ww_X6_32 (show ObjZ _ 48 6 from ⟨by show 48 < 56; decide, (hK 48 (by decide) (by decide)).1⟩) ?_
  refine aw_aload_n dX6_init_61 rfl rfl ?_
  refine aw_bipush (v := 10) dX6_init_62 (by decide) ?_
  refine aw_niT (n := 56) (N := 10) dX6_init_64 (by decide) (by decide) (by decide) (show 7 + 1 ≤ 15 by decide) (show 1179 + 10 ≤ 1409 by decide) (hK 56 (by decide) (by decide)).1 (hK 56 (by decide) (by decide)).2 (hI 56 (by decide)) ?_
  refine aw_pp dX6_init_66 fw_X6_35 ww_X6_35 (show ObjZ _ 48 6 from ⟨by show 48 < 57; decide, (hK 48 (by decide) (by decide)).1⟩) ?_
  refine aw_aload_n dX6_init_69 rfl rfl ?_
  refine aw_bipush (v := 12) dX6_init_70 (by decide) ?_
  refine aw_niT (n := 57) (N := 12) dX6_init_72 (by decide) (by decide) (by decide) (show 8 + 1 ≤ 15 by decide) (show 1189 + 12 ≤ 1409 by decide) (hK 57 (by decide) (by decide)).1 (hK 57 (by decide) (by decide)).2 (hI 57 (by decide)) ?_
  refine aw_pp dX6_init_74 fw_X6_38 ww_X6_38 (show ObjZ _ 48 6 from ⟨by show 48 < 58; decide, (hK 48 (by decide) (by decide)).1⟩) ?_
  refine aw_aload_n dX6_init_77 rfl rfl ?_
  refine aw_bipush (v := 26) dX6_init_78 (by decide) ?_
  refine aw_niT (n := 58) (N := 26) dX6_init_80 (by decide) (by decide) (by decide) (show 9 + 1 ≤ 15 by decide) (show 1201 + 26 ≤ 1409 by decide) (hK 58 (by decide) (by decide)).1 (hK 58 (by decide) (by decide)).2 (hI 58 (by decide)) ?_
  refine aw_pp dX6_init_82 fw_X6_41 ww_X6_41 (show ObjZ _ 48 6 from ⟨by show 48 < 59; decide, (hK 48 (by decide) (by decide)).1⟩) ?_
  refine aw_aload_n dX6_init_85 rfl rfl ?_
  refine aw_bipush (v := 10) dX6_init_86 (by decide) ?_
  refine aw_niT (n := 59) (N := 10) dX6_init_88 (by decide) (by decide) (by decide) (show 10 + 1 ≤ 15 by decide) (show 1227 + 10 ≤ 1409 by decide) (hK 59 (by decide) (by decide)).1 (hK 59 (by decide) (by decide)).2 (hI 59 (by decide)) ?_
  refine aw_pp dX6_init_90 fw_X6_44 ww_X6_44 (show ObjZ _ 48 6 from ⟨by show 48 < 60; decide, (hK 48 (by decide) (by decide)).1⟩) ?_
  refine aw_aload_n dX6_init_93 rfl rfl ?_
  refine aw_iconst (v := -1) dX6_init_94 (by decide) ?_
  refine aw_pi dX6_init_95 fw_X6_47 (ww_X6_47 _) (show ObjZ _ 48 6 from ⟨by show 48 < 60; decide, (hK 48 (by decide) (by decide)).1⟩) rfl ?_
  refine aw_aload_n dX6_init_98 rfl rfl ?_
  refine aw_iconst (v := 4) dX6_init_99 (by decide) ?_
  refine aw_nzT (n := 60) (N := 4) dX6_init_100 (by decide) (by decide) (by decide) (show 11 + 1 ≤ 15 by decide) (show 1237 + 4 ≤ 1409 by decide) (hK 60 (by decide) (by decide)).1 (hK 60 (by decide) (by decide)).2 ((show iU I 48 36 (-1) 60 = I 60 from funext fun j => iU_at (by omega)).trans (hI 60 (by decide))) ?_
  refine aw_pp dX6_init_102 fw_X6_50 ww_X6_50 (show ObjZ _ 48 6 from ⟨by show 48 < 61; decide, (hK 48 (by decide) (by decide)).1⟩) ?_
  refine aw_aload_n dX6_init_105 rfl rfl ?_
  refine aw_iconst (v := 4) dX6_init_106 (by decide) ?_
  refine aw_niT (n := 61) (N := 4) dX6_init_107 (by decide) (by decide) (by decide) (show 12 + 1 ≤ 15 by decide) (show 1241 + 4 ≤ 1409 by decide) (hK 61 (by decide) (by decide)).1 (hK 61 (by decide) (by decide)).2 ((show iU I 48 36 (-1) 61 = I 61 from funext fun j => iU_at (by omega)).trans (hI 61 (by decide))) ?_
  refine aw_pp dX6_init_109 fw_X6_54 ww_X6_54 (show ObjZ _ 48 6 from ⟨by show 48 < 62; decide, (hK 48 (by decide) (by decide)).1⟩) ?_
  refine aw_aload_n dX6_init_112 rfl rfl ?_
  refine aw_iconst (v := 4) dX6_init_113 (by decide) ?_
  refine aw_niT (n := 62) (N := 4) dX6_init_114 (by decide) (by decide) (by decide) (show 13 + 1 ≤ 15 by decide) (show 1245 + 4 ≤ 1409 by decide) (hK 62 (by decide) (by decide)).1 (hK 62 (by decide) (by decide)).2 ((show iU I 48 36 (-1) 62 = I 62 from funext fun j => iU_at (by omega)).trans (hI 62 (by decide))) ?_
  refine aw_pp dX6_init_116 fw_X6_57 ww_X6_57 (show ObjZ _ 48 6 from ⟨by show 48 < 63; decide, (hK 48 (by decide) (by decide)).1⟩) ?_
  refine aw_aload_n dX6_init_119 rfl rfl ?_
  refine aw_sipush (v := 160) dX6_init_120 (by decide) ?_
  refine aw_niT (n := 63) (N := 160) dX6_init_123 (by decide) (by decide) (by decide) (show 14 + 1 ≤ 15 by decide) (show 1249 + 160 ≤ 1409 by decide) (hK 63 (by decide) (by decide)).1 (hK 63 (by decide) (by decide)).2 ((show iU I 48 36 (-1) 63 = I 63 from funext fun j => iU_at (by omega)).trans (hI 63 (by decide))) ?_
  refine aw_pp dX6_init_125 fw_X6_60 ww_X6_60 (show ObjZ _ 48 6 from ⟨by show 48 < 64; decide, (hK 48 (by decide) (by decide)).1⟩) ?_
  refine aw_aload_n dX6_init_128 rfl rfl ?_
  refine aw_iconst (v := 0) dX6_init_129 (by decide) ?_
  refine aw_bipush (v := 116) dX6_init_130 (by decide) ?_
  refine aw_bipush (v := 117) dX6_init_132 (by decide) ?_
  refine aw_bipush (v := 114) dX6_init_134 (by decide) ?_
  refine aw_bipush (v := 110) dX6_init_136 (by decide) ?_
  refine aw_bipush (v := 115) dX6_init_138 (by decide) ?_
  refine aw_bipush (v := 32) dX6_init_140 (by decide) ?_
  refine aw_bipush (v := 48) dX6_init_142 (by decide) ?_
  refine aw_bipush (v := 32) dX6_init_144 (by decide) ?_
  refine aw_V9 dX6_init_146 cw_X6_63 ⟨_, _, rfl⟩ (show ObjZ _ 48 6 from ⟨by show 48 < 64; decide, (hK 48 (by decide) (by decide)).1⟩) (by omega) (show 15 ≤ 15 ∧ 1409 ≤ 1409 by decide) (by decide) (c_X6_spell (t := 0) (show ObjZ _ 48 6 from ⟨by show 48 < 64; decide, (hK 48 (by decide) (by decide)).1⟩) rfl ⟨by show 49 < 64; decide, (hK 49 (by decide) (by decide)).1, (hK 49 (by decide) (by decide)).2⟩ (by decide) ?_)
  refine aw_aload_n dX6_init_149 rfl rfl ?_
  refine aw_bipush (v := 8) dX6_init_150 (by decide) ?_
  refine aw_bipush (v := 59) dX6_init_152 (by decide) ?_
  refine aw_bipush (v := 32) dX6_init_154 (by decide) ?_
  refine aw_bipush (v := 109) dX6_init_156 (by decide) ?_
  refine aw_bipush (v := 105) dX6_init_158 (by decide) ?_
  refine aw_bipush (v := 115) dX6_init_160 (by decide) ?_
  refine aw_bipush (v := 115) dX6_init_162 (by decide) ?_
  refine aw_bipush (v := 101) dX6_init_164 (by decide) ?_
  refine aw_bipush (v := 115) dX6_init_166 (by decide) ?_
  refine aw_V9 dX6_init_168 cw_X6_63 ⟨_, _, rfl⟩ (show ObjZ _ 48 6 from ⟨by show 48 < 64; decide, (hK 48 (by decide) (by decide)).1⟩) (by omega) (show 15 ≤ 15 ∧ 1409 ≤ 1409 by decide) (by decide) (c_X6_spell (t := 8) (show ObjZ _ 48 6 from ⟨by show 48 < 64; decide, (hK 48 (by decide) (by decide)).1⟩) rfl ⟨by show 49 < 64; decide, (hK 49 (by decide) (by decide)).1, (hK 49 (by decide) (by decide)).2⟩ (by decide) ?_)
  refine aw_aload_n dX6_init_171 rfl rfl ?_
  refine aw_bipush (v := 16) dX6_init_172 (by decide) ?_
  refine aw_bipush (v := 32) dX6_init_174 (by decide) ?_
  refine aw_bipush (v := 115) dX6_init_176 (by decide) ?_
  refine aw_bipush (v := 97) dX6_init_178 (by decide) ?_
  refine aw_bipush (v := 121) dX6_init_180 (by decide) ?_
  refine aw_bipush (v := 105) dX6_init_182 (by decide) ?_
  refine aw_bipush (v := 110) dX6_init_184 (by decide) ?_
  refine aw_bipush (v := 103) dX6_init_186 (by decide) ?_
  refine aw_bipush (v := 32) dX6_init_188 (by decide) ?_
  refine aw_V9 dX6_init_190 cw_X6_63 ⟨_, _, rfl⟩ (show ObjZ _ 48 6 from ⟨by show 48 < 64; decide, (hK 48 (by decide) (by decide)).1⟩) (by omega) (show 15 ≤ 15 ∧ 1409 ≤ 1409 by decide) (by decide) (c_X6_spell (t := 16) (show ObjZ _ 48 6 from ⟨by show 48 < 64; decide, (hK 48 (by decide) (by decide)).1⟩) rfl ⟨by show 49 < 64; decide, (hK 49 (by decide) (by decide)).1, (hK 49 (by decide) (by decide)).2⟩ (by decide) ?_)
  refine aw_aload_n dX6_init_193 rfl rfl ?_
  refine aw_bipush (v := 24) dX6_init_194 (by decide) ?_
  refine aw_bipush (v := 59) dX6_init_196 (by decide) ?_
  refine aw_bipush (v := 32) dX6_init_198 (by decide) ?_
  refine aw_bipush (v := 98) dX6_init_200 (by decide) ?_
  refine aw_bipush (v := 111) dX6_init_202 (by decide) ?_
  refine aw_bipush (v := 117) dX6_init_204 (by decide) ?_
  refine aw_bipush (v := 110) dX6_init_206 (by decide) ?_
  refine aw_bipush (v := 100) dX6_init_208 (by decide) ?_
  refine aw_bipush (v := 115) dX6_init_210 (by decide) ?_
  refine aw_V9 dX6_init_212 cw_X6_63 ⟨_, _, rfl⟩ (show ObjZ _ 48 6 from ⟨by show 48 < 64; decide, (hK 48 (by decide) (by decide)).1⟩) (by omega) (show 15 ≤ 15 ∧ 1409 ≤ 1409 by decide) (by decide) (c_X6_spell (t := 24) (show ObjZ _ 48 6 from ⟨by show 48 < 64; decide, (hK 48 (by decide) (by decide)).1⟩) rfl ⟨by show 49 < 64; decide, (hK 49 (by decide) (by decide)).1, (hK 49 (by decide) (by decide)).2⟩ (by decide) ?_)
  refine aw_aload_n dX6_init_215 rfl rfl ?_
  refine aw_bipush (v := 32) dX6_init_216 (by decide) ?_
  refine aw_bipush (v := 32) dX6_init_218 (by decide) ?_
  refine aw_bipush (v := 57) dX6_init_220 (by decide) ?_
  refine aw_bipush (v := 32) dX6_init_222 (by decide) ?_
  refine aw_bipush (v := 59) dX6_init_224 (by decide) ?_
  refine aw_bipush (v := 32) dX6_init_226 (by decide) ?_
  refine aw_bipush (v := 32) dX6_init_228 (by decide) ?_
  refine aw_bipush (v := 32) dX6_init_230 (by decide) ?_
  refine aw_bipush (v := 32) dX6_init_232 (by decide) ?_
  refine aw_V9 dX6_init_234 cw_X6_63 ⟨_, _, rfl⟩ (show ObjZ _ 48 6 from ⟨by show 48 < 64; decide, (hK 48 (by decide) (by decide)).1⟩) (by omega) (show 15 ≤ 15 ∧ 1409 ≤ 1409 by decide) (by decide) (c_X6_spell (t := 32) (show ObjZ _ 48 6 from ⟨by show 48 < 64; decide, (hK 48 (by decide) (by decide)).1⟩) rfl ⟨by show 49 < 64; decide, (hK 49 (by decide) (by decide)).1, (hK 49 (by decide) (by decide)).2⟩ (by decide) ?_)
  refine aw_aload_n dX6_init_237 rfl rfl ?_
  refine aw_gr dX6_init_238 fw_X6_17 (show ObjZ _ 48 6 from ⟨by show 48 < 64; decide, (hK 48 (by decide) (by decide)).1⟩) (b := 50) rfl ?_
  refine aw_iconst (v := 0) dX6_init_241 (by decide) ?_
  refine aw_bipush (v := 40) dX6_init_242 (by decide) ?_
  refine aw_is (n := 6) 0 dX6_init_244 ⟨by show 50 < 64; decide, (hK 50 (by decide) (by decide)).1, (hK 50 (by decide) (by decide)).2⟩ rfl (by decide) (by decide) ?_
  refine aw_aload_n dX6_init_245 rfl rfl ?_
  refine aw_iconst (v := 1) dX6_init_246 (by decide) ?_
  refine aw_pi dX6_init_247 fw_X6_67 (ww_X6_67 _) (show ObjZ _ 48 6 from ⟨by show 48 < 64; decide, (hK 48 (by decide) (by decide)).1⟩) rfl ?_
  refine aw_return dX6_init_250 rfl ?_
  refine hQ _ _ (fun b hb => ?_) (fun j hj => ?_) ?_ ?_ ?_ (fun j g1 g2 => ?_) (fun b j hb => ?_) ⟨(show 48 ≤ 64 by decide), fun a ha => ⟨fun _ => ?_, rfl, rfl⟩⟩ ?_ ⟨(show ObjZ _ 48 6 from ⟨by show 48 < 64; decide, (hK 48 (by decide) (by decide)).1⟩), rfl, ⟨by show 49 < 64; decide, (hK 49 (by decide) (by decide)).1, (hK 49 (by decide) (by decide)).2⟩, rfl, ⟨by show 50 < 64; decide, (hK 50 (by decide) (by decide)).1, (hK 50 (by decide) (by decide)).2⟩, rfl, ⟨by show 51 < 64; decide, (hK 51 (by decide) (by decide)).1, (hK 51 (by decide) (by decide)).2⟩, rfl, ⟨by show 52 < 64; decide, (hK 52 (by decide) (by decide)).1, (hK 52 (by decide) (by decide)).2⟩, rfl, ⟨by show 53 < 64; decide, (hK 53 (by decide) (by decide)).1, (hK 53 (by decide) (by decide)).2⟩, rfl, ⟨by show 54 < 64; decide, (hK 54 (by decide) (by decide)).1, (hK 54 (by decide) (by decide)).2⟩, rfl, ⟨by show 55 < 64; decide, (hK 55 (by decide) (by decide)).1, (hK 55 (by decide) (by decide)).2⟩, rfl, ⟨by show 56 < 64; decide, (hK 56 (by decide) (by decide)).1, (hK 56 (by decide) (by decide)).2⟩, rfl, ⟨by show 57 < 64; decide, (hK 57 (by decide) (by decide)).1, (hK 57 (by decide) (by decide)).2⟩, rfl, ⟨by show 58 < 64; decide, (hK 58 (by decide) (by decide)).1, (hK 58 (by decide) (by decide)).2⟩, rfl, ⟨by show 59 < 64; decide, (hK 59 (by decide) (by decide)).1, (hK 59 (by decide) (by decide)).2⟩, rfl, ⟨by show 60 < 64; decide, (hK 60 (by decide) (by decide)).1, (hK 60 (by decide) (by decide)).2⟩, rfl, ⟨by show 61 < 64; decide, (hK 61 (by decide) (by decide)).1, (hK 61 (by decide) (by decide)).2⟩, rfl, ⟨by show 62 < 64; decide, (hK 62 (by decide) (by decide)).1, (hK 62 (by decide) (by decide)).2⟩, rfl, ⟨by show 63 < 64; decide, (hK 63 (by decide) (by decide)).1, (hK 63 (by decide) (by decide)).2⟩⟩ rfl
  · funext j
    have h1 : ¬ b = 48 := by omega
    have h2 : ¬ b = 49 := by omega
    have h3 : ¬ b = 50 := by omega
    simp only [iU, h1, h2, h3, false_and, if_false]
  · match j, hj with
    | 0, _ => rfl
    | 1, _ => rfl
    | 2, _ => rfl
    | 3, _ => rfl
    | 4, _ => rfl
    | 5, _ => rfl
    | 6, _ => rfl
    | 7, _ => rfl
    | 8, _ => rfl
    | 9, _ => rfl
    | 10, _ => rfl
    | 11, _ => rfl
    | 12, _ => rfl
    | 13, _ => rfl
    | 14, _ => rfl
    | 15, _ => rfl
    | 16, _ => rfl
    | 17, _ => rfl
    | 18, _ => rfl
    | 19, _ => rfl
    | 20, _ => rfl
    | 21, _ => rfl
    | 22, _ => rfl
    | 23, _ => rfl
    | 24, _ => rfl
    | 25, _ => rfl
    | 26, _ => rfl
    | 27, _ => rfl
    | 28, _ => rfl
    | 29, _ => rfl
    | 30, _ => rfl
    | 31, _ => rfl
    | 32, _ => rfl
    | 33, _ => rfl
    | 34, _ => rfl
    | 35, _ => rfl
    | 36, _ => rfl
    | 37, _ => rfl
    | 38, _ => rfl
    | 39, _ => rfl
    | j + 40, h => omega
  · rfl
  · rfl
  · rfl
  · rw [iU_at (by omega)]
    simp only [iU, Nat.reduceEqDiff, false_and, if_false, true_and, g2]
    rw [hI 48 (by decide)]
  · have h1 : ¬ b = 48 := by omega
    have h2 : ¬ b = 49 := by omega
    have h3 : ¬ b = 50 := by omega
    simp only [iU, h1, h2, h3, false_and, if_false]
    rw [hI b (by omega)]
  · have ha : a < 48 := ha
    funext j
    have h1 : ¬ a = 48 := by omega
    simp only [zP, pU, h1, false_and, if_false]
  · funext j
    simp only [zP, pU, Nat.reduceEqDiff, false_and, if_false]
