section MU
variable {d : Nat}
def W0 : MT := (((fun _ => 0), 0, 0), ((fun _ => 0), 0, 0, 0, 0, 0, 0, 0, 0, 0), ((fun _ => 0), 0, 0), (0, 0, 0, 0), (0, 0, 0, 0), ((fun _ => 0), 0), (fun _ => 0), ((fun _ => 0), (upd (upd (upd (upd (fun _ => 0) 0 (-4)) 1 (-4)) 2 (-4)) 3 (-4)), (fun _ => 0), (fun _ => 0), 0))
set_option maxRecDepth 8000 in
set_option maxHeartbeats 8000000 in
theorem i_X8 : mm_E true (d + 1) yX8_init mX8_init [.ref 0] [.inr (8, [.null, .int 0, .int 0, .null, .int 0, .int 0, .int 0, .null, .int 0, .int 0, .int 0, .int 0, .int 0, .int 0, .int 0, .int 0, .null, .null, .int 0, .int 0, .int 0, .int 0, .int 0, .int 0, .int 0, .int 0, .null, .int 0, .null, .null, .null, .null, .null, .int 0])] 11 640 (mm_q none (wM W0)) := by
  refine mm_E.of rfl (by decide) (fun _ => rfl) (by decide) ?_
  show mm_R _ _ none 11 640 true true _ 0 0 0 [some (.ref 0)] [] _
  refine r_aload_n (i := 0) 1 dX8_init_0 rfl rfl rfl ?_
  refine r_objInit (v := .null) 4 dX8_init_1 rfl lk_X8_1 w_obj1 w_obj2 (Nat.succ_le_succ (Nat.zero_le _)) rfl ?_
  refine r_aload_n (i := 0) 5 dX8_init_4 rfl rfl rfl ?_
  refine r_sipush (v := 148) 8 dX8_init_5 rfl rfl ?_
  refine r_newa (t := 0) (ty := .int) (N := 148) rfl (fun _ => rfl) (fun _ _ h => h) rfl w_arr_int (by decide) 10 dX8_init_8 rfl (by decide) rfl (by decide) (by decide) ?_
  refine r_putf 13 dX8_init_10 rfl fl_X8_7 rfl rfl (fun _ _ => ⟨rfl, rfl⟩) (fun _ => ⟨rfl, rfl⟩) ?_
  refine r_eqT (w' := [.inr (8, [.ref 1, .int 0, .int 0, .null, .int 0, .int 0, .int 0, .null, .int 0, .int 0, .int 0, .int 0, .int 0, .int 0, .int 0, .int 0, .null, .null, .int 0, .int 0, .int 0, .int 0, .int 0, .int 0, .int 0, .int 0, .null, .int 0, .null, .null, .null, .null, .null, .int 0]), .inl (0, (148, .inl (fun _ => 0)))]) ?_ rfl rfl rfl rfl rfl
  refine r_aload_n (i := 0) 14 dX8_init_13 rfl rfl rfl ?_
  refine r_bipush (v := 37) 16 dX8_init_14 rfl rfl ?_
  refine r_newa (t := 0) (ty := .int) (N := 37) rfl (fun _ => rfl) (fun _ _ h => h) rfl w_arr_int (by decide) 18 dX8_init_16 rfl (by decide) rfl (by decide) (by decide) ?_
  refine r_putf 21 dX8_init_18 rfl fl_X8_13 rfl rfl (fun _ _ => ⟨rfl, rfl⟩) (fun _ => ⟨rfl, rfl⟩) ?_
  refine r_eqT (w' := [.inr (8, [.ref 1, .int 0, .int 0, .ref 2, .int 0, .int 0, .int 0, .null, .int 0, .int 0, .int 0, .int 0, .int 0, .int 0, .int 0, .int 0, .null, .null, .int 0, .int 0, .int 0, .int 0, .int 0, .int 0, .int 0, .int 0, .null, .int 0, .null, .null, .null, .null, .null, .int 0]), .inl (0, (148, .inl (fun _ => 0))), .inl (0, (37, .inl (fun _ => 0)))]) ?_ rfl rfl rfl rfl rfl
  refine r_aload_n (i := 0) 22 dX8_init_21 rfl rfl rfl ?_
  refine r_sipush (v := 160) 25 dX8_init_22 rfl rfl ?_
  refine r_newa (t := 0) (ty := .int) (N := 160) rfl (fun _ => rfl) (fun _ _ h => h) rfl w_arr_int (by decide) 27 dX8_init_25 rfl (by decide) rfl (by decide) (by decide) ?_
  refine r_putf 30 dX8_init_27 rfl fl_X8_16 rfl rfl (fun _ _ => ⟨rfl, rfl⟩) (fun _ => ⟨rfl, rfl⟩) ?_
  refine r_eqT (w' := [.inr (8, [.ref 1, .int 0, .int 0, .ref 2, .int 0, .int 0, .int 0, .ref 3, .int 0, .int 0, .int 0, .int 0, .int 0, .int 0, .int 0, .int 0, .null, .null, .int 0, .int 0, .int 0, .int 0, .int 0, .int 0, .int 0, .int 0, .null, .int 0, .null, .null, .null, .null, .null, .int 0]), .inl (0, (148, .inl (fun _ => 0))), .inl (0, (37, .inl (fun _ => 0))), .inl (0, (160, .inl (fun _ => 0)))]) ?_ rfl rfl rfl rfl rfl
  refine r_aload_n (i := 0) 31 dX8_init_30 rfl rfl rfl ?_
  refine r_bipush (v := 9) 33 dX8_init_31 rfl rfl ?_
  refine r_newa (t := 0) (ty := .int) (N := 9) rfl (fun _ => rfl) (fun _ _ h => h) rfl w_arr_int (by decide) 35 dX8_init_33 rfl (by decide) rfl (by decide) (by decide) ?_
  refine r_dup 36 dX8_init_35 rfl rfl ?_
  refine r_iconst (v := 0) 37 dX8_init_36 rfl rfl ?_
  refine r_iconst (v := 0) 38 dX8_init_37 rfl rfl ?_
  refine r_iast 39 dX8_init_38 rfl rfl (vp_in_nI (n := 0) (by decide) (by decide)) ?_
  refine r_dup 40 dX8_init_39 rfl rfl ?_
  refine r_iconst (v := 1) 41 dX8_init_40 rfl rfl ?_
  refine r_iconst (v := 5) 42 dX8_init_41 rfl rfl ?_
  refine r_iast 43 dX8_init_42 rfl rfl (vp_in_nI (n := 1) (by decide) (by decide)) ?_
  refine r_dup 44 dX8_init_43 rfl rfl ?_
  refine r_iconst (v := 2) 45 dX8_init_44 rfl rfl ?_
  refine r_bipush (v := 9) 47 dX8_init_45 rfl rfl ?_
  refine r_iast 48 dX8_init_47 rfl rfl (vp_in_nI (n := 2) (by decide) (by decide)) ?_
  refine r_dup 49 dX8_init_48 rfl rfl ?_
  refine r_iconst (v := 3) 50 dX8_init_49 rfl rfl ?_
  refine r_bipush (v := 17) 52 dX8_init_50 rfl rfl ?_
  refine r_iast 53 dX8_init_52 rfl rfl (vp_in_nI (n := 3) (by decide) (by decide)) ?_
  refine r_dup 54 dX8_init_53 rfl rfl ?_
  refine r_iconst (v := 4) 55 dX8_init_54 rfl rfl ?_
  refine r_bipush (v := 24) 57 dX8_init_55 rfl rfl ?_
  refine r_iast 58 dX8_init_57 rfl rfl (vp_in_nI (n := 4) (by decide) (by decide)) ?_
  refine r_dup 59 dX8_init_58 rfl rfl ?_
  refine r_iconst (v := 5) 60 dX8_init_59 rfl rfl ?_
  refine r_bipush (v := 28) 62 dX8_init_60 rfl rfl ?_
  refine r_iast 63 dX8_init_62 rfl rfl (vp_in_nI (n := 5) (by decide) (by decide)) ?_
  refine r_eqT (w' := [.inr (8, [.ref 1, .int 0, .int 0, .ref 2, .int 0, .int 0, .int 0, .ref 3, .int 0, .int 0, .int 0, .int 0, .int 0, .int 0, .int 0, .int 0, .null, .null, .int 0, .int 0, .int 0, .int 0, .int 0, .int 0, .int 0, .int 0, .null, .int 0, .null, .null, .null, .null, .null, .int 0]), .inl (0, (148, .inl (fun _ => 0))), .inl (0, (37, .inl (fun _ => 0))), .inl (0, (160, .inl (fun _ => 0))), .inl (0, (9, .inl (upd (upd (upd (upd (upd (upd (fun _ => 0) 0 0) 1 5) 2 9) 3 17) 4 24) 5 28)))]) ?_ rfl rfl rfl rfl rfl
  refine r_dup 64 dX8_init_63 rfl rfl ?_
  refine r_bipush (v := 6) 66 dX8_init_64 rfl rfl ?_
  refine r_bipush (v := 30) 68 dX8_init_66 rfl rfl ?_
  refine r_iast 69 dX8_init_68 rfl rfl (vp_in_nI (n := 6) (by decide) (by decide)) ?_
  refine r_dup 70 dX8_init_69 rfl rfl ?_
  refine r_bipush (v := 7) 72 dX8_init_70 rfl rfl ?_
  refine r_bipush (v := 35) 74 dX8_init_72 rfl rfl ?_
  refine r_iast 75 dX8_init_74 rfl rfl (vp_in_nI (n := 7) (by decide) (by decide)) ?_
  refine r_dup 76 dX8_init_75 rfl rfl ?_
  refine r_bipush (v := 8) 78 dX8_init_76 rfl rfl ?_
  refine r_bipush (v := 38) 80 dX8_init_78 rfl rfl ?_
  refine r_iast 81 dX8_init_80 rfl rfl (vp_in_nI (n := 8) (by decide) (by decide)) ?_
  refine r_eqT (w' := [.inr (8, [.ref 1, .int 0, .int 0, .ref 2, .int 0, .int 0, .int 0, .ref 3, .int 0, .int 0, .int 0, .int 0, .int 0, .int 0, .int 0, .int 0, .null, .null, .int 0, .int 0, .int 0, .int 0, .int 0, .int 0, .int 0, .int 0, .null, .int 0, .null, .null, .null, .null, .null, .int 0]), .inl (0, (148, .inl (fun _ => 0))), .inl (0, (37, .inl (fun _ => 0))), .inl (0, (160, .inl (fun _ => 0))), .inl (0, (9, .inl (upd (upd (upd (upd (upd (upd (upd (upd (upd (fun _ => 0) 0 0) 1 5) 2 9) 3 17) 4 24) 5 28) 6 30) 7 35) 8 38)))]) ?_ rfl rfl rfl rfl rfl
  refine r_putf 84 dX8_init_81 rfl fl_X8_19 rfl rfl (fun _ _ => ⟨rfl, rfl⟩) (fun _ => ⟨rfl, rfl⟩) ?_
  refine r_eqT (w' := [.inr (8, [.ref 1, .int 0, .int 0, .ref 2, .int 0, .int 0, .int 0, .ref 3, .int 0, .int 0, .int 0, .int 0, .int 0, .int 0, .int 0, .int 0, .ref 4, .null, .int 0, .int 0, .int 0, .int 0, .int 0, .int 0, .int 0, .int 0, .null, .int 0, .null, .null, .null, .null, .null, .int 0]), .inl (0, (148, .inl (fun _ => 0))), .inl (0, (37, .inl (fun _ => 0))), .inl (0, (160, .inl (fun _ => 0))), .inl (0, (9, .inl (upd (upd (upd (upd (upd (upd (upd (upd (upd (fun _ => 0) 0 0) 1 5) 2 9) 3 17) 4 24) 5 28) 6 30) 7 35) 8 38)))]) ?_ rfl rfl rfl rfl rfl
  refine r_aload_n (i := 0) 85 dX8_init_84 rfl rfl rfl ?_
  refine r_bipush (v := 38) 87 dX8_init_85 rfl rfl ?_
  refine r_newa (t := 0) (ty := .int) (N := 38) rfl (fun _ => rfl) (fun _ _ h => h) rfl w_arr_int (by decide) 89 dX8_init_87 rfl (by decide) rfl (by decide) (by decide) ?_
  refine r_dup 90 dX8_init_89 rfl rfl ?_
  refine r_iconst (v := 0) 91 dX8_init_90 rfl rfl ?_
  refine r_bipush (v := 112) 93 dX8_init_91 rfl rfl ?_
  refine r_iast 94 dX8_init_93 rfl rfl (vp_in_nI (n := 0) (by decide) (by decide)) ?_
  refine r_dup 95 dX8_init_94 rfl rfl ?_
  refine r_iconst (v := 1) 96 dX8_init_95 rfl rfl ?_
  refine r_bipush (v := 108) 98 dX8_init_96 rfl rfl ?_
  refine r_iast 99 dX8_init_98 rfl rfl (vp_in_nI (n := 1) (by decide) (by decide)) ?_
  refine r_dup 100 dX8_init_99 rfl rfl ?_
  refine r_iconst (v := 2) 101 dX8_init_100 rfl rfl ?_
  refine r_bipush (v := 97) 103 dX8_init_101 rfl rfl ?_
  refine r_iast 104 dX8_init_103 rfl rfl (vp_in_nI (n := 2) (by decide) (by decide)) ?_
  refine r_dup 105 dX8_init_104 rfl rfl ?_
  refine r_iconst (v := 3) 106 dX8_init_105 rfl rfl ?_
  refine r_bipush (v := 105) 108 dX8_init_106 rfl rfl ?_
  refine r_iast 109 dX8_init_108 rfl rfl (vp_in_nI (n := 3) (by decide) (by decide)) ?_
  refine r_dup 110 dX8_init_109 rfl rfl ?_
  refine r_iconst (v := 4) 111 dX8_init_110 rfl rfl ?_
  refine r_bipush (v := 110) 113 dX8_init_111 rfl rfl ?_
  refine r_iast 114 dX8_init_113 rfl rfl (vp_in_nI (n := 4) (by decide) (by decide)) ?_
  refine r_dup 115 dX8_init_114 rfl rfl ?_
  refine r_iconst (v := 5) 116 dX8_init_115 rfl rfl ?_
  refine r_bipush (v := 101) 118 dX8_init_116 rfl rfl ?_
  refine r_iast 119 dX8_init_118 rfl rfl (vp_in_nI (n := 5) (by decide) (by decide)) ?_
  refine r_eqT (w' := [.inr (8, [.ref 1, .int 0, .int 0, .ref 2, .int 0, .int 0, .int 0, .ref 3, .int 0, .int 0, .int 0, .int 0, .int 0, .int 0, .int 0, .int 0, .ref 4, .null, .int 0, .int 0, .int 0, .int 0, .int 0, .int 0, .int 0, .int 0, .null, .int 0, .null, .null, .null, .null, .null, .int 0]), .inl (0, (148, .inl (fun _ => 0))), .inl (0, (37, .inl (fun _ => 0))), .inl (0, (160, .inl (fun _ => 0))), .inl (0, (9, .inl (upd (upd (upd (upd (upd (upd (upd (upd (upd (fun _ => 0) 0 0) 1 5) 2 9) 3 17) 4 24) 5 28) 6 30) 7 35) 8 38))), .inl (0, (38, .inl (upd (upd (upd (upd (upd (upd (fun _ => 0) 0 112) 1 108) 2 97) 3 105) 4 110) 5 101)))]) ?_ rfl rfl rfl rfl rfl
  refine r_dup 120 dX8_init_119 rfl rfl ?_
  refine r_bipush (v := 6) 122 dX8_init_120 rfl rfl ?_
  refine r_bipush (v := 99) 124 dX8_init_122 rfl rfl ?_
  refine r_iast 125 dX8_init_124 rfl rfl (vp_in_nI (n := 6) (by decide) (by decide)) ?_
  refine r_dup 126 dX8_init_125 rfl rfl ?_
  refine r_bipush (v := 7) 128 dX8_init_126 rfl rfl ?_
  refine r_bipush (v := 104) 130 dX8_init_128 rfl rfl ?_
  refine r_iast 131 dX8_init_130 rfl rfl (vp_in_nI (n := 7) (by decide) (by decide)) ?_
  refine r_dup 132 dX8_init_131 rfl rfl ?_
  refine r_bipush (v := 8) 134 dX8_init_132 rfl rfl ?_
  refine r_bipush (v := 111) 136 dX8_init_134 rfl rfl ?_
  refine r_iast 137 dX8_init_136 rfl rfl (vp_in_nI (n := 8) (by decide) (by decide)) ?_
  refine r_dup 138 dX8_init_137 rfl rfl ?_
  refine r_bipush (v := 9) 140 dX8_init_138 rfl rfl ?_
  refine r_bipush (v := 99) 142 dX8_init_140 rfl rfl ?_
  refine r_iast 143 dX8_init_142 rfl rfl (vp_in_nI (n := 9) (by decide) (by decide)) ?_
  refine r_dup 144 dX8_init_143 rfl rfl ?_
  refine r_bipush (v := 10) 146 dX8_init_144 rfl rfl ?_
  refine r_bipush (v := 111) 148 dX8_init_146 rfl rfl ?_
  refine r_iast 149 dX8_init_148 rfl rfl (vp_in_nI (n := 10) (by decide) (by decide)) ?_
  refine r_dup 150 dX8_init_149 rfl rfl ?_
  refine r_bipush (v := 11) 152 dX8_init_150 rfl rfl ?_
  refine r_bipush (v := 110) 154 dX8_init_152 rfl rfl ?_
  refine r_iast 155 dX8_init_154 rfl rfl (vp_in_nI (n := 11) (by decide) (by decide)) ?_
  refine r_eqT (w' := [.inr (8, [.ref 1, .int 0, .int 0, .ref 2, .int 0, .int 0, .int 0, .ref 3, .int 0, .int 0, .int 0, .int 0, .int 0, .int 0, .int 0, .int 0, .ref 4, .null, .int 0, .int 0, .int 0, .int 0, .int 0, .int 0, .int 0, .int 0, .null, .int 0, .null, .null, .null, .null, .null, .int 0]), .inl (0, (148, .inl (fun _ => 0))), .inl (0, (37, .inl (fun _ => 0))), .inl (0, (160, .inl (fun _ => 0))), .inl (0, (9, .inl (upd (upd (upd (upd (upd (upd (upd (upd (upd (fun _ => 0) 0 0) 1 5) 2 9) 3 17) 4 24) 5 28) 6 30) 7 35) 8 38))), .inl (0, (38, .inl (upd (upd (upd (upd (upd (upd (upd (upd (upd (upd (upd (upd (fun _ => 0) 0 112) 1 108) 2 97) 3 105) 4 110) 5 101) 6 99) 7 104) 8 111) 9 99) 10 111) 11 110)))]) ?_ rfl rfl rfl rfl rfl
  refine r_dup 156 dX8_init_155 rfl rfl ?_
  refine r_bipush (v := 12) 158 dX8_init_156 rfl rfl ?_
  refine r_bipush (v := 116) 160 dX8_init_158 rfl rfl ?_
  refine r_iast 161 dX8_init_160 rfl rfl (vp_in_nI (n := 12) (by decide) (by decide)) ?_
  refine r_dup 162 dX8_init_161 rfl rfl ?_
  refine r_bipush (v := 13) 164 dX8_init_162 rfl rfl ?_
  refine r_bipush (v := 114) 166 dX8_init_164 rfl rfl ?_
  refine r_iast 167 dX8_init_166 rfl rfl (vp_in_nI (n := 13) (by decide) (by decide)) ?_
  refine r_dup 168 dX8_init_167 rfl rfl ?_
  refine r_bipush (v := 14) 170 dX8_init_168 rfl rfl ?_
  refine r_bipush (v := 97) 172 dX8_init_170 rfl rfl ?_
  refine r_iast 173 dX8_init_172 rfl rfl (vp_in_nI (n := 14) (by decide) (by decide)) ?_
  refine r_dup 174 dX8_init_173 rfl rfl ?_
  refine r_bipush (v := 15) 176 dX8_init_174 rfl rfl ?_
  refine r_bipush (v := 114) 178 dX8_init_176 rfl rfl ?_
  refine r_iast 179 dX8_init_178 rfl rfl (vp_in_nI (n := 15) (by decide) (by decide)) ?_
  refine r_dup 180 dX8_init_179 rfl rfl ?_
  refine r_bipush (v := 16) 182 dX8_init_180 rfl rfl ?_
  refine r_bipush (v := 121) 184 dX8_init_182 rfl rfl ?_
  refine r_iast 185 dX8_init_184 rfl rfl (vp_in_nI (n := 16) (by decide) (by decide)) ?_
  refine r_dup 186 dX8_init_185 rfl rfl ?_
  refine r_bipush (v := 17) 188 dX8_init_186 rfl rfl ?_
  refine r_bipush (v := 106) 190 dX8_init_188 rfl rfl ?_
  refine r_iast 191 dX8_init_190 rfl rfl (vp_in_nI (n := 17) (by decide) (by decide)) ?_
  refine r_eqT (w' := [.inr (8, [.ref 1, .int 0, .int 0, .ref 2, .int 0, .int 0, .int 0, .ref 3, .int 0, .int 0, .int 0, .int 0, .int 0, .int 0, .int 0, .int 0, .ref 4, .null, .int 0, .int 0, .int 0, .int 0, .int 0, .int 0, .int 0, .int 0, .null, .int 0, .null, .null, .null, .null, .null, .int 0]), .inl (0, (148, .inl (fun _ => 0))), .inl (0, (37, .inl (fun _ => 0))), .inl (0, (160, .inl (fun _ => 0))), .inl (0, (9, .inl (upd (upd (upd (upd (upd (upd (upd (upd (upd (fun _ => 0) 0 0) 1 5) 2 9) 3 17) 4 24) 5 28) 6 30) 7 35) 8 38))), .inl (0, (38, .inl (upd (upd (upd (upd (upd (upd (upd (upd (upd (upd (upd (upd (upd (upd (upd (upd (upd (upd (fun _ => 0) 0 112) 1 108) 2 97) 3 105) 4 110) 5 101) 6 99) 7 104) 8 111) 9 99) 10 111) 11 110) 12 116) 13 114) 14 97) 15 114) 16 121) 17 106)))]) ?_ rfl rfl rfl rfl rfl
  refine r_dup 192 dX8_init_191 rfl rfl ?_
  refine r_bipush (v := 18) 194 dX8_init_192 rfl rfl ?_
  refine r_bipush (v := 101) 196 dX8_init_194 rfl rfl ?_
  refine r_iast 197 dX8_init_196 rfl rfl (vp_in_nI (n := 18) (by decide) (by decide)) ?_
  refine r_dup 198 dX8_init_197 rfl rfl ?_
  refine r_bipush (v := 19) 200 dX8_init_198 rfl rfl ?_
  refine r_bipush (v := 97) 202 dX8_init_200 rfl rfl ?_
  refine r_iast 203 dX8_init_202 rfl rfl (vp_in_nI (n := 19) (by decide) (by decide)) ?_
  refine r_dup 204 dX8_init_203 rfl rfl ?_
  refine r_bipush (v := 20) 206 dX8_init_204 rfl rfl ?_
  refine r_bipush (v := 108) 208 dX8_init_206 rfl rfl ?_
  refine r_iast 209 dX8_init_208 rfl rfl (vp_in_nI (n := 20) (by decide) (by decide)) ?_
  refine r_dup 210 dX8_init_209 rfl rfl ?_
  refine r_bipush (v := 21) 212 dX8_init_210 rfl rfl ?_
  refine r_bipush (v := 111) 214 dX8_init_212 rfl rfl ?_
  refine r_iast 215 dX8_init_214 rfl rfl (vp_in_nI (n := 21) (by decide) (by decide)) ?_
  refine r_dup 216 dX8_init_215 rfl rfl ?_
  refine r_bipush (v := 22) 218 dX8_init_216 rfl rfl ?_
  refine r_bipush (v := 117) 220 dX8_init_218 rfl rfl ?_
  refine r_iast 221 dX8_init_220 rfl rfl (vp_in_nI (n := 22) (by decide) (by decide)) ?_
  refine r_dup 222 dX8_init_221 rfl rfl ?_
  refine r_bipush (v := 23) 224 dX8_init_222 rfl rfl ?_
  refine r_bipush (v := 115) 226 dX8_init_224 rfl rfl ?_
  refine r_iast 227 dX8_init_226 rfl rfl (vp_in_nI (n := 23) (by decide) (by decide)) ?_
  refine r_eqT (w' := [.inr (8, [.ref 1, .int 0, .int 0, .ref 2, .int 0, .int 0, .int 0, .ref 3, .int 0, .int 0, .int 0, .int 0, .int 0, .int 0, .int 0, .int 0, .ref 4, .null, .int 0, .int 0, .int 0, .int 0, .int 0, .int 0, .int 0, .int 0, .null, .int 0, .null, .null, .null, .null, .null, .int 0]), .inl (0, (148, .inl (fun _ => 0))), .inl (0, (37, .inl (fun _ => 0))), .inl (0, (160, .inl (fun _ => 0))), .inl (0, (9, .inl (upd (upd (upd (upd (upd (upd (upd (upd (upd (fun _ => 0) 0 0) 1 5) 2 9) 3 17) 4 24) 5 28) 6 30) 7 35) 8 38))), .inl (0, (38, .inl (upd (upd (upd (upd (upd (upd (upd (upd (upd (upd (upd (upd (upd (upd (upd (upd (upd (upd (upd (upd (upd (upd (upd (upd (fun _ => 0) 0 112) 1 108) 2 97) 3 105) 4 110) 5 101) 6 99) 7 104) 8 111) 9 99) 10 111) 11 110) 12 116) 13 114) 14 97) 15 114) 16 121) 17 106) 18 101) 19 97) 20 108) 21 111) 22 117) 23 115)))]) ?_ rfl rfl rfl rfl rfl
  refine r_dup 228 dX8_init_227 rfl rfl ?_
  refine r_bipush (v := 24) 230 dX8_init_228 rfl rfl ?_
  refine r_bipush (v := 101) 232 dX8_init_230 rfl rfl ?_
  refine r_iast 233 dX8_init_232 rfl rfl (vp_in_nI (n := 24) (by decide) (by decide)) ?_
  refine r_dup 234 dX8_init_233 rfl rfl ?_
  refine r_bipush (v := 25) 236 dX8_init_234 rfl rfl ?_
  refine r_bipush (v := 97) 238 dX8_init_236 rfl rfl ?_
  refine r_iast 239 dX8_init_238 rfl rfl (vp_in_nI (n := 25) (by decide) (by decide)) ?_
  refine r_dup 240 dX8_init_239 rfl rfl ?_
  refine r_bipush (v := 26) 242 dX8_init_240 rfl rfl ?_
  refine r_bipush (v := 115) 244 dX8_init_242 rfl rfl ?_
  refine r_iast 245 dX8_init_244 rfl rfl (vp_in_nI (n := 26) (by decide) (by decide)) ?_
  refine r_dup 246 dX8_init_245 rfl rfl ?_
  refine r_bipush (v := 27) 248 dX8_init_246 rfl rfl ?_
  refine r_bipush (v := 121) 250 dX8_init_248 rfl rfl ?_
  refine r_iast 251 dX8_init_250 rfl rfl (vp_in_nI (n := 27) (by decide) (by decide)) ?_
  refine r_dup 252 dX8_init_251 rfl rfl ?_
  refine r_bipush (v := 28) 254 dX8_init_252 rfl rfl ?_
  refine r_bipush (v := 115) 256 dX8_init_254 rfl rfl ?_
  refine r_iast 257 dX8_init_256 rfl rfl (vp_in_nI (n := 28) (by decide) (by decide)) ?_
  refine r_dup 258 dX8_init_257 rfl rfl ?_
  refine r_bipush (v := 29) 260 dX8_init_258 rfl rfl ?_
  refine r_bipush (v := 111) 262 dX8_init_260 rfl rfl ?_
  refine r_iast 263 dX8_init_262 rfl rfl (vp_in_nI (n := 29) (by decide) (by decide)) ?_
  refine r_eqT (w' := [.inr (8, [.ref 1, .int 0, .int 0, .ref 2, .int 0, .int 0, .int 0, .ref 3, .int 0, .int 0, .int 0, .int 0, .int 0, .int 0, .int 0, .int 0, .ref 4, .null, .int 0, .int 0, .int 0, .int 0, .int 0, .int 0, .int 0, .int 0, .null, .int 0, .null, .null, .null, .null, .null, .int 0]), .inl (0, (148, .inl (fun _ => 0))), .inl (0, (37, .inl (fun _ => 0))), .inl (0, (160, .inl (fun _ => 0))), .inl (0, (9, .inl (upd (upd (upd (upd (upd (upd (upd (upd (upd (fun _ => 0) 0 0) 1 5) 2 9) 3 17) 4 24) 5 28) 6 30) 7 35) 8 38))), .inl (0, (38, .inl (upd (upd (upd (upd (upd (upd (upd (upd (upd (upd (upd (upd (upd (upd (upd (upd (upd (upd (upd (upd (upd (upd (upd (upd (upd (upd (upd (upd (upd (upd (fun _ => 0) 0 112) 1 108) 2 97) 3 105) 4 110) 5 101) 6 99) 7 104) 8 111) 9 99) 10 111) 11 110) 12 116) 13 114) 14 97) 15 114) 16 121) 17 106) 18 101) 19 97) 20 108) 21 111) 22 117) 23 115) 24 101) 25 97) 26 115) 27 121) 28 115) 29 111)))]) ?_ rfl rfl rfl rfl rfl
  refine r_dup 264 dX8_init_263 rfl rfl ?_
  refine r_bipush (v := 30) 266 dX8_init_264 rfl rfl ?_
  refine r_bipush (v := 103) 268 dX8_init_266 rfl rfl ?_
  refine r_iast 269 dX8_init_268 rfl rfl (vp_in_nI (n := 30) (by decide) (by decide)) ?_
  refine r_dup 270 dX8_init_269 rfl rfl ?_
  refine r_bipush (v := 31) 272 dX8_init_270 rfl rfl ?_
  refine r_bipush (v := 117) 274 dX8_init_272 rfl rfl ?_
  refine r_iast 275 dX8_init_274 rfl rfl (vp_in_nI (n := 31) (by decide) (by decide)) ?_
  refine r_dup 276 dX8_init_275 rfl rfl ?_
  refine r_bipush (v := 32) 278 dX8_init_276 rfl rfl ?_
  refine r_bipush (v := 101) 280 dX8_init_278 rfl rfl ?_
  refine r_iast 281 dX8_init_280 rfl rfl (vp_in_nI (n := 32) (by decide) (by decide)) ?_
  refine r_dup 282 dX8_init_281 rfl rfl ?_
  refine r_bipush (v := 33) 284 dX8_init_282 rfl rfl ?_
  refine r_bipush (v := 115) 286 dX8_init_284 rfl rfl ?_
  refine r_iast 287 dX8_init_286 rfl rfl (vp_in_nI (n := 33) (by decide) (by decide)) ?_
  refine r_dup 288 dX8_init_287 rfl rfl ?_
  refine r_bipush (v := 34) 290 dX8_init_288 rfl rfl ?_
  refine r_bipush (v := 116) 292 dX8_init_290 rfl rfl ?_
  refine r_iast 293 dX8_init_292 rfl rfl (vp_in_nI (n := 34) (by decide) (by decide)) ?_
  refine r_dup 294 dX8_init_293 rfl rfl ?_
  refine r_bipush (v := 35) 296 dX8_init_294 rfl rfl ?_
  refine r_bipush (v := 98) 298 dX8_init_296 rfl rfl ?_
  refine r_iast 299 dX8_init_298 rfl rfl (vp_in_nI (n := 35) (by decide) (by decide)) ?_
  refine r_eqT (w' := [.inr (8, [.ref 1, .int 0, .int 0, .ref 2, .int 0, .int 0, .int 0, .ref 3, .int 0, .int 0, .int 0, .int 0, .int 0, .int 0, .int 0, .int 0, .ref 4, .null, .int 0, .int 0, .int 0, .int 0, .int 0, .int 0, .int 0, .int 0, .null, .int 0, .null, .null, .null, .null, .null, .int 0]), .inl (0, (148, .inl (fun _ => 0))), .inl (0, (37, .inl (fun _ => 0))), .inl (0, (160, .inl (fun _ => 0))), .inl (0, (9, .inl (upd (upd (upd (upd (upd (upd (upd (upd (upd (fun _ => 0) 0 0) 1 5) 2 9) 3 17) 4 24) 5 28) 6 30) 7 35) 8 38))), .inl (0, (38, .inl (upd (upd (upd (upd (upd (upd (upd (upd (upd (upd (upd (upd (upd (upd (upd (upd (upd (upd (upd (upd (upd (upd (upd (upd (upd (upd (upd (upd (upd (upd (upd (upd (upd (upd (upd (upd (fun _ => 0) 0 112) 1 108) 2 97) 3 105) 4 110) 5 101) 6 99) 7 104) 8 111) 9 99) 10 111) 11 110) 12 116) 13 114) 14 97) 15 114) 16 121) 17 106) 18 101) 19 97) 20 108) 21 111) 22 117) 23 115) 24 101) 25 97) 26 115) 27 121) 28 115) 29 111) 30 103) 31 117) 32 101) 33 115) 34 116) 35 98)))]) ?_ rfl rfl rfl rfl rfl
  refine r_dup 300 dX8_init_299 rfl rfl ?_
  refine r_bipush (v := 36) 302 dX8_init_300 rfl rfl ?_
  refine r_bipush (v := 97) 304 dX8_init_302 rfl rfl ?_
  refine r_iast 305 dX8_init_304 rfl rfl (vp_in_nI (n := 36) (by decide) (by decide)) ?_
  refine r_dup 306 dX8_init_305 rfl rfl ?_
  refine r_bipush (v := 37) 308 dX8_init_306 rfl rfl ?_
  refine r_bipush (v := 110) 310 dX8_init_308 rfl rfl ?_
  refine r_iast 311 dX8_init_310 rfl rfl (vp_in_nI (n := 37) (by decide) (by decide)) ?_
  refine r_eqT (w' := [.inr (8, [.ref 1, .int 0, .int 0, .ref 2, .int 0, .int 0, .int 0, .ref 3, .int 0, .int 0, .int 0, .int 0, .int 0, .int 0, .int 0, .int 0, .ref 4, .null, .int 0, .int 0, .int 0, .int 0, .int 0, .int 0, .int 0, .int 0, .null, .int 0, .null, .null, .null, .null, .null, .int 0]), .inl (0, (148, .inl (fun _ => 0))), .inl (0, (37, .inl (fun _ => 0))), .inl (0, (160, .inl (fun _ => 0))), .inl (0, (9, .inl (upd (upd (upd (upd (upd (upd (upd (upd (upd (fun _ => 0) 0 0) 1 5) 2 9) 3 17) 4 24) 5 28) 6 30) 7 35) 8 38))), .inl (0, (38, .inl (upd (upd (upd (upd (upd (upd (upd (upd (upd (upd (upd (upd (upd (upd (upd (upd (upd (upd (upd (upd (upd (upd (upd (upd (upd (upd (upd (upd (upd (upd (upd (upd (upd (upd (upd (upd (upd (upd (fun _ => 0) 0 112) 1 108) 2 97) 3 105) 4 110) 5 101) 6 99) 7 104) 8 111) 9 99) 10 111) 11 110) 12 116) 13 114) 14 97) 15 114) 16 121) 17 106) 18 101) 19 97) 20 108) 21 111) 22 117) 23 115) 24 101) 25 97) 26 115) 27 121) 28 115) 29 111) 30 103) 31 117) 32 101) 33 115) 34 116) 35 98) 36 97) 37 110)))]) ?_ rfl rfl rfl rfl rfl
  refine r_putf 314 dX8_init_311 rfl fl_X8_22 rfl rfl (fun _ _ => ⟨rfl, rfl⟩) (fun _ => ⟨rfl, rfl⟩) ?_
  refine r_eqT (w' := [.inr (8, [.ref 1, .int 0, .int 0, .ref 2, .int 0, .int 0, .int 0, .ref 3, .int 0, .int 0, .int 0, .int 0, .int 0, .int 0, .int 0, .int 0, .ref 4, .ref 5, .int 0, .int 0, .int 0, .int 0, .int 0, .int 0, .int 0, .int 0, .null, .int 0, .null, .null, .null, .null, .null, .int 0]), .inl (0, (148, .inl (fun _ => 0))), .inl (0, (37, .inl (fun _ => 0))), .inl (0, (160, .inl (fun _ => 0))), .inl (0, (9, .inl (upd (upd (upd (upd (upd (upd (upd (upd (upd (fun _ => 0) 0 0) 1 5) 2 9) 3 17) 4 24) 5 28) 6 30) 7 35) 8 38))), .inl (0, (38, .inl (upd (upd (upd (upd (upd (upd (upd (upd (upd (upd (upd (upd (upd (upd (upd (upd (upd (upd (upd (upd (upd (upd (upd (upd (upd (upd (upd (upd (upd (upd (upd (upd (upd (upd (upd (upd (upd (upd (fun _ => 0) 0 112) 1 108) 2 97) 3 105) 4 110) 5 101) 6 99) 7 104) 8 111) 9 99) 10 111) 11 110) 12 116) 13 114) 14 97) 15 114) 16 121) 17 106) 18 101) 19 97) 20 108) 21 111) 22 117) 23 115) 24 101) 25 97) 26 115) 27 121) 28 115) 29 111) 30 103) 31 117) 32 101) 33 115) 34 116) 35 98) 36 97) 37 110)))]) ?_ rfl rfl rfl rfl rfl
  refine r_aload_n (i := 0) 315 dX8_init_314 rfl rfl rfl ?_
  refine r_bipush (v := 18) 317 dX8_init_315 rfl rfl ?_
  refine r_newa (t := 0) (ty := .int) (N := 18) rfl (fun _ => rfl) (fun _ _ h => h) rfl w_arr_int (by decide) 319 dX8_init_317 rfl (by decide) rfl (by decide) (by decide) ?_
  refine r_putf 322 dX8_init_319 rfl fl_X8_25 rfl rfl (fun _ _ => ⟨rfl, rfl⟩) (fun _ => ⟨rfl, rfl⟩) ?_
  refine r_eqT (w' := [.inr (8, [.ref 1, .int 0, .int 0, .ref 2, .int 0, .int 0, .int 0, .ref 3, .int 0, .int 0, .int 0, .int 0, .int 0, .int 0, .int 0, .int 0, .ref 4, .ref 5, .int 0, .int 0, .int 0, .int 0, .int 0, .int 0, .int 0, .int 0, .ref 6, .int 0, .null, .null, .null, .null, .null, .int 0]), .inl (0, (148, .inl (fun _ => 0))), .inl (0, (37, .inl (fun _ => 0))), .inl (0, (160, .inl (fun _ => 0))), .inl (0, (9, .inl (upd (upd (upd (upd (upd (upd (upd (upd (upd (fun _ => 0) 0 0) 1 5) 2 9) 3 17) 4 24) 5 28) 6 30) 7 35) 8 38))), .inl (0, (38, .inl (upd (upd (upd (upd (upd (upd (upd (upd (upd (upd (upd (upd (upd (upd (upd (upd (upd (upd (upd (upd (upd (upd (upd (upd (upd (upd (upd (upd (upd (upd (upd (upd (upd (upd (upd (upd (upd (upd (fun _ => 0) 0 112) 1 108) 2 97) 3 105) 4 110) 5 101) 6 99) 7 104) 8 111) 9 99) 10 111) 11 110) 12 116) 13 114) 14 97) 15 114) 16 121) 17 106) 18 101) 19 97) 20 108) 21 111) 22 117) 23 115) 24 101) 25 97) 26 115) 27 121) 28 115) 29 111) 30 103) 31 117) 32 101) 33 115) 34 116) 35 98) 36 97) 37 110))), .inl (0, (18, .inl (fun _ => 0)))]) ?_ rfl rfl rfl rfl rfl
  refine r_aload_n (i := 0) 323 dX8_init_322 rfl rfl rfl ?_
  refine r_bipush (v := 60) 325 dX8_init_323 rfl rfl ?_
  refine r_newa (t := 0) (ty := .int) (N := 60) rfl (fun _ => rfl) (fun _ _ h => h) rfl w_arr_int (by decide) 327 dX8_init_325 rfl (by decide) rfl (by decide) (by decide) ?_
  refine r_putf 330 dX8_init_327 rfl fl_X8_28 rfl rfl (fun _ _ => ⟨rfl, rfl⟩) (fun _ => ⟨rfl, rfl⟩) ?_
  refine r_eqT (w' := [.inr (8, [.ref 1, .int 0, .int 0, .ref 2, .int 0, .int 0, .int 0, .ref 3, .int 0, .int 0, .int 0, .int 0, .int 0, .int 0, .int 0, .int 0, .ref 4, .ref 5, .int 0, .int 0, .int 0, .int 0, .int 0, .int 0, .int 0, .int 0, .ref 6, .int 0, .ref 7, .null, .null, .null, .null, .int 0]), .inl (0, (148, .inl (fun _ => 0))), .inl (0, (37, .inl (fun _ => 0))), .inl (0, (160, .inl (fun _ => 0))), .inl (0, (9, .inl (upd (upd (upd (upd (upd (upd (upd (upd (upd (fun _ => 0) 0 0) 1 5) 2 9) 3 17) 4 24) 5 28) 6 30) 7 35) 8 38))), .inl (0, (38, .inl (upd (upd (upd (upd (upd (upd (upd (upd (upd (upd (upd (upd (upd (upd (upd (upd (upd (upd (upd (upd (upd (upd (upd (upd (upd (upd (upd (upd (upd (upd (upd (upd (upd (upd (upd (upd (upd (upd (fun _ => 0) 0 112) 1 108) 2 97) 3 105) 4 110) 5 101) 6 99) 7 104) 8 111) 9 99) 10 111) 11 110) 12 116) 13 114) 14 97) 15 114) 16 121) 17 106) 18 101) 19 97) 20 108) 21 111) 22 117) 23 115) 24 101) 25 97) 26 115) 27 121) 28 115) 29 111) 30 103) 31 117) 32 101) 33 115) 34 116) 35 98) 36 97) 37 110))), .inl (0, (18, .inl (fun _ => 0))), .inl (0, (60, .inl (fun _ => 0)))]) ?_ rfl rfl rfl rfl rfl
  refine r_aload_n (i := 0) 331 dX8_init_330 rfl rfl rfl ?_
  refine r_iconst (v := 2) 332 dX8_init_331 rfl rfl ?_
  refine r_newa (t := 2) (ty := .boolean) (N := 2) rfl (fun _ => rfl) (fun _ _ h => h) rfl w_arr_boolean (by decide) 334 dX8_init_332 rfl (by decide) rfl (by decide) (by decide) ?_
  refine r_putf 337 dX8_init_334 rfl fl_X8_31 rfl rfl (fun _ _ => ⟨rfl, rfl⟩) (fun _ => ⟨rfl, rfl⟩) ?_
  refine r_eqT (w' := [.inr (8, [.ref 1, .int 0, .int 0, .ref 2, .int 0, .int 0, .int 0, .ref 3, .int 0, .int 0, .int 0, .int 0, .int 0, .int 0, .int 0, .int 0, .ref 4, .ref 5, .int 0, .int 0, .int 0, .int 0, .int 0, .int 0, .int 0, .int 0, .ref 6, .int 0, .ref 7, .ref 8, .null, .null, .null, .int 0]), .inl (0, (148, .inl (fun _ => 0))), .inl (0, (37, .inl (fun _ => 0))), .inl (0, (160, .inl (fun _ => 0))), .inl (0, (9, .inl (upd (upd (upd (upd (upd (upd (upd (upd (upd (fun _ => 0) 0 0) 1 5) 2 9) 3 17) 4 24) 5 28) 6 30) 7 35) 8 38))), .inl (0, (38, .inl (upd (upd (upd (upd (upd (upd (upd (upd (upd (upd (upd (upd (upd (upd (upd (upd (upd (upd (upd (upd (upd (upd (upd (upd (upd (upd (upd (upd (upd (upd (upd (upd (upd (upd (upd (upd (upd (upd (fun _ => 0) 0 112) 1 108) 2 97) 3 105) 4 110) 5 101) 6 99) 7 104) 8 111) 9 99) 10 111) 11 110) 12 116) 13 114) 14 97) 15 114) 16 121) 17 106) 18 101) 19 97) 20 108) 21 111) 22 117) 23 115) 24 101) 25 97) 26 115) 27 121) 28 115) 29 111) 30 103) 31 117) 32 101) 33 115) 34 116) 35 98) 36 97) 37 110))), .inl (0, (18, .inl (fun _ => 0))), .inl (0, (60, .inl (fun _ => 0))), .inl (2, (2, .inl (fun _ => 0)))]) ?_ rfl rfl rfl rfl rfl
  refine r_aload_n (i := 0) 338 dX8_init_337 rfl rfl rfl ?_
  refine r_iconst (v := 4) 339 dX8_init_338 rfl rfl ?_
  refine r_newa (t := 0) (ty := .int) (N := 4) rfl (fun _ => rfl) (fun _ _ h => h) rfl w_arr_int (by decide) 341 dX8_init_339 rfl (by decide) rfl (by decide) (by decide) ?_
  refine r_dup 342 dX8_init_341 rfl rfl ?_
  refine r_iconst (v := 0) 343 dX8_init_342 rfl rfl ?_
  refine r_bipush (v := (-4)) 345 dX8_init_343 rfl rfl ?_
  refine r_iast 346 dX8_init_345 rfl rfl (vp_in_nI (n := 0) (by decide) (by decide)) ?_
  refine r_dup 347 dX8_init_346 rfl rfl ?_
  refine r_iconst (v := 1) 348 dX8_init_347 rfl rfl ?_
  refine r_bipush (v := (-4)) 350 dX8_init_348 rfl rfl ?_
  refine r_iast 351 dX8_init_350 rfl rfl (vp_in_nI (n := 1) (by decide) (by decide)) ?_
  refine r_dup 352 dX8_init_351 rfl rfl ?_
  refine r_iconst (v := 2) 353 dX8_init_352 rfl rfl ?_
  refine r_bipush (v := (-4)) 355 dX8_init_353 rfl rfl ?_
  refine r_iast 356 dX8_init_355 rfl rfl (vp_in_nI (n := 2) (by decide) (by decide)) ?_
  refine r_dup 357 dX8_init_356 rfl rfl ?_
  refine r_iconst (v := 3) 358 dX8_init_357 rfl rfl ?_
  refine r_bipush (v := (-4)) 360 dX8_init_358 rfl rfl ?_
  refine r_iast 361 dX8_init_360 rfl rfl (vp_in_nI (n := 3) (by decide) (by decide)) ?_
  refine r_eqT (w' := [.inr (8, [.ref 1, .int 0, .int 0, .ref 2, .int 0, .int 0, .int 0, .ref 3, .int 0, .int 0, .int 0, .int 0, .int 0, .int 0, .int 0, .int 0, .ref 4, .ref 5, .int 0, .int 0, .int 0, .int 0, .int 0, .int 0, .int 0, .int 0, .ref 6, .int 0, .ref 7, .ref 8, .null, .null, .null, .int 0]), .inl (0, (148, .inl (fun _ => 0))), .inl (0, (37, .inl (fun _ => 0))), .inl (0, (160, .inl (fun _ => 0))), .inl (0, (9, .inl (upd (upd (upd (upd (upd (upd (upd (upd (upd (fun _ => 0) 0 0) 1 5) 2 9) 3 17) 4 24) 5 28) 6 30) 7 35) 8 38))), .inl (0, (38, .inl (upd (upd (upd (upd (upd (upd (upd (upd (upd (upd (upd (upd (upd (upd (upd (upd (upd (upd (upd (upd (upd (upd (upd (upd (upd (upd (upd (upd (upd (upd (upd (upd (upd (upd (upd (upd (upd (upd (fun _ => 0) 0 112) 1 108) 2 97) 3 105) 4 110) 5 101) 6 99) 7 104) 8 111) 9 99) 10 111) 11 110) 12 116) 13 114) 14 97) 15 114) 16 121) 17 106) 18 101) 19 97) 20 108) 21 111) 22 117) 23 115) 24 101) 25 97) 26 115) 27 121) 28 115) 29 111) 30 103) 31 117) 32 101) 33 115) 34 116) 35 98) 36 97) 37 110))), .inl (0, (18, .inl (fun _ => 0))), .inl (0, (60, .inl (fun _ => 0))), .inl (2, (2, .inl (fun _ => 0))), .inl (0, (4, .inl (upd (upd (upd (upd (fun _ => 0) 0 (-4)) 1 (-4)) 2 (-4)) 3 (-4))))]) ?_ rfl rfl rfl rfl rfl
  refine r_putf 364 dX8_init_361 rfl fl_X8_35 rfl rfl (fun _ _ => ⟨rfl, rfl⟩) (fun _ => ⟨rfl, rfl⟩) ?_
  refine r_eqT (w' := [.inr (8, [.ref 1, .int 0, .int 0, .ref 2, .int 0, .int 0, .int 0, .ref 3, .int 0, .int 0, .int 0, .int 0, .int 0, .int 0, .int 0, .int 0, .ref 4, .ref 5, .int 0, .int 0, .int 0, .int 0, .int 0, .int 0, .int 0, .int 0, .ref 6, .int 0, .ref 7, .ref 8, .ref 9, .null, .null, .int 0]), .inl (0, (148, .inl (fun _ => 0))), .inl (0, (37, .inl (fun _ => 0))), .inl (0, (160, .inl (fun _ => 0))), .inl (0, (9, .inl (upd (upd (upd (upd (upd (upd (upd (upd (upd (fun _ => 0) 0 0) 1 5) 2 9) 3 17) 4 24) 5 28) 6 30) 7 35) 8 38))), .inl (0, (38, .inl (upd (upd (upd (upd (upd (upd (upd (upd (upd (upd (upd (upd (upd (upd (upd (upd (upd (upd (upd (upd (upd (upd (upd (upd (upd (upd (upd (upd (upd (upd (upd (upd (upd (upd (upd (upd (upd (upd (fun _ => 0) 0 112) 1 108) 2 97) 3 105) 4 110) 5 101) 6 99) 7 104) 8 111) 9 99) 10 111) 11 110) 12 116) 13 114) 14 97) 15 114) 16 121) 17 106) 18 101) 19 97) 20 108) 21 111) 22 117) 23 115) 24 101) 25 97) 26 115) 27 121) 28 115) 29 111) 30 103) 31 117) 32 101) 33 115) 34 116) 35 98) 36 97) 37 110))), .inl (0, (18, .inl (fun _ => 0))), .inl (0, (60, .inl (fun _ => 0))), .inl (2, (2, .inl (fun _ => 0))), .inl (0, (4, .inl (upd (upd (upd (upd (fun _ => 0) 0 (-4)) 1 (-4)) 2 (-4)) 3 (-4))))]) ?_ rfl rfl rfl rfl rfl
  refine r_aload_n (i := 0) 365 dX8_init_364 rfl rfl rfl ?_
  refine r_iconst (v := 4) 366 dX8_init_365 rfl rfl ?_
  refine r_newa (t := 0) (ty := .int) (N := 4) rfl (fun _ => rfl) (fun _ _ h => h) rfl w_arr_int (by decide) 368 dX8_init_366 rfl (by decide) rfl (by decide) (by decide) ?_
  refine r_putf 371 dX8_init_368 rfl fl_X8_38 rfl rfl (fun _ _ => ⟨rfl, rfl⟩) (fun _ => ⟨rfl, rfl⟩) ?_
  refine r_eqT (w' := [.inr (8, [.ref 1, .int 0, .int 0, .ref 2, .int 0, .int 0, .int 0, .ref 3, .int 0, .int 0, .int 0, .int 0, .int 0, .int 0, .int 0, .int 0, .ref 4, .ref 5, .int 0, .int 0, .int 0, .int 0, .int 0, .int 0, .int 0, .int 0, .ref 6, .int 0, .ref 7, .ref 8, .ref 9, .ref 10, .null, .int 0]), .inl (0, (148, .inl (fun _ => 0))), .inl (0, (37, .inl (fun _ => 0))), .inl (0, (160, .inl (fun _ => 0))), .inl (0, (9, .inl (upd (upd (upd (upd (upd (upd (upd (upd (upd (fun _ => 0) 0 0) 1 5) 2 9) 3 17) 4 24) 5 28) 6 30) 7 35) 8 38))), .inl (0, (38, .inl (upd (upd (upd (upd (upd (upd (upd (upd (upd (upd (upd (upd (upd (upd (upd (upd (upd (upd (upd (upd (upd (upd (upd (upd (upd (upd (upd (upd (upd (upd (upd (upd (upd (upd (upd (upd (upd (upd (fun _ => 0) 0 112) 1 108) 2 97) 3 105) 4 110) 5 101) 6 99) 7 104) 8 111) 9 99) 10 111) 11 110) 12 116) 13 114) 14 97) 15 114) 16 121) 17 106) 18 101) 19 97) 20 108) 21 111) 22 117) 23 115) 24 101) 25 97) 26 115) 27 121) 28 115) 29 111) 30 103) 31 117) 32 101) 33 115) 34 116) 35 98) 36 97) 37 110))), .inl (0, (18, .inl (fun _ => 0))), .inl (0, (60, .inl (fun _ => 0))), .inl (2, (2, .inl (fun _ => 0))), .inl (0, (4, .inl (upd (upd (upd (upd (fun _ => 0) 0 (-4)) 1 (-4)) 2 (-4)) 3 (-4)))), .inl (0, (4, .inl (fun _ => 0)))]) ?_ rfl rfl rfl rfl rfl
  refine r_aload_n (i := 0) 372 dX8_init_371 rfl rfl rfl ?_
  refine r_sipush (v := 160) 375 dX8_init_372 rfl rfl ?_
  refine r_newa (t := 0) (ty := .int) (N := 160) rfl (fun _ => rfl) (fun _ _ h => h) rfl w_arr_int (by decide) 377 dX8_init_375 rfl (by decide) rfl (by decide) (by decide) ?_
  refine r_putf 380 dX8_init_377 rfl fl_X8_41 rfl rfl (fun _ _ => ⟨rfl, rfl⟩) (fun _ => ⟨rfl, rfl⟩) ?_
  exact r_ret none ⟨dX8_init_380, rfl⟩ (by decide) (by decide) (⟨rfl, rfl⟩) (fun _ => rfl) rfl
end MU
def S0 : sT := (A0, 0, 0, (0, fun _ => 0), 0, (0, fun _ => 0, fun _ => 0, fun _ => 0), (fun _ => none), ((fun _ => 3), (fun _ => 0), (fun _ _ => 0)), 0)
def wX0 : mm_W := wX fl0 fl0 (fun _ => 0) (((fun _ => 0), 0, 0, 0, 0), fl0, 0, 0, 0) (0, (fun _ => 0), (fun _ => 0), (fun _ => 0), 0, (fun _ => 0)) ((fun _ => 0), (fun _ => 0), 0, 0, 0, 0, 0, 0) (0, 0, 0, 0) fl0 fl0 (-1, 0, (fun _ => 0)) (-1, 0, (fun _ => 0)) (-1, 0, (fun _ => 0)) (-1, 0, (fun _ => 0)) 0
theorem A0_ok : sOk A0 := ⟨Nat.zero_le _, fun i hi => absurd hi (Nat.not_lt_zero i), Nat.zero_le _, fun i hi => absurd hi (Nat.not_lt_zero i), Nat.zero_le _, fun i hi => absurd hi (Nat.not_lt_zero i)⟩
theorem S0_ok : tOk S0 := ⟨A0_ok, by decide, by decide, by decide, fun i hi => absurd hi (Nat.not_lt_zero i), by decide, ⟨by decide, fun i hi => absurd hi (Nat.not_lt_zero i)⟩, (fun k hk q hq => by cases hq), (fun k hk => ⟨Nat.le_refl _, Nat.zero_le _⟩), by decide⟩
theorem CX_0 : CX S0 wX0 := by
  have hs : ∀ k, shX (-1, 0, fun _ => 0) S0 k := fun k => ⟨rfl, rfl, fun i _ => rfl⟩
  exact ⟨S0_ok, fl0, fl0, fun _ => 0, ((fun _ => 0, 0, 0, 0, 0), fl0, 0, 0, 0), (0, fun _ => 0, fun _ => 0, fun _ => 0, 0, fun _ => 0), (fun _ => 0, fun _ => 0, 0, 0, 0, 0, 0, 0), (0, 0, 0, 0), fl0, fl0, (-1, 0, fun _ => 0), (-1, 0, fun _ => 0), (-1, 0, fun _ => 0), (-1, 0, fun _ => 0), 0, rfl, ⟨rfl, fun i hi => absurd hi (Nat.not_lt_zero i), rfl, fun i hi => absurd hi (Nat.not_lt_zero i), rfl, fun i hi => absurd hi (Nat.not_lt_zero i), A0_ok⟩, rfl, rfl, ⟨rfl, fun i hi => absurd hi (Nat.not_lt_zero i)⟩, rfl, ⟨rfl, Nat.zero_le _, fun i hi => absurd hi (Nat.not_lt_zero i)⟩, ⟨rfl, rfl⟩, (fun q hq => by cases hq), (fun q hq => by cases hq), ⟨hs 0, hs 1, hs 2, hs 3⟩, rfl⟩
theorem CM_0 : CM S0 (wM W0) := ⟨W0, rfl, ⟨rfl, rfl, fun i hi => absurd hi (Nat.not_lt_zero i), fun i hi => absurd hi (Nat.not_lt_zero i), rfl, fun i hi => absurd hi (Nat.not_lt_zero i), A0_ok⟩, ⟨rfl, rfl⟩, ⟨rfl, fun i hi => absurd hi (Nat.not_lt_zero i)⟩, rfl, ⟨rfl, fun i hi => absurd hi (Nat.not_lt_zero i)⟩, ⟨rfl, rfl⟩, (fun k hk q hq => by cases hq), (fun k hk => by rcases (by omega : k = 0 ∨ k = 1 ∨ k = 2 ∨ k = 3) with rfl | rfl | rfl | rfl <;> exact ⟨rfl, rfl, fun i _ => rfl⟩), rfl⟩
-- BOTH OBJECTS BESIDE EACH OTHER
def iX : List Nat := [0, 1, 2, 3, 4, 5, 6, 7, 8, 9, 10, 11, 12, 13, 14, 15, 16, 17, 18, 19, 20, 21, 22, 23, 24, 25, 26, 27, 28, 29, 30, 31, 32, 33, 34, 35, 36, 37, 38, 39, 40, 41, 42, 43, 44, 45, 46, 47, 48, 49, 50, 51, 52, 53, 54, 55, 56, 57, 58, 59, 60, 61, 62, 63]
def iM : List Nat := [64, 65, 66, 67, 68, 69, 70, 71, 72, 73, 74, 75]
def shW (u : mm_W) : mm_W := u.map (mm_rc (fun k => 64 + k))
theorem mm_bk_mid : ∀ (n : Nat) (pre u w post : mm_W), u.length = n → w.length = n → mm_bk ((List.range n).map (fun k => pre.length + k)) u (pre ++ (w ++ post)) = pre ++ (u ++ post) := by
  intro n
  induction n with
  | zero => intro pre u w post hu hw; rw [List.length_eq_zero_iff.mp hu, List.length_eq_zero_iff.mp hw]; rfl
  | succ n ih =>
    intro pre u w post hu hw
    cases u with
    | nil => simp at hu
    | cons c u =>
      cases w with
      | nil => simp at hw
      | cons b w =>
        rw [List.range_succ_eq_map, List.map_cons, mm_bk]
        have e1 : (pre ++ ((b :: w) ++ post)).set (pre.length + 0) c = (pre ++ [c]) ++ (w ++ post) := by simp
        rw [e1, List.map_map]
        have := ih (pre ++ [c]) u w post (by simpa using hu) (by simpa using hw)
        rw [show ((fun k => pre.length + k) ∘ Nat.succ) = (fun k => (pre ++ [c]).length + k) from by funext k; simp; omega, this]
        simp
theorem CX_len {S : sT} {w : mm_W} (h : CX S w) : w.length = 64 := by
  obtain ⟨-, N, Z, kp, R, Si, Sr, Ta, I, J, H0, H1, H2, H3, tn, rfl, -⟩ := h
  rfl
theorem imf_id (j : Nat) : (imf j).map (mm_sg iX 76) = imf j := by
  unfold imf va_up
  by_cases h1 : j = 1
  · simp only [h1, if_true]; rfl
  · by_cases h0 : j = 0
    · simp only [h0]; rfl
    · simp only [h1, h0, if_false]; rfl
theorem shf_id (j : Nat) : (shf j).map (mm_sg iX 76) = shf j := by
  unfold shf va_up
  by_cases h3 : j = 3
  · simp only [h3]; rfl
  · by_cases h2 : j = 2
    · simp only [h2]; rfl
    · by_cases h1 : j = 1
      · simp only [h1]; rfl
      · by_cases h0 : j = 0
        · simp only [h0]; rfl
        · simp only [h3, h2, h1, h0, if_false]; rfl
theorem cI_id : mm_rc (mm_sg iX 76) (.inl (3, (2, .inr (.inr (.inr (.inr imf)))))) = .inl (3, (2, .inr (.inr (.inr (.inr imf))))) := by
  show (Sum.inl (3, (2, Sum.inr (Sum.inr (Sum.inr (Sum.inr (fun j => (imf j).map (mm_sg iX 76))))))) : va_E) = _
  rw [show (fun j => (imf j).map (mm_sg iX 76)) = imf from funext imf_id]
theorem cS_id : mm_rc (mm_sg iX 76) (.inl (4, (4, .inr (.inr (.inr (.inr shf)))))) = .inl (4, (4, .inr (.inr (.inr (.inr shf))))) := by
  show (Sum.inl (4, (4, Sum.inr (Sum.inr (Sum.inr (Sum.inr (fun j => (shf j).map (mm_sg iX 76))))))) : va_E) = _
  rw [show (fun j => (shf j).map (mm_sg iX 76)) = shf from funext shf_id]
set_option maxRecDepth 8000 in
set_option maxHeartbeats 8000000 in
theorem CX_id {S : sT} {w : mm_W} (h : CX S w) : w.map (mm_rc (mm_sg iX 76)) = w := by
  obtain ⟨-, N, Z, kp, R, Si, Sr, Ta, I, J, H0, H1, H2, H3, tn, rfl, -⟩ := h
  unfold wX
  simp only [List.map_cons, List.map_nil, cI_id, cS_id]
  rfl
theorem CX_0th {S : sT} {w : mm_W} (h : CX S w) : ∃ fs, w[0]? = some (.inr (7, fs)) := by
  obtain ⟨-, N, Z, kp, R, Si, Sr, Ta, I, J, H0, H1, H2, H3, tn, rfl, -⟩ := h
  exact ⟨_, rfl⟩
theorem CM_0th {S : sT} {w : mm_W} (h : CM S w) : ∃ fs, w[0]? = some (.inr (8, fs)) := by
  obtain ⟨W, rfl, -⟩ := h
  exact ⟨_, rfl⟩
theorem iX_r : iX = (List.range 64).map (fun k => ([] : mm_W).length + k) := by decide
theorem sgM (n : Nat) (h : n = 76) : mm_sg iM n = fun k => 64 + k := by
  subst h
  funext k
  by_cases q : k < 12
  · rcases (by omega : k = 0 ∨ k = 1 ∨ k = 2 ∨ k = 3 ∨ k = 4 ∨ k = 5 ∨ k = 6 ∨ k = 7 ∨ k = 8 ∨ k = 9 ∨ k = 10 ∨ k = 11) with rfl | rfl | rfl | rfl | rfl | rfl | rfl | rfl | rfl | rfl | rfl | rfl <;> rfl
  · have : iM[k]? = none := List.getElem?_eq_none (by show 12 ≤ k; omega)
    simp only [mm_sg, this]
    show 76 + (k - 12) = 64 + k
    omega
theorem get_l {a b : mm_W} {i : Nat} (h : i < a.length) : (a ++ b)[i]? = a[i]? := List.getElem?_append_left h
section MV
variable {d : Nat} {M : mm_M} {scr : Option (Nat × (Nat → Int32))} {mc ms : Nat} {ah : Bool} {Qf : Option Value → mm_W → Prop} {kc ks pc : Nat} {L : List (Option Value)} {st : List Value} {w1 w2 : mm_W}
variable {idx n : Nat} {y : MethodName} {M' : mm_M} {As0 : List Value} {rest : List Value} {T : u_T} {N : Nat} {S S' : sT} {Q0 : Option Value → mm_W → Prop}
theorem r_lawX (pc' : Nat) (h : decode M.2.1 pc = .ok (.invokevirtual idx, 3)) (hp : pc + 3 = pc') (hy : mm_Yk y M' n) (hlk : mm_LkV M.1 idx y) (hC : CX S w1) (h2 : w2.length = 12) (hE : mm_e d y M' (.ref 0 :: As0) w1 Q0) (hn : As0.length = n) (hcl : vwCl[7]? = some (y.cls, T, N)) (hAs : ∀ σ, As0.map (mm_rn σ) = As0) (hst : st = As0.reverse ++ .ref 0 :: rest) (hcat : Nat.ble (rest.map fun v => v.category).sum 8 = true) (hm : kc ≤ mc ∧ ks ≤ ms) (hQ : ∀ v u, Q0 v u → CX S' u ∧ ∀ σ, v.map (mm_rn σ) = v) (kk : ∀ v u, Q0 v u → CX S' u → mm_R (d + 1) M scr mc ms ah false Qf kc ks pc' L (v.toList ++ rest) (u ++ shW w2)) : mm_R (d + 1) M scr mc ms ah false Qf kc ks pc L st (w1 ++ shW w2) := by
  have hl1 := CX_len hC
  have hlen : (w1 ++ shW w2).length = 76 := by rw [List.length_append, hl1, shW, List.length_map, h2]
  obtain ⟨fs, h0⟩ := CX_0th hC
  refine r_callVq iX pc' h hp hy hlk hE hn (by decide) ?_ h0 hcl ?_ hcat hm (fun v u hq => ?_)
  · rw [hlen]
    have e1 : w1.map (fun c => some (mm_rc (mm_sg iX 76) c)) = w1.map some := by
      have := CX_id hC
      have e2 : w1.map (fun c => some (mm_rc (mm_sg iX 76) c)) = (w1.map (mm_rc (mm_sg iX 76))).map some := by rw [List.map_map]; rfl
      rw [e2, this]
    rw [e1]
    apply List.ext_getElem?
    intro k
    rw [List.getElem?_map, List.getElem?_map]
    by_cases hk : k < 64
    · have ek : iX[k]? = some k := by
        rw [show iX = List.range 64 from by decide, List.getElem?_range hk]
      rw [ek, Option.map_some, get_l (by omega), List.getElem?_eq_getElem (by omega)]
      rfl
    · have ek : iX[k]? = none := List.getElem?_eq_none (by show 64 ≤ k; omega)
      rw [ek, List.getElem?_eq_none (by omega)]
      rfl
  · rw [hAs, hst]
    rfl
  · obtain ⟨g1, g2⟩ := hQ v u hq
    have hl2 := CX_len g1
    have eb : mm_back iX (w1 ++ shW w2) u = u ++ shW w2 := by
      unfold mm_back
      rw [hlen, CX_id g1, show iX.length = 64 from rfl, ← hl2, List.drop_length, List.map_nil, List.append_nil]
      have := mm_bk_mid 64 [] u w1 (shW w2) hl2 hl1
      rw [← iX_r] at this
      exact this
    rw [eb, g2]
    exact kk v u hq g1
theorem r_lawM (pc' : Nat) (h : decode M.2.1 pc = .ok (.invokevirtual idx, 3)) (hp : pc + 3 = pc') (hy : mm_Yk y M' n) (hlk : mm_LkV M.1 idx y) (h1 : w1.length = 64) (hC : CM S w2) (hE : mm_e d y M' (.ref 0 :: As0) w2 Q0) (hn : As0.length = n) (hcl : vwCl[8]? = some (y.cls, T, N)) (hAs : ∀ σ, As0.map (mm_rn σ) = As0) (hst : st = As0.reverse ++ .ref 64 :: rest) (hcat : Nat.ble (rest.map fun v => v.category).sum 8 = true) (hm : kc ≤ mc ∧ ks ≤ ms) (hQ : ∀ v u, Q0 v u → CM S' u ∧ ∀ σ, v.map (mm_rn σ) = v) (kk : ∀ v u, Q0 v u → CM S' u → mm_R (d + 1) M scr mc ms ah false Qf kc ks pc' L (v.toList ++ rest) (w1 ++ shW u)) : mm_R (d + 1) M scr mc ms ah false Qf kc ks pc L st (w1 ++ shW w2) := by
  have hl2 := CM_len hC
  have hlen : (w1 ++ shW w2).length = 76 := by rw [List.length_append, h1, shW, List.length_map, hl2]
  have eM : iM = (List.range 12).map (fun k => w1.length + k) := by rw [h1]; decide
  obtain ⟨fs, h0⟩ := CM_0th hC
  refine r_callVq iM pc' h hp hy hlk hE hn (by decide) ?_ h0 hcl ?_ hcat hm (fun v u hq => ?_)
  · rw [sgM _ hlen]
    apply List.ext_getElem?
    intro k
    rw [List.getElem?_map, List.getElem?_map]
    by_cases hk : k < 12
    · have ek : iM[k]? = some (64 + k) := by
        rw [eM, List.getElem?_map, List.getElem?_range hk, h1]
        rfl
      rw [ek, Option.map_some, List.getElem?_append_right (by omega), h1, show 64 + k - 64 = k by omega, shW, List.getElem?_map, List.getElem?_eq_getElem (by omega)]
      rfl
    · have ek : iM[k]? = none := List.getElem?_eq_none (by show 12 ≤ k; omega)
      rw [ek, List.getElem?_eq_none (by omega)]
      rfl
  · rw [hAs, hst, sgM _ hlen]
  · obtain ⟨g1, g2⟩ := hQ v u hq
    have hu := CM_len g1
    have eb : mm_back iM (w1 ++ shW w2) u = w1 ++ shW u := by
      unfold mm_back
      rw [sgM _ hlen, show iM.length = 12 from rfl, ← hu, List.drop_length, List.map_nil, List.append_nil]
      have := mm_bk_mid 12 w1 (shW u) (shW w2) [] (by rw [shW, List.length_map, hu]) (by rw [shW, List.length_map, hl2])
      rw [← eM, List.append_nil, List.append_nil] at this
      exact this
    rw [eb, g2]
    exact kk v u hq g1
end MV
