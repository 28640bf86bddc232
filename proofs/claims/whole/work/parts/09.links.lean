theorem kc_AL : gCl 0 "java/util/ArrayList" T_AL 3 t_AL := by
  refine ⟨rfl, ?_, by decide +kernel, by decide +kernel⟩
  intro w hw
  obtain ⟨k, hk, rfl⟩ := List.mem_map.mp hw
  have hk := List.mem_range.mp hk
  rcases (show k = 0 ∨ k = 1 ∨ k = 2 by omega) with rfl | rfl | rfl
  · exact tb1 60 rfl rfl
  · exact tb1 62 rfl rfl
  · exact tb1 64 rfl rfl
theorem kc_Lg : gCl 1 "ProofGate$AuditLog" T_Lg 2 t_Lg := by
  refine ⟨rfl, ?_, by decide +kernel, by decide +kernel⟩
  intro w hw
  obtain ⟨k, hk, rfl⟩ := List.mem_map.mp hw
  have hk := List.mem_range.mp hk
  rcases (show k = 0 ∨ k = 1 by omega) with rfl | rfl
  · exact tb1 182 rfl rfl
  · exact tb1 184 rfl rfl
theorem kc_Ck : gCl 2 "ProofGate$Checker" T_Ck 2 t_Ck := by
  refine ⟨rfl, ?_, by decide +kernel, by decide +kernel⟩
  intro w hw
  obtain ⟨k, hk, rfl⟩ := List.mem_map.mp hw
  have hk := List.mem_range.mp hk
  rcases (show k = 0 ∨ k = 1 by omega) with rfl | rfl
  · exact tb1 169 rfl rfl
  · exact tb1 171 rfl rfl
theorem kc_Cr : gCl 3 "ProofGate$Credential" T_Cr 6 t_Cr := by
  refine ⟨rfl, ?_, by decide +kernel, by decide +kernel⟩
  intro w hw
  obtain ⟨k, hk, rfl⟩ := List.mem_map.mp hw
  have hk := List.mem_range.mp hk
  rcases (show k = 0 ∨ k = 1 ∨ k = 2 ∨ k = 3 ∨ k = 4 ∨ k = 5 by omega) with rfl | rfl | rfl | rfl | rfl | rfl
  · exact tb2 26 rfl rfl
  · exact tb2 28 rfl rfl
  · exact tb2 30 rfl rfl
  · exact tb2 32 rfl rfl
  · exact tb2 34 rfl rfl
  · exact tb2 36 rfl rfl
theorem kc_Cs : gCl 4 "ProofGate$Credentials" T_Cs 2 t_Cs := by
  refine ⟨rfl, ?_, by decide +kernel, by decide +kernel⟩
  intro w hw
  obtain ⟨k, hk, rfl⟩ := List.mem_map.mp hw
  have hk := List.mem_range.mp hk
  rcases (show k = 0 ∨ k = 1 by omega) with rfl | rfl
  · exact tb1 70 rfl rfl
  · exact tb1 72 rfl rfl
theorem kc_Fa : gCl 5 "ProofGate$Fact" T_Fa 6 t_Fa := by
  refine ⟨rfl, ?_, by decide +kernel, by decide +kernel⟩
  intro w hw
  obtain ⟨k, hk, rfl⟩ := List.mem_map.mp hw
  have hk := List.mem_range.mp hk
  rcases (show k = 0 ∨ k = 1 ∨ k = 2 ∨ k = 3 ∨ k = 4 ∨ k = 5 by omega) with rfl | rfl | rfl | rfl | rfl | rfl
  · exact tb1 154 rfl rfl
  · exact tb1 156 rfl rfl
  · exact tb1 158 rfl rfl
  · exact tb1 160 rfl rfl
  · exact tb1 162 rfl rfl
  · exact tb1 164 rfl rfl
theorem kc_Fu : gCl 6 "ProofGate$Fuse" T_Fu 1 t_Fu := by
  refine ⟨rfl, ?_, by decide +kernel, by decide +kernel⟩
  intro w hw
  obtain ⟨k, hk, rfl⟩ := List.mem_map.mp hw
  have hk := List.mem_range.mp hk
  rcases (show k = 0 by omega) with rfl
  · exact tb1 194 rfl rfl
theorem kc_Pf : gCl 7 "ProofGate$Proof" T_Pf 4 t_Pf := by
  refine ⟨rfl, ?_, by decide +kernel, by decide +kernel⟩
  intro w hw
  obtain ⟨k, hk, rfl⟩ := List.mem_map.mp hw
  have hk := List.mem_range.mp hk
  rcases (show k = 0 ∨ k = 1 ∨ k = 2 ∨ k = 3 by omega) with rfl | rfl | rfl | rfl
  · exact tb1 85 rfl rfl
  · exact tb1 87 rfl rfl
  · exact tb1 89 rfl rfl
  · exact tb1 91 rfl rfl
theorem kc_Pv : gCl 8 "ProofGate$Prover" T_Pv 9 t_Pv := by
  refine ⟨rfl, ?_, by decide +kernel, by decide +kernel⟩
  intro w hw
  obtain ⟨k, hk, rfl⟩ := List.mem_map.mp hw
  have hk := List.mem_range.mp hk
  rcases (show k = 0 ∨ k = 1 ∨ k = 2 ∨ k = 3 ∨ k = 4 ∨ k = 5 ∨ k = 6 ∨ k = 7 ∨ k = 8 by omega) with rfl | rfl | rfl | rfl | rfl | rfl | rfl | rfl | rfl
  · exact tb1 111 rfl rfl
  · exact tb1 113 rfl rfl
  · exact tb1 115 rfl rfl
  · exact tb1 117 rfl rfl
  · exact tb1 119 rfl rfl
  · exact tb1 121 rfl rfl
  · exact tb1 123 rfl rfl
  · exact tb1 125 rfl rfl
  · exact tb1 127 rfl rfl
theorem kc_Ga : gCl 9 "ProofGate" T_Ga 10 t_Ga := by
  refine ⟨rfl, ?_, by decide +kernel, by decide +kernel⟩
  intro w hw
  obtain ⟨k, hk, rfl⟩ := List.mem_map.mp hw
  have hk := List.mem_range.mp hk
  rcases (show k = 0 ∨ k = 1 ∨ k = 2 ∨ k = 3 ∨ k = 4 ∨ k = 5 ∨ k = 6 ∨ k = 7 ∨ k = 8 ∨ k = 9 by omega) with rfl | rfl | rfl | rfl | rfl | rfl | rfl | rfl | rfl | rfl
  · exact tb1 210 rfl rfl
  · exact tb1 212 rfl rfl
  · exact tb1 214 rfl rfl
  · exact tb1 216 rfl rfl
  · exact tb1 218 rfl rfl
  · exact tb1 220 rfl rfl
  · exact tb1 222 rfl rfl
  · exact tb1 224 rfl rfl
  · exact tb1 226 rfl rfl
  · exact tb1 228 rfl rfl
theorem kc_Mo : gCl 10 "ProofGateModel" T_Mo 38 t_Mo := by
  refine ⟨rfl, ?_, by decide +kernel, by decide +kernel⟩
  intro w hw
  obtain ⟨k, hk, rfl⟩ := List.mem_map.mp hw
  have hk := List.mem_range.mp hk
  rcases (show k = 0 ∨ k = 1 ∨ k = 2 ∨ k = 3 ∨ k = 4 ∨ k = 5 ∨ k = 6 ∨ k = 7 ∨ k = 8 ∨ k = 9 ∨ k = 10 ∨ k = 11 ∨ k = 12 ∨ k = 13 ∨ k = 14 ∨ k = 15 ∨ k = 16 ∨ k = 17 ∨ k = 18 ∨ k = 19 ∨ k = 20 ∨ k = 21 ∨ k = 22 ∨ k = 23 ∨ k = 24 ∨ k = 25 ∨ k = 26 ∨ k = 27 ∨ k = 28 ∨ k = 29 ∨ k = 30 ∨ k = 31 ∨ k = 32 ∨ k = 33 ∨ k = 34 ∨ k = 35 ∨ k = 36 ∨ k = 37 by omega) with rfl | rfl | rfl | rfl | rfl | rfl | rfl | rfl | rfl | rfl | rfl | rfl | rfl | rfl | rfl | rfl | rfl | rfl | rfl | rfl | rfl | rfl | rfl | rfl | rfl | rfl | rfl | rfl | rfl | rfl | rfl | rfl | rfl | rfl | rfl | rfl | rfl | rfl
  · exact tb4 151 rfl rfl
  · exact tb4 153 rfl rfl
  · exact tb4 155 rfl rfl
  · exact tb4 157 rfl rfl
  · exact tb4 159 rfl rfl
  · exact tb4 161 rfl rfl
  · exact tb4 163 rfl rfl
  · exact tb4 165 rfl rfl
  · exact tb4 167 rfl rfl
  · exact tb4 169 rfl rfl
  · exact tb4 171 rfl rfl
  · exact tb4 173 rfl rfl
  · exact tb4 175 rfl rfl
  · exact tb4 177 rfl rfl
  · exact tb4 179 rfl rfl
  · exact tb4 181 rfl rfl
  · exact tb4 183 rfl rfl
  · exact tb4 185 rfl rfl
  · exact tb4 187 rfl rfl
  · exact tb4 189 rfl rfl
  · exact tb4 191 rfl rfl
  · exact tb4 193 rfl rfl
  · exact tb4 195 rfl rfl
  · exact tb4 197 rfl rfl
  · exact tb4 199 rfl rfl
  · exact tb4 201 rfl rfl
  · exact tb4 203 rfl rfl
  · exact tb4 205 rfl rfl
  · exact tb4 207 rfl rfl
  · exact tb4 209 rfl rfl
  · exact tb4 211 rfl rfl
  · exact tb4 213 rfl rfl
  · exact tb4 215 rfl rfl
  · exact tb4 217 rfl rfl
  · exact tb4 219 rfl rfl
  · exact tb4 221 rfl rfl
  · exact tb4 223 rfl rfl
  · exact tb4 225 rfl rfl
theorem ok_Ga_init : gOK y_Ga_init b_Ga_init 2 none 1 := ⟨tb1 31 rfl rfl, tb1 1 rfl rfl, ⟨by decide +kernel, by decide +kernel⟩, by decide +kernel⟩
theorem im_Ga_init : Cond.instanceMethod y_Ga_init ∈ TB := tb1 30 rfl rfl
theorem ok_Cs_init : gOK y_Cs_init b_Cs_init 1 none 0 := ⟨tb1 39 rfl rfl, tb1 2 rfl rfl, ⟨by decide +kernel, by decide +kernel⟩, by decide +kernel⟩
theorem im_Cs_init : Cond.instanceMethod y_Cs_init ∈ TB := tb1 38 rfl rfl
theorem ok_AL_init : gOK y_AL_init b_AL_init 1 none 0 := ⟨tb1 45 rfl rfl, tb1 5 rfl rfl, ⟨by decide +kernel, by decide +kernel⟩, by decide +kernel⟩
theorem im_AL_init : Cond.instanceMethod y_AL_init ∈ TB := tb1 44 rfl rfl
theorem ok_Ab_init : gOK y_Ab_init b_Ab_init 1 none 0 := ⟨tb1 48 rfl rfl, tb1 4 rfl rfl, ⟨by decide +kernel, by decide +kernel⟩, by decide +kernel⟩
theorem im_Ab_init : Cond.instanceMethod y_Ab_init ∈ TB := tb1 47 rfl rfl
theorem ok_Ac_init : gOK y_Ac_init b_Ac_init 1 none 0 := ⟨tb1 51 rfl rfl, tb1 3 rfl rfl, ⟨by decide +kernel, by decide +kernel⟩, by decide +kernel⟩
theorem im_Ac_init : Cond.instanceMethod y_Ac_init ∈ TB := tb1 50 rfl rfl
theorem ok_Pf_init : gOK y_Pf_init b_Pf_init 1 none 0 := ⟨tb1 79 rfl rfl, tb1 6 rfl rfl, ⟨by decide +kernel, by decide +kernel⟩, by decide +kernel⟩
theorem im_Pf_init : Cond.instanceMethod y_Pf_init ∈ TB := tb1 78 rfl rfl
theorem ok_Pv_init : gOK y_Pv_init b_Pv_init 2 none 1 := ⟨tb1 98 rfl rfl, tb1 7 rfl rfl, ⟨by decide +kernel, by decide +kernel⟩, by decide +kernel⟩
theorem im_Pv_init : Cond.instanceMethod y_Pv_init ∈ TB := tb1 97 rfl rfl
theorem ok_Ck_init : gOK y_Ck_init b_Ck_init 3 none 1 := ⟨tb1 134 rfl rfl, tb1 8 rfl rfl, ⟨by decide +kernel, by decide +kernel⟩, by decide +kernel⟩
theorem im_Ck_init : Cond.instanceMethod y_Ck_init ∈ TB := tb1 133 rfl rfl
theorem ok_Fa_init : gOK y_Fa_init b_Fa_init 1 none 0 := ⟨tb1 141 rfl rfl, tb1 9 rfl rfl, ⟨by decide +kernel, by decide +kernel⟩, by decide +kernel⟩
theorem im_Fa_init : Cond.instanceMethod y_Fa_init ∈ TB := tb1 140 rfl rfl
theorem ok_Lg_init : gOK y_Lg_init b_Lg_init 1 none 0 := ⟨tb1 178 rfl rfl, tb1 10 rfl rfl, ⟨by decide +kernel, by decide +kernel⟩, by decide +kernel⟩
theorem im_Lg_init : Cond.instanceMethod y_Lg_init ∈ TB := tb1 177 rfl rfl
theorem ok_Fu_init : gOK y_Fu_init b_Fu_init 1 none 0 := ⟨tb1 191 rfl rfl, tb1 11 rfl rfl, ⟨by decide +kernel, by decide +kernel⟩, by decide +kernel⟩
theorem im_Fu_init : Cond.instanceMethod y_Fu_init ∈ TB := tb1 190 rfl rfl
theorem ok_Ar_fill : gOK y_Ar_fill b_Ar_fill 4 none 2 := ⟨tb1 199 rfl rfl, tb1 12 rfl rfl, ⟨by decide +kernel, by decide +kernel⟩, by decide +kernel⟩
theorem st_Ar_fill : Cond.static y_Ar_fill ∈ TB := tb1 198 rfl rfl
theorem ok_Ga_seal : gOK y_Ga_seal b_Ga_seal 10 (some FieldType.int) 8 := ⟨tb1 234 rfl rfl, tb1 1 rfl rfl, ⟨by decide +kernel, by decide +kernel⟩, by decide +kernel⟩
theorem im_Ga_seal : Cond.instanceMethod y_Ga_seal ∈ TB := tb1 232 rfl rfl
theorem se_Ga_seal : Cond.selects "ProofGate" y_Ga_seal y_Ga_seal ∈ TB := tb1 233 rfl rfl
theorem ok_Cr_init : gOK y_Cr_init b_Cr_init 7 none 5 := ⟨tb1 239 rfl rfl, tb1 14 rfl rfl, ⟨by decide +kernel, by decide +kernel⟩, by decide +kernel⟩
theorem im_Cr_init : Cond.instanceMethod y_Cr_init ∈ TB := tb1 238 rfl rfl
theorem ok_Cr_isKind : gOK y_Cr_isKind b_Cr_isKind 1 (some FieldType.boolean) 1 := ⟨tb2 3 rfl rfl, tb1 14 rfl rfl, ⟨by decide +kernel, by decide +kernel⟩, by decide +kernel⟩
theorem st_Cr_isKind : Cond.static y_Cr_isKind ∈ TB := tb2 2 rfl rfl
theorem ok_Cr_limit : gOK y_Cr_limit b_Cr_limit 2 (some FieldType.int) 2 := ⟨tb2 6 rfl rfl, tb1 14 rfl rfl, ⟨by decide +kernel, by decide +kernel⟩, by decide +kernel⟩
theorem st_Cr_limit : Cond.static y_Cr_limit ∈ TB := tb2 5 rfl rfl
theorem ok_Ga_sealOf : gOK y_Ga_sealOf b_Ga_sealOf 3 (some FieldType.int) 1 := ⟨tb2 42 rfl rfl, tb1 1 rfl rfl, ⟨by decide +kernel, by decide +kernel⟩, by decide +kernel⟩
theorem im_Ga_sealOf : Cond.instanceMethod y_Ga_sealOf ∈ TB := tb2 41 rfl rfl
theorem se_Ga_sealOf : Cond.selects "ProofGate" y_Ga_sealOf y_Ga_sealOf ∈ TB := sp1 (q := (y_Ga_sealOf, 10)) 0 rfl
theorem ok_Cr_mark : gOK y_Cr_mark b_Cr_mark 3 (some FieldType.int) 0 := ⟨tb2 46 rfl rfl, tb1 14 rfl rfl, ⟨by decide +kernel, by decide +kernel⟩, by decide +kernel⟩
theorem im_Cr_mark : Cond.instanceMethod y_Cr_mark ∈ TB := tb2 45 rfl rfl
theorem se_Cr_mark : Cond.selects "ProofGate$Credential" y_Cr_mark y_Cr_mark ∈ TB := sp1 (q := (y_Cr_mark, 6)) 1 rfl
theorem ok_Cr_mix : gOK y_Cr_mix b_Cr_mix 3 (some FieldType.int) 2 := ⟨tb2 49 rfl rfl, tb1 14 rfl rfl, ⟨by decide +kernel, by decide +kernel⟩, by decide +kernel⟩
theorem st_Cr_mix : Cond.static y_Cr_mix ∈ TB := tb2 48 rfl rfl
theorem ok_Ga_set : gOK y_Ga_set b_Ga_set 5 none 4 := ⟨tb2 55 rfl rfl, tb1 1 rfl rfl, ⟨by decide +kernel, by decide +kernel⟩, by decide +kernel⟩
theorem im_Ga_set : Cond.instanceMethod y_Ga_set ∈ TB := tb2 53 rfl rfl
theorem se_Ga_set : Cond.selects "ProofGate" y_Ga_set y_Ga_set ∈ TB := tb2 54 rfl rfl
theorem ok_Ga_pass : gOK y_Ga_pass b_Ga_pass 2 (some FieldType.int) 1 := ⟨tb2 59 rfl rfl, tb1 1 rfl rfl, ⟨by decide +kernel, by decide +kernel⟩, by decide +kernel⟩
theorem im_Ga_pass : Cond.instanceMethod y_Ga_pass ∈ TB := tb2 57 rfl rfl
theorem se_Ga_pass : Cond.selects "ProofGate" y_Ga_pass y_Ga_pass ∈ TB := tb2 58 rfl rfl
theorem ok_Cs_letTimeGoOn : gOK y_Cs_letTimeGoOn b_Cs_letTimeGoOn 2 (some FieldType.int) 1 := ⟨tb2 63 rfl rfl, tb1 2 rfl rfl, ⟨by decide +kernel, by decide +kernel⟩, by decide +kernel⟩
theorem im_Cs_letTimeGoOn : Cond.instanceMethod y_Cs_letTimeGoOn ∈ TB := tb2 62 rfl rfl
theorem se_Cs_letTimeGoOn : Cond.selects "ProofGate$Credentials" y_Cs_letTimeGoOn y_Cs_letTimeGoOn ∈ TB := sp1 (q := (y_Cs_letTimeGoOn, 2)) 2 rfl
theorem ok_Ga_step : gOK y_Ga_step b_Ga_step 4 (some FieldType.int) 3 := ⟨tb2 67 rfl rfl, tb1 1 rfl rfl, ⟨by decide +kernel, by decide +kernel⟩, by decide +kernel⟩
theorem im_Ga_step : Cond.instanceMethod y_Ga_step ∈ TB := tb2 65 rfl rfl
theorem se_Ga_step : Cond.selects "ProofGate" y_Ga_step y_Ga_step ∈ TB := tb2 66 rfl rfl
theorem ok_Pf_append : gOK y_Pf_append b_Pf_append 4 (some FieldType.int) 3 := ⟨tb2 71 rfl rfl, tb1 6 rfl rfl, ⟨by decide +kernel, by decide +kernel⟩, by decide +kernel⟩
theorem im_Pf_append : Cond.instanceMethod y_Pf_append ∈ TB := tb2 70 rfl rfl
theorem se_Pf_append : Cond.selects "ProofGate$Proof" y_Pf_append y_Pf_append ∈ TB := sp1 (q := (y_Pf_append, 4)) 3 rfl
theorem ok_Ga_clear : gOK y_Ga_clear b_Ga_clear 1 (some FieldType.int) 0 := ⟨tb2 75 rfl rfl, tb1 1 rfl rfl, ⟨by decide +kernel, by decide +kernel⟩, by decide +kernel⟩
theorem im_Ga_clear : Cond.instanceMethod y_Ga_clear ∈ TB := tb2 73 rfl rfl
theorem se_Ga_clear : Cond.selects "ProofGate" y_Ga_clear y_Ga_clear ∈ TB := tb2 74 rfl rfl
theorem ok_Pf_makeEmpty : gOK y_Pf_makeEmpty b_Pf_makeEmpty 2 (some FieldType.int) 0 := ⟨tb2 79 rfl rfl, tb1 6 rfl rfl, ⟨by decide +kernel, by decide +kernel⟩, by decide +kernel⟩
theorem im_Pf_makeEmpty : Cond.instanceMethod y_Pf_makeEmpty ∈ TB := tb2 78 rfl rfl
theorem se_Pf_makeEmpty : Cond.selects "ProofGate$Proof" y_Pf_makeEmpty y_Pf_makeEmpty ∈ TB := sp1 (q := (y_Pf_makeEmpty, 4)) 4 rfl
theorem ok_Ga_steps : gOK y_Ga_steps b_Ga_steps 1 (some FieldType.int) 0 := ⟨tb2 83 rfl rfl, tb1 1 rfl rfl, ⟨by decide +kernel, by decide +kernel⟩, by decide +kernel⟩
theorem im_Ga_steps : Cond.instanceMethod y_Ga_steps ∈ TB := tb2 81 rfl rfl
theorem se_Ga_steps : Cond.selects "ProofGate" y_Ga_steps y_Ga_steps ∈ TB := tb2 82 rfl rfl
theorem ok_Pf_length : gOK y_Pf_length b_Pf_length 1 (some FieldType.int) 0 := ⟨tb2 87 rfl rfl, tb1 6 rfl rfl, ⟨by decide +kernel, by decide +kernel⟩, by decide +kernel⟩
theorem im_Pf_length : Cond.instanceMethod y_Pf_length ∈ TB := tb2 86 rfl rfl
theorem se_Pf_length : Cond.selects "ProofGate$Proof" y_Pf_length y_Pf_length ∈ TB := sp1 (q := (y_Pf_length, 4)) 5 rfl
theorem ok_Ga_stepAt : gOK y_Ga_stepAt b_Ga_stepAt 3 (some FieldType.int) 2 := ⟨tb2 91 rfl rfl, tb1 1 rfl rfl, ⟨by decide +kernel, by decide +kernel⟩, by decide +kernel⟩
theorem im_Ga_stepAt : Cond.instanceMethod y_Ga_stepAt ∈ TB := tb2 89 rfl rfl
theorem se_Ga_stepAt : Cond.selects "ProofGate" y_Ga_stepAt y_Ga_stepAt ∈ TB := tb2 90 rfl rfl
theorem ok_Pf_hasStep : gOK y_Pf_hasStep b_Pf_hasStep 2 (some FieldType.boolean) 1 := ⟨tb2 95 rfl rfl, tb1 6 rfl rfl, ⟨by decide +kernel, by decide +kernel⟩, by decide +kernel⟩
theorem im_Pf_hasStep : Cond.instanceMethod y_Pf_hasStep ∈ TB := tb2 94 rfl rfl
theorem se_Pf_hasStep : Cond.selects "ProofGate$Proof" y_Pf_hasStep y_Pf_hasStep ∈ TB := sp1 (q := (y_Pf_hasStep, 4)) 6 rfl
theorem ok_Pf_ruleAt : gOK y_Pf_ruleAt b_Pf_ruleAt 2 (some FieldType.int) 1 := ⟨tb2 99 rfl rfl, tb1 6 rfl rfl, ⟨by decide +kernel, by decide +kernel⟩, by decide +kernel⟩
theorem im_Pf_ruleAt : Cond.instanceMethod y_Pf_ruleAt ∈ TB := tb2 98 rfl rfl
theorem se_Pf_ruleAt : Cond.selects "ProofGate$Proof" y_Pf_ruleAt y_Pf_ruleAt ∈ TB := sp1 (q := (y_Pf_ruleAt, 4)) 7 rfl
theorem ok_Pf_xAt : gOK y_Pf_xAt b_Pf_xAt 2 (some FieldType.int) 1 := ⟨tb2 103 rfl rfl, tb1 6 rfl rfl, ⟨by decide +kernel, by decide +kernel⟩, by decide +kernel⟩
theorem im_Pf_xAt : Cond.instanceMethod y_Pf_xAt ∈ TB := tb2 102 rfl rfl
theorem se_Pf_xAt : Cond.selects "ProofGate$Proof" y_Pf_xAt y_Pf_xAt ∈ TB := sp1 (q := (y_Pf_xAt, 4)) 8 rfl
theorem ok_Pf_yAt : gOK y_Pf_yAt b_Pf_yAt 2 (some FieldType.int) 1 := ⟨tb2 107 rfl rfl, tb1 6 rfl rfl, ⟨by decide +kernel, by decide +kernel⟩, by decide +kernel⟩
theorem im_Pf_yAt : Cond.instanceMethod y_Pf_yAt ∈ TB := tb2 106 rfl rfl
theorem se_Pf_yAt : Cond.selects "ProofGate$Proof" y_Pf_yAt y_Pf_yAt ∈ TB := sp1 (q := (y_Pf_yAt, 4)) 9 rfl
theorem ok_Ga_prove : gOK y_Ga_prove b_Ga_prove 5 (some FieldType.int) 3 := ⟨tb2 111 rfl rfl, tb1 1 rfl rfl, ⟨by decide +kernel, by decide +kernel⟩, by decide +kernel⟩
theorem im_Ga_prove : Cond.instanceMethod y_Ga_prove ∈ TB := tb2 109 rfl rfl
theorem se_Ga_prove : Cond.selects "ProofGate" y_Ga_prove y_Ga_prove ∈ TB := tb2 110 rfl rfl
theorem ok_Ga_isNamed : gOK y_Ga_isNamed b_Ga_isNamed 3 (some FieldType.boolean) 3 := ⟨tb2 114 rfl rfl, tb1 1 rfl rfl, ⟨by decide +kernel, by decide +kernel⟩, by decide +kernel⟩
theorem st_Ga_isNamed : Cond.static y_Ga_isNamed ∈ TB := tb2 113 rfl rfl
theorem ok_Ga_isPrincipal : gOK y_Ga_isPrincipal b_Ga_isPrincipal 1 (some FieldType.boolean) 1 := ⟨tb2 117 rfl rfl, tb1 1 rfl rfl, ⟨by decide +kernel, by decide +kernel⟩, by decide +kernel⟩
theorem st_Ga_isPrincipal : Cond.static y_Ga_isPrincipal ∈ TB := tb2 116 rfl rfl
theorem ok_Ga_isObject : gOK y_Ga_isObject b_Ga_isObject 1 (some FieldType.boolean) 1 := ⟨tb2 120 rfl rfl, tb1 1 rfl rfl, ⟨by decide +kernel, by decide +kernel⟩, by decide +kernel⟩
theorem st_Ga_isObject : Cond.static y_Ga_isObject ∈ TB := tb2 119 rfl rfl
theorem ok_Ga_isOpenTo : gOK y_Ga_isOpenTo b_Ga_isOpenTo 3 (some FieldType.boolean) 2 := ⟨tb2 124 rfl rfl, tb1 1 rfl rfl, ⟨by decide +kernel, by decide +kernel⟩, by decide +kernel⟩
theorem im_Ga_isOpenTo : Cond.instanceMethod y_Ga_isOpenTo ∈ TB := tb2 123 rfl rfl
theorem se_Ga_isOpenTo : Cond.selects "ProofGate" y_Ga_isOpenTo y_Ga_isOpenTo ∈ TB := sp1 (q := (y_Ga_isOpenTo, 10)) 10 rfl
theorem ok_Ga_sayerOfGoal : gOK y_Ga_sayerOfGoal b_Ga_sayerOfGoal 3 (some FieldType.int) 2 := ⟨tb2 128 rfl rfl, tb1 1 rfl rfl, ⟨by decide +kernel, by decide +kernel⟩, by decide +kernel⟩
theorem im_Ga_sayerOfGoal : Cond.instanceMethod y_Ga_sayerOfGoal ∈ TB := tb2 127 rfl rfl
theorem se_Ga_sayerOfGoal : Cond.selects "ProofGate" y_Ga_sayerOfGoal y_Ga_sayerOfGoal ∈ TB := sp1 (q := (y_Ga_sayerOfGoal, 10)) 11 rfl
theorem ok_Pv_writeProof : gOK y_Pv_writeProof b_Pv_writeProof 6 (some FieldType.int) 4 := ⟨tb2 132 rfl rfl, tb1 7 rfl rfl, ⟨by decide +kernel, by decide +kernel⟩, by decide +kernel⟩
theorem im_Pv_writeProof : Cond.instanceMethod y_Pv_writeProof ∈ TB := tb2 131 rfl rfl
theorem se_Pv_writeProof : Cond.selects "ProofGate$Prover" y_Pv_writeProof y_Pv_writeProof ∈ TB := sp1 (q := (y_Pv_writeProof, 9)) 12 rfl
theorem ok_Pv_may : gOK y_Pv_may b_Pv_may 3 (some FieldType.int) 3 := ⟨tb2 135 rfl rfl, tb1 7 rfl rfl, ⟨by decide +kernel, by decide +kernel⟩, by decide +kernel⟩
theorem st_Pv_may : Cond.static y_Pv_may ∈ TB := tb2 134 rfl rfl
theorem ok_Pv_finds : gOK y_Pv_finds b_Pv_finds 3 (some FieldType.boolean) 2 := ⟨tb2 139 rfl rfl, tb1 7 rfl rfl, ⟨by decide +kernel, by decide +kernel⟩, by decide +kernel⟩
theorem im_Pv_finds : Cond.instanceMethod y_Pv_finds ∈ TB := tb2 138 rfl rfl
theorem se_Pv_finds : Cond.selects "ProofGate$Prover" y_Pv_finds y_Pv_finds ∈ TB := sp1 (q := (y_Pv_finds, 9)) 13 rfl
theorem ok_Pv_findWhatIsSaid : gOK y_Pv_findWhatIsSaid b_Pv_findWhatIsSaid 5 none 1 := ⟨tb2 144 rfl rfl, tb1 7 rfl rfl, ⟨by decide +kernel, by decide +kernel⟩, by decide +kernel⟩
theorem im_Pv_findWhatIsSaid : Cond.instanceMethod y_Pv_findWhatIsSaid ∈ TB := tb2 143 rfl rfl
theorem se_Pv_findWhatIsSaid : Cond.selects "ProofGate$Prover" y_Pv_findWhatIsSaid y_Pv_findWhatIsSaid ∈ TB := sp1 (q := (y_Pv_findWhatIsSaid, 9)) 14 rfl
theorem ok_Cs_count : gOK y_Cs_count b_Cs_count 1 (some FieldType.int) 0 := ⟨tb2 148 rfl rfl, tb1 2 rfl rfl, ⟨by decide +kernel, by decide +kernel⟩, by decide +kernel⟩
theorem im_Cs_count : Cond.instanceMethod y_Cs_count ∈ TB := tb2 147 rfl rfl
theorem se_Cs_count : Cond.selects "ProofGate$Credentials" y_Cs_count y_Cs_count ∈ TB := sp1 (q := (y_Cs_count, 2)) 15 rfl
theorem ok_AL_size : gOK y_AL_size b_AL_size 1 (some FieldType.int) 0 := ⟨tb2 152 rfl rfl, tb1 5 rfl rfl, ⟨by decide +kernel, by decide +kernel⟩, by decide +kernel⟩
theorem im_AL_size : Cond.instanceMethod y_AL_size ∈ TB := tb2 150 rfl rfl
theorem se_AL_size : Cond.selects "java/util/ArrayList" y_AL_size y_AL_size ∈ TB := tb2 151 rfl rfl
theorem ok_Cs_findValid : gOK y_Cs_findValid b_Cs_findValid 3 (some (FieldType.object "ProofGate$Credential")) 1 := ⟨tb2 156 rfl rfl, tb1 2 rfl rfl, ⟨by decide +kernel, by decide +kernel⟩, by decide +kernel⟩
theorem im_Cs_findValid : Cond.instanceMethod y_Cs_findValid ∈ TB := tb2 155 rfl rfl
theorem se_Cs_findValid : Cond.selects "ProofGate$Credentials" y_Cs_findValid y_Cs_findValid ∈ TB := sp2 (q := (y_Cs_findValid, 2)) 0 rfl
theorem ok_Cs_find : gOK y_Cs_find b_Cs_find 2 (some (FieldType.object "ProofGate$Credential")) 1 := ⟨tb2 160 rfl rfl, tb1 2 rfl rfl, ⟨by decide +kernel, by decide +kernel⟩, by decide +kernel⟩
theorem im_Cs_find : Cond.instanceMethod y_Cs_find ∈ TB := tb2 159 rfl rfl
theorem se_Cs_find : Cond.selects "ProofGate$Credentials" y_Cs_find y_Cs_find ∈ TB := sp2 (q := (y_Cs_find, 2)) 1 rfl
theorem ok_AL_get : gOK y_AL_get b_AL_get 2 (some (FieldType.object "java/lang/Object")) 1 := ⟨tb2 164 rfl rfl, tb1 5 rfl rfl, ⟨by decide +kernel, by decide +kernel⟩, by decide +kernel⟩
theorem im_AL_get : Cond.instanceMethod y_AL_get ∈ TB := tb2 162 rfl rfl
theorem se_AL_get : Cond.selects "java/util/ArrayList" y_AL_get y_AL_get ∈ TB := tb2 163 rfl rfl
theorem ok_Ob_checkIndex : gOK y_Ob_checkIndex b_Ob_checkIndex 2 (some FieldType.int) 2 := ⟨tb2 167 rfl rfl, tb1 24 rfl rfl, ⟨by decide +kernel, by decide +kernel⟩, by decide +kernel⟩
theorem st_Ob_checkIndex : Cond.static y_Ob_checkIndex ∈ TB := tb2 166 rfl rfl
theorem ok_Pr_checkIndex : gOK y_Pr_checkIndex b_Pr_checkIndex 3 (some FieldType.int) 3 := ⟨tb2 170 rfl rfl, tb1 25 rfl rfl, ⟨by decide +kernel, by decide +kernel⟩, by decide +kernel⟩
theorem st_Pr_checkIndex : Cond.static y_Pr_checkIndex ∈ TB := tb2 169 rfl rfl
theorem ok_AL_elementData : gOK y_AL_elementData b_AL_elementData 2 (some (FieldType.object "java/lang/Object")) 1 := ⟨tb2 174 rfl rfl, tb1 5 rfl rfl, ⟨by decide +kernel, by decide +kernel⟩, by decide +kernel⟩
theorem im_AL_elementData : Cond.instanceMethod y_AL_elementData ∈ TB := tb2 172 rfl rfl
theorem se_AL_elementData : Cond.selects "java/util/ArrayList" y_AL_elementData y_AL_elementData ∈ TB := tb2 173 rfl rfl
theorem ok_Cr_isValidAt : gOK y_Cr_isValidAt b_Cr_isValidAt 2 (some FieldType.boolean) 1 := ⟨tb2 179 rfl rfl, tb1 14 rfl rfl, ⟨by decide +kernel, by decide +kernel⟩, by decide +kernel⟩
theorem im_Cr_isValidAt : Cond.instanceMethod y_Cr_isValidAt ∈ TB := tb2 178 rfl rfl
theorem se_Cr_isValidAt : Cond.selects "ProofGate$Credential" y_Cr_isValidAt y_Cr_isValidAt ∈ TB := sp2 (q := (y_Cr_isValidAt, 6)) 2 rfl
theorem ok_Pv_factSaidBy : gOK y_Pv_factSaidBy b_Pv_factSaidBy 3 (some FieldType.int) 2 := ⟨tb2 182 rfl rfl, tb1 7 rfl rfl, ⟨by decide +kernel, by decide +kernel⟩, by decide +kernel⟩
theorem st_Pv_factSaidBy : Cond.static y_Pv_factSaidBy ∈ TB := tb2 181 rfl rfl
theorem ok_Pv_speaks : gOK y_Pv_speaks b_Pv_speaks 2 (some FieldType.int) 2 := ⟨tb2 185 rfl rfl, tb1 7 rfl rfl, ⟨by decide +kernel, by decide +kernel⟩, by decide +kernel⟩
theorem st_Pv_speaks : Cond.static y_Pv_speaks ∈ TB := tb2 184 rfl rfl
theorem ok_Pv_trusts : gOK y_Pv_trusts b_Pv_trusts 4 (some FieldType.int) 4 := ⟨tb2 188 rfl rfl, tb1 7 rfl rfl, ⟨by decide +kernel, by decide +kernel⟩, by decide +kernel⟩
theorem st_Pv_trusts : Cond.static y_Pv_trusts ∈ TB := tb2 187 rfl rfl
theorem ok_Pv_reach : gOK y_Pv_reach b_Pv_reach 5 none 4 := ⟨tb2 192 rfl rfl, tb1 7 rfl rfl, ⟨by decide +kernel, by decide +kernel⟩, by decide +kernel⟩
theorem im_Pv_reach : Cond.instanceMethod y_Pv_reach ∈ TB := tb2 191 rfl rfl
theorem se_Pv_reach : Cond.selects "ProofGate$Prover" y_Pv_reach y_Pv_reach ∈ TB := sp2 (q := (y_Pv_reach, 9)) 3 rfl
theorem ok_Pv_findWhatFollows : gOK y_Pv_findWhatFollows b_Pv_findWhatFollows 1 none 0 := ⟨tb2 196 rfl rfl, tb1 7 rfl rfl, ⟨by decide +kernel, by decide +kernel⟩, by decide +kernel⟩
theorem im_Pv_findWhatFollows : Cond.instanceMethod y_Pv_findWhatFollows ∈ TB := tb2 195 rfl rfl
theorem se_Pv_findWhatFollows : Cond.selects "ProofGate$Prover" y_Pv_findWhatFollows y_Pv_findWhatFollows ∈ TB := sp2 (q := (y_Pv_findWhatFollows, 9)) 4 rfl
theorem ok_Pv_findMayByVoice : gOK y_Pv_findMayByVoice b_Pv_findMayByVoice 5 none 0 := ⟨tb2 200 rfl rfl, tb1 7 rfl rfl, ⟨by decide +kernel, by decide +kernel⟩, by decide +kernel⟩
theorem im_Pv_findMayByVoice : Cond.instanceMethod y_Pv_findMayByVoice ∈ TB := tb2 199 rfl rfl
theorem se_Pv_findMayByVoice : Cond.selects "ProofGate$Prover" y_Pv_findMayByVoice y_Pv_findMayByVoice ∈ TB := sp2 (q := (y_Pv_findMayByVoice, 9)) 5 rfl
theorem ok_Pv_isKnown : gOK y_Pv_isKnown b_Pv_isKnown 2 (some FieldType.boolean) 1 := ⟨tb2 204 rfl rfl, tb1 7 rfl rfl, ⟨by decide +kernel, by decide +kernel⟩, by decide +kernel⟩
theorem im_Pv_isKnown : Cond.instanceMethod y_Pv_isKnown ∈ TB := tb2 203 rfl rfl
theorem se_Pv_isKnown : Cond.selects "ProofGate$Prover" y_Pv_isKnown y_Pv_isKnown ∈ TB := sp2 (q := (y_Pv_isKnown, 9)) 6 rfl
theorem ok_Pv_handOnMay : gOK y_Pv_handOnMay b_Pv_handOnMay 8 none 5 := ⟨tb2 208 rfl rfl, tb1 7 rfl rfl, ⟨by decide +kernel, by decide +kernel⟩, by decide +kernel⟩
theorem im_Pv_handOnMay : Cond.instanceMethod y_Pv_handOnMay ∈ TB := tb2 207 rfl rfl
theorem se_Pv_handOnMay : Cond.selects "ProofGate$Prover" y_Pv_handOnMay y_Pv_handOnMay ∈ TB := sp2 (q := (y_Pv_handOnMay, 9)) 7 rfl
theorem ok_Pv_findMayByTrust : gOK y_Pv_findMayByTrust b_Pv_findMayByTrust 6 none 0 := ⟨tb2 212 rfl rfl, tb1 7 rfl rfl, ⟨by decide +kernel, by decide +kernel⟩, by decide +kernel⟩
theorem im_Pv_findMayByTrust : Cond.instanceMethod y_Pv_findMayByTrust ∈ TB := tb2 211 rfl rfl
theorem se_Pv_findMayByTrust : Cond.selects "ProofGate$Prover" y_Pv_findMayByTrust y_Pv_findMayByTrust ∈ TB := sp2 (q := (y_Pv_findMayByTrust, 9)) 8 rfl
theorem ok_Pv_findTrustByTrust : gOK y_Pv_findTrustByTrust b_Pv_findTrustByTrust 6 none 0 := ⟨tb2 216 rfl rfl, tb1 7 rfl rfl, ⟨by decide +kernel, by decide +kernel⟩, by decide +kernel⟩
theorem im_Pv_findTrustByTrust : Cond.instanceMethod y_Pv_findTrustByTrust ∈ TB := tb2 215 rfl rfl
theorem se_Pv_findTrustByTrust : Cond.selects "ProofGate$Prover" y_Pv_findTrustByTrust y_Pv_findTrustByTrust ∈ TB := sp2 (q := (y_Pv_findTrustByTrust, 9)) 9 rfl
theorem ok_Pv_handOnTrust : gOK y_Pv_handOnTrust b_Pv_handOnTrust 10 none 6 := ⟨tb2 220 rfl rfl, tb1 7 rfl rfl, ⟨by decide +kernel, by decide +kernel⟩, by decide +kernel⟩
theorem im_Pv_handOnTrust : Cond.instanceMethod y_Pv_handOnTrust ∈ TB := tb2 219 rfl rfl
theorem se_Pv_handOnTrust : Cond.selects "ProofGate$Prover" y_Pv_handOnTrust y_Pv_handOnTrust ∈ TB := sp2 (q := (y_Pv_handOnTrust, 9)) 10 rfl
theorem ok_Ma_min : gOK y_Ma_min b_Ma_min 2 (some FieldType.int) 2 := ⟨tb2 223 rfl rfl, tb1 22 rfl rfl, ⟨by decide +kernel, by decide +kernel⟩, by decide +kernel⟩
theorem st_Ma_min : Cond.static y_Ma_min ∈ TB := tb2 222 rfl rfl
theorem ok_Pv_findTrustByVoice : gOK y_Pv_findTrustByVoice b_Pv_findTrustByVoice 5 none 0 := ⟨tb2 227 rfl rfl, tb1 7 rfl rfl, ⟨by decide +kernel, by decide +kernel⟩, by decide +kernel⟩
theorem im_Pv_findTrustByVoice : Cond.instanceMethod y_Pv_findTrustByVoice ∈ TB := tb2 226 rfl rfl
theorem se_Pv_findTrustByVoice : Cond.selects "ProofGate$Prover" y_Pv_findTrustByVoice y_Pv_findTrustByVoice ∈ TB := sp2 (q := (y_Pv_findTrustByVoice, 9)) 11 rfl
theorem ok_Pv_findVoiceByVoice : gOK y_Pv_findVoiceByVoice b_Pv_findVoiceByVoice 3 none 0 := ⟨tb2 231 rfl rfl, tb1 7 rfl rfl, ⟨by decide +kernel, by decide +kernel⟩, by decide +kernel⟩
theorem im_Pv_findVoiceByVoice : Cond.instanceMethod y_Pv_findVoiceByVoice ∈ TB := tb2 230 rfl rfl
theorem se_Pv_findVoiceByVoice : Cond.selects "ProofGate$Prover" y_Pv_findVoiceByVoice y_Pv_findVoiceByVoice ∈ TB := sp2 (q := (y_Pv_findVoiceByVoice, 9)) 12 rfl
theorem ok_Pv_handOnVoice : gOK y_Pv_handOnVoice b_Pv_handOnVoice 5 none 2 := ⟨tb2 235 rfl rfl, tb1 7 rfl rfl, ⟨by decide +kernel, by decide +kernel⟩, by decide +kernel⟩
theorem im_Pv_handOnVoice : Cond.instanceMethod y_Pv_handOnVoice ∈ TB := tb2 234 rfl rfl
theorem se_Pv_handOnVoice : Cond.selects "ProofGate$Prover" y_Pv_handOnVoice y_Pv_handOnVoice ∈ TB := sp2 (q := (y_Pv_handOnVoice, 9)) 13 rfl
theorem ok_Pv_findImplied : gOK y_Pv_findImplied b_Pv_findImplied 3 none 0 := ⟨tb2 239 rfl rfl, tb1 7 rfl rfl, ⟨by decide +kernel, by decide +kernel⟩, by decide +kernel⟩
theorem im_Pv_findImplied : Cond.instanceMethod y_Pv_findImplied ∈ TB := tb2 238 rfl rfl
theorem se_Pv_findImplied : Cond.selects "ProofGate$Prover" y_Pv_findImplied y_Pv_findImplied ∈ TB := sp2 (q := (y_Pv_findImplied, 9)) 14 rfl
theorem ok_Pv_applyImply : gOK y_Pv_applyImply b_Pv_applyImply 7 none 4 := ⟨tb3 3 rfl rfl, tb1 7 rfl rfl, ⟨by decide +kernel, by decide +kernel⟩, by decide +kernel⟩
theorem im_Pv_applyImply : Cond.instanceMethod y_Pv_applyImply ∈ TB := tb3 2 rfl rfl
theorem se_Pv_applyImply : Cond.selects "ProofGate$Prover" y_Pv_applyImply y_Pv_applyImply ∈ TB := sp2 (q := (y_Pv_applyImply, 9)) 15 rfl
theorem ok_Pv_writesStep : gOK y_Pv_writesStep b_Pv_writesStep 6 (some FieldType.boolean) 2 := ⟨tb3 8 rfl rfl, tb1 7 rfl rfl, ⟨by decide +kernel, by decide +kernel⟩, by decide +kernel⟩
theorem im_Pv_writesStep : Cond.instanceMethod y_Pv_writesStep ∈ TB := tb3 7 rfl rfl
theorem se_Pv_writesStep : Cond.selects "ProofGate$Prover" y_Pv_writesStep y_Pv_writesStep ∈ TB := sp3 (q := (y_Pv_writesStep, 9)) 0 rfl
theorem ok_Pv_written : gOK y_Pv_written b_Pv_written 1 (some (FieldType.object "ProofGate$Proof")) 0 := ⟨tb3 14 rfl rfl, tb1 7 rfl rfl, ⟨by decide +kernel, by decide +kernel⟩, by decide +kernel⟩
theorem im_Pv_written : Cond.instanceMethod y_Pv_written ∈ TB := tb3 13 rfl rfl
theorem se_Pv_written : Cond.selects "ProofGate$Prover" y_Pv_written y_Pv_written ∈ TB := sp3 (q := (y_Pv_written, 9)) 1 rfl
theorem ok_Pf_become : gOK y_Pf_become b_Pf_become 2 none 1 := ⟨tb3 18 rfl rfl, tb1 6 rfl rfl, ⟨by decide +kernel, by decide +kernel⟩, by decide +kernel⟩
theorem im_Pf_become : Cond.instanceMethod y_Pf_become ∈ TB := tb3 17 rfl rfl
theorem se_Pf_become : Cond.selects "ProofGate$Proof" y_Pf_become y_Pf_become ∈ TB := sp3 (q := (y_Pf_become, 4)) 2 rfl
theorem ok_Ga_check : gOK y_Ga_check b_Ga_check 4 (some FieldType.boolean) 3 := ⟨tb3 25 rfl rfl, tb1 1 rfl rfl, ⟨by decide +kernel, by decide +kernel⟩, by decide +kernel⟩
theorem im_Ga_check : Cond.instanceMethod y_Ga_check ∈ TB := tb3 23 rfl rfl
theorem se_Ga_check : Cond.selects "ProofGate" y_Ga_check y_Ga_check ∈ TB := tb3 24 rfl rfl
theorem ok_Ck_accepts : gOK y_Ck_accepts b_Ck_accepts 8 (some FieldType.boolean) 5 := ⟨tb3 29 rfl rfl, tb1 8 rfl rfl, ⟨by decide +kernel, by decide +kernel⟩, by decide +kernel⟩
theorem im_Ck_accepts : Cond.instanceMethod y_Ck_accepts ∈ TB := tb3 28 rfl rfl
theorem se_Ck_accepts : Cond.selects "ProofGate$Checker" y_Ck_accepts y_Ck_accepts ∈ TB := sp3 (q := (y_Ck_accepts, 2)) 3 rfl
theorem ok_Ck_follows : gOK y_Ck_follows b_Ck_follows 5 (some FieldType.boolean) 4 := ⟨tb3 37 rfl rfl, tb1 8 rfl rfl, ⟨by decide +kernel, by decide +kernel⟩, by decide +kernel⟩
theorem im_Ck_follows : Cond.instanceMethod y_Ck_follows ∈ TB := tb3 36 rfl rfl
theorem se_Ck_follows : Cond.selects "ProofGate$Checker" y_Ck_follows y_Ck_follows ∈ TB := sp3 (q := (y_Ck_follows, 2)) 4 rfl
theorem ok_Ck_isSaid : gOK y_Ck_isSaid b_Ck_isSaid 2 (some FieldType.boolean) 2 := ⟨tb3 41 rfl rfl, tb1 8 rfl rfl, ⟨by decide +kernel, by decide +kernel⟩, by decide +kernel⟩
theorem st_Ck_isSaid : Cond.static y_Ck_isSaid ∈ TB := tb3 40 rfl rfl
theorem ok_Fa_becomeSaidBy : gOK y_Fa_becomeSaidBy b_Fa_becomeSaidBy 2 none 1 := ⟨tb3 45 rfl rfl, tb1 9 rfl rfl, ⟨by decide +kernel, by decide +kernel⟩, by decide +kernel⟩
theorem im_Fa_becomeSaidBy : Cond.instanceMethod y_Fa_becomeSaidBy ∈ TB := tb3 44 rfl rfl
theorem se_Fa_becomeSaidBy : Cond.selects "ProofGate$Fact" y_Fa_becomeSaidBy y_Fa_becomeSaidBy ∈ TB := sp3 (q := (y_Fa_becomeSaidBy, 6)) 5 rfl
theorem ok_Ck_isImplied : gOK y_Ck_isImplied b_Ck_isImplied 3 (some FieldType.boolean) 3 := ⟨tb3 48 rfl rfl, tb1 8 rfl rfl, ⟨by decide +kernel, by decide +kernel⟩, by decide +kernel⟩
theorem st_Ck_isImplied : Cond.static y_Ck_isImplied ∈ TB := tb3 47 rfl rfl
theorem ok_Fa_become : gOK y_Fa_become b_Fa_become 2 none 1 := ⟨tb3 52 rfl rfl, tb1 9 rfl rfl, ⟨by decide +kernel, by decide +kernel⟩, by decide +kernel⟩
theorem im_Fa_become : Cond.instanceMethod y_Fa_become ∈ TB := tb3 51 rfl rfl
theorem se_Fa_become : Cond.selects "ProofGate$Fact" y_Fa_become y_Fa_become ∈ TB := sp3 (q := (y_Fa_become, 6)) 6 rfl
theorem ok_Ck_isJoined : gOK y_Ck_isJoined b_Ck_isJoined 4 (some FieldType.boolean) 4 := ⟨tb3 55 rfl rfl, tb1 8 rfl rfl, ⟨by decide +kernel, by decide +kernel⟩, by decide +kernel⟩
theorem st_Ck_isJoined : Cond.static y_Ck_isJoined ∈ TB := tb3 54 rfl rfl
theorem ok_Ck_isHandedOn : gOK y_Ck_isHandedOn b_Ck_isHandedOn 3 (some FieldType.boolean) 3 := ⟨tb3 58 rfl rfl, tb1 8 rfl rfl, ⟨by decide +kernel, by decide +kernel⟩, by decide +kernel⟩
theorem st_Ck_isHandedOn : Cond.static y_Ck_isHandedOn ∈ TB := tb3 57 rfl rfl
theorem ok_Fa_isOfSameThing : gOK y_Fa_isOfSameThing b_Fa_isOfSameThing 2 (some FieldType.boolean) 1 := ⟨tb3 62 rfl rfl, tb1 9 rfl rfl, ⟨by decide +kernel, by decide +kernel⟩, by decide +kernel⟩
theorem im_Fa_isOfSameThing : Cond.instanceMethod y_Fa_isOfSameThing ∈ TB := tb3 61 rfl rfl
theorem se_Fa_isOfSameThing : Cond.selects "ProofGate$Fact" y_Fa_isOfSameThing y_Fa_isOfSameThing ∈ TB := sp3 (q := (y_Fa_isOfSameThing, 6)) 7 rfl
theorem ok_Ck_isTrustedDeeper : gOK y_Ck_isTrustedDeeper b_Ck_isTrustedDeeper 3 (some FieldType.boolean) 3 := ⟨tb3 65 rfl rfl, tb1 8 rfl rfl, ⟨by decide +kernel, by decide +kernel⟩, by decide +kernel⟩
theorem st_Ck_isTrustedDeeper : Cond.static y_Ck_isTrustedDeeper ∈ TB := tb3 64 rfl rfl
theorem ok_Fa_isMay : gOK y_Fa_isMay b_Fa_isMay 5 (some FieldType.boolean) 4 := ⟨tb3 70 rfl rfl, tb1 9 rfl rfl, ⟨by decide +kernel, by decide +kernel⟩, by decide +kernel⟩
theorem im_Fa_isMay : Cond.instanceMethod y_Fa_isMay ∈ TB := tb3 69 rfl rfl
theorem se_Fa_isMay : Cond.selects "ProofGate$Fact" y_Fa_isMay y_Fa_isMay ∈ TB := sp3 (q := (y_Fa_isMay, 6)) 8 rfl
theorem ok_Ga_fuse : gOK y_Ga_fuse b_Ga_fuse 2 (some FieldType.boolean) 1 := ⟨tb3 74 rfl rfl, tb1 1 rfl rfl, ⟨by decide +kernel, by decide +kernel⟩, by decide +kernel⟩
theorem im_Ga_fuse : Cond.instanceMethod y_Ga_fuse ∈ TB := tb3 72 rfl rfl
theorem se_Ga_fuse : Cond.selects "ProofGate" y_Ga_fuse y_Ga_fuse ∈ TB := tb3 73 rfl rfl
theorem ok_Fu_light : gOK y_Fu_light b_Fu_light 2 none 1 := ⟨tb3 78 rfl rfl, tb1 11 rfl rfl, ⟨by decide +kernel, by decide +kernel⟩, by decide +kernel⟩
theorem im_Fu_light : Cond.instanceMethod y_Fu_light ∈ TB := tb3 77 rfl rfl
theorem se_Fu_light : Cond.selects "ProofGate$Fuse" y_Fu_light y_Fu_light ∈ TB := sp3 (q := (y_Fu_light, 1)) 9 rfl
theorem ok_Ga_owner : gOK y_Ga_owner b_Ga_owner 2 (some FieldType.int) 1 := ⟨tb3 82 rfl rfl, tb1 1 rfl rfl, ⟨by decide +kernel, by decide +kernel⟩, by decide +kernel⟩
theorem im_Ga_owner : Cond.instanceMethod y_Ga_owner ∈ TB := tb3 80 rfl rfl
theorem se_Ga_owner : Cond.selects "ProofGate" y_Ga_owner y_Ga_owner ∈ TB := tb3 81 rfl rfl
theorem ok_Ga_credentials : gOK y_Ga_credentials b_Ga_credentials 1 (some FieldType.int) 0 := ⟨tb3 86 rfl rfl, tb1 1 rfl rfl, ⟨by decide +kernel, by decide +kernel⟩, by decide +kernel⟩
theorem im_Ga_credentials : Cond.instanceMethod y_Ga_credentials ∈ TB := tb3 84 rfl rfl
theorem se_Ga_credentials : Cond.selects "ProofGate" y_Ga_credentials y_Ga_credentials ∈ TB := tb3 85 rfl rfl
theorem ok_Ga_valid : gOK y_Ga_valid b_Ga_valid 2 (some FieldType.boolean) 1 := ⟨tb3 91 rfl rfl, tb1 1 rfl rfl, ⟨by decide +kernel, by decide +kernel⟩, by decide +kernel⟩
theorem im_Ga_valid : Cond.instanceMethod y_Ga_valid ∈ TB := tb3 89 rfl rfl
theorem se_Ga_valid : Cond.selects "ProofGate" y_Ga_valid y_Ga_valid ∈ TB := tb3 90 rfl rfl
theorem ok_Ga_grants : gOK y_Ga_grants b_Ga_grants 1 (some FieldType.int) 0 := ⟨tb3 96 rfl rfl, tb1 1 rfl rfl, ⟨by decide +kernel, by decide +kernel⟩, by decide +kernel⟩
theorem im_Ga_grants : Cond.instanceMethod y_Ga_grants ∈ TB := tb3 94 rfl rfl
theorem se_Ga_grants : Cond.selects "ProofGate" y_Ga_grants y_Ga_grants ∈ TB := tb3 95 rfl rfl
theorem ok_Lg_count : gOK y_Lg_count b_Lg_count 1 (some FieldType.int) 0 := ⟨tb3 100 rfl rfl, tb1 10 rfl rfl, ⟨by decide +kernel, by decide +kernel⟩, by decide +kernel⟩
theorem im_Lg_count : Cond.instanceMethod y_Lg_count ∈ TB := tb3 99 rfl rfl
theorem se_Lg_count : Cond.selects "ProofGate$AuditLog" y_Lg_count y_Lg_count ∈ TB := sp3 (q := (y_Lg_count, 2)) 10 rfl
theorem ok_Ga_chain : gOK y_Ga_chain b_Ga_chain 1 (some FieldType.int) 0 := ⟨tb3 104 rfl rfl, tb1 1 rfl rfl, ⟨by decide +kernel, by decide +kernel⟩, by decide +kernel⟩
theorem im_Ga_chain : Cond.instanceMethod y_Ga_chain ∈ TB := tb3 102 rfl rfl
theorem se_Ga_chain : Cond.selects "ProofGate" y_Ga_chain y_Ga_chain ∈ TB := tb3 103 rfl rfl
theorem ok_Lg_link : gOK y_Lg_link b_Lg_link 1 (some FieldType.int) 0 := ⟨tb3 108 rfl rfl, tb1 10 rfl rfl, ⟨by decide +kernel, by decide +kernel⟩, by decide +kernel⟩
theorem im_Lg_link : Cond.instanceMethod y_Lg_link ∈ TB := tb3 107 rfl rfl
theorem se_Lg_link : Cond.selects "ProofGate$AuditLog" y_Lg_link y_Lg_link ∈ TB := sp3 (q := (y_Lg_link, 2)) 11 rfl
theorem ok_Lw_cell : gOK y_Lw_cell b_Lw_cell 2 (some FieldType.int) 2 := ⟨tb3 111 rfl rfl, tb1 0 rfl rfl, ⟨by decide +kernel, by decide +kernel⟩, by decide +kernel⟩
theorem st_Lw_cell : Cond.static y_Lw_cell ∈ TB := tb3 110 rfl rfl
theorem ok_Ga_submit : gOK y_Ga_submit b_Ga_submit 7 (some FieldType.int) 5 := ⟨tb3 121 rfl rfl, tb1 1 rfl rfl, ⟨by decide +kernel, by decide +kernel⟩, by decide +kernel⟩
theorem im_Ga_submit : Cond.instanceMethod y_Ga_submit ∈ TB := tb3 119 rfl rfl
theorem se_Ga_submit : Cond.selects "ProofGate" y_Ga_submit y_Ga_submit ∈ TB := tb3 120 rfl rfl
theorem ok_Cr_isWellFormed : gOK y_Cr_isWellFormed b_Cr_isWellFormed 3 (some FieldType.boolean) 0 := ⟨tb3 125 rfl rfl, tb1 14 rfl rfl, ⟨by decide +kernel, by decide +kernel⟩, by decide +kernel⟩
theorem im_Cr_isWellFormed : Cond.instanceMethod y_Cr_isWellFormed ∈ TB := tb3 124 rfl rfl
theorem se_Cr_isWellFormed : Cond.selects "ProofGate$Credential" y_Cr_isWellFormed y_Cr_isWellFormed ∈ TB := sp3 (q := (y_Cr_isWellFormed, 6)) 12 rfl
theorem ok_Ga_writeRecord : gOK y_Ga_writeRecord b_Ga_writeRecord 1 none 0 := ⟨tb3 231 rfl rfl, tb1 1 rfl rfl, ⟨by decide +kernel, by decide +kernel⟩, by decide +kernel⟩
theorem im_Ga_writeRecord : Cond.instanceMethod y_Ga_writeRecord ∈ TB := tb3 230 rfl rfl
theorem se_Ga_writeRecord : Cond.selects "ProofGate" y_Ga_writeRecord y_Ga_writeRecord ∈ TB := sp3 (q := (y_Ga_writeRecord, 10)) 14 rfl
theorem ok_Fu_burnsThrough : gOK y_Fu_burnsThrough b_Fu_burnsThrough 1 (some FieldType.boolean) 0 := ⟨tb3 235 rfl rfl, tb1 11 rfl rfl, ⟨by decide +kernel, by decide +kernel⟩, by decide +kernel⟩
theorem im_Fu_burnsThrough : Cond.instanceMethod y_Fu_burnsThrough ∈ TB := tb3 234 rfl rfl
theorem se_Fu_burnsThrough : Cond.selects "ProofGate$Fuse" y_Fu_burnsThrough y_Fu_burnsThrough ∈ TB := sp3 (q := (y_Fu_burnsThrough, 1)) 15 rfl
theorem ok_Cs_take : gOK y_Cs_take b_Cs_take 2 (some FieldType.int) 1 := ⟨tb4 0 rfl rfl, tb1 2 rfl rfl, ⟨by decide +kernel, by decide +kernel⟩, by decide +kernel⟩
theorem im_Cs_take : Cond.instanceMethod y_Cs_take ∈ TB := tb3 239 rfl rfl
theorem se_Cs_take : Cond.selects "ProofGate$Credentials" y_Cs_take y_Cs_take ∈ TB := sp4 (q := (y_Cs_take, 2)) 0 rfl
theorem ok_AL_add : gOK y_AL_add b_AL_add 2 (some FieldType.boolean) 1 := ⟨tb4 4 rfl rfl, tb1 5 rfl rfl, ⟨by decide +kernel, by decide +kernel⟩, by decide +kernel⟩
theorem im_AL_add : Cond.instanceMethod y_AL_add ∈ TB := tb4 2 rfl rfl
theorem se_AL_add : Cond.selects "java/util/ArrayList" y_AL_add y_AL_add ∈ TB := tb4 3 rfl rfl
theorem ok_AL_add2 : gOK y_AL_add2 b_AL_add2 4 none 3 := ⟨tb4 8 rfl rfl, tb1 5 rfl rfl, ⟨by decide +kernel, by decide +kernel⟩, by decide +kernel⟩
theorem im_AL_add2 : Cond.instanceMethod y_AL_add2 ∈ TB := tb4 7 rfl rfl
theorem se_AL_add2 : Cond.selects "java/util/ArrayList" y_AL_add2 y_AL_add2 ∈ TB := sp4 (q := (y_AL_add2, 3)) 1 rfl
theorem ok_AL_grow : gOK y_AL_grow b_AL_grow 1 (some (FieldType.array (FieldType.object "java/lang/Object"))) 0 := ⟨tb4 12 rfl rfl, tb1 5 rfl rfl, ⟨by decide +kernel, by decide +kernel⟩, by decide +kernel⟩
theorem im_AL_grow : Cond.instanceMethod y_AL_grow ∈ TB := tb4 11 rfl rfl
theorem se_AL_grow : Cond.selects "java/util/ArrayList" y_AL_grow y_AL_grow ∈ TB := sp4 (q := (y_AL_grow, 3)) 2 rfl
theorem ok_AL_grow2 : gOK y_AL_grow2 b_AL_grow2 4 (some (FieldType.array (FieldType.object "java/lang/Object"))) 1 := ⟨tb4 16 rfl rfl, tb1 5 rfl rfl, ⟨by decide +kernel, by decide +kernel⟩, by decide +kernel⟩
theorem im_AL_grow2 : Cond.instanceMethod y_AL_grow2 ∈ TB := tb4 15 rfl rfl
theorem se_AL_grow2 : Cond.selects "java/util/ArrayList" y_AL_grow2 y_AL_grow2 ∈ TB := sp4 (q := (y_AL_grow2, 3)) 3 rfl
theorem ok_As_newLength : gOK y_As_newLength b_As_newLength 4 (some FieldType.int) 3 := ⟨tb4 19 rfl rfl, tb1 21 rfl rfl, ⟨by decide +kernel, by decide +kernel⟩, by decide +kernel⟩
theorem st_As_newLength : Cond.static y_As_newLength ∈ TB := tb4 18 rfl rfl
theorem ok_Ma_max : gOK y_Ma_max b_Ma_max 2 (some FieldType.int) 2 := ⟨tb4 22 rfl rfl, tb1 22 rfl rfl, ⟨by decide +kernel, by decide +kernel⟩, by decide +kernel⟩
theorem st_Ma_max : Cond.static y_Ma_max ∈ TB := tb4 21 rfl rfl
theorem ok_As_hugeLength : gOK y_As_hugeLength b_As_hugeLength 3 (some FieldType.int) 2 := ⟨tb4 26 rfl rfl, tb1 21 rfl rfl, ⟨by decide +kernel, by decide +kernel⟩, by decide +kernel⟩
theorem st_As_hugeLength : Cond.static y_As_hugeLength ∈ TB := tb4 25 rfl rfl
theorem ok_Ar_copyOf : gOK y_Ar_copyOf b_Ar_copyOf 2 (some (FieldType.array (FieldType.object "java/lang/Object"))) 2 := ⟨tb4 29 rfl rfl, tb1 12 rfl rfl, ⟨by decide +kernel, by decide +kernel⟩, by decide +kernel⟩
theorem st_Ar_copyOf : Cond.static y_Ar_copyOf ∈ TB := tb4 28 rfl rfl
theorem ok_Ar_copyOf2 : gOK y_Ar_copyOf2 b_Ar_copyOf2 4 (some (FieldType.array (FieldType.object "java/lang/Object"))) 3 := ⟨tb4 51 rfl rfl, tb1 12 rfl rfl, ⟨by decide +kernel, by decide +kernel⟩, by decide +kernel⟩
theorem st_Ar_copyOf2 : Cond.static y_Ar_copyOf2 ∈ TB := tb4 50 rfl rfl
theorem ok_Ga_revoke : gOK y_Ga_revoke b_Ga_revoke 4 (some FieldType.boolean) 2 := ⟨tb4 66 rfl rfl, tb1 1 rfl rfl, ⟨by decide +kernel, by decide +kernel⟩, by decide +kernel⟩
theorem im_Ga_revoke : Cond.instanceMethod y_Ga_revoke ∈ TB := tb4 64 rfl rfl
theorem se_Ga_revoke : Cond.selects "ProofGate" y_Ga_revoke y_Ga_revoke ∈ TB := tb4 65 rfl rfl
theorem ok_Ga_request : gOK y_Ga_request b_Ga_request 7 (some FieldType.int) 5 := ⟨tb4 91 rfl rfl, tb1 1 rfl rfl, ⟨by decide +kernel, by decide +kernel⟩, by decide +kernel⟩
theorem im_Ga_request : Cond.instanceMethod y_Ga_request ∈ TB := tb4 89 rfl rfl
theorem se_Ga_request : Cond.selects "ProofGate" y_Ga_request y_Ga_request ∈ TB := tb4 90 rfl rfl
theorem ok_Ga_useUpDraft : gOK y_Ga_useUpDraft b_Ga_useUpDraft 6 (some FieldType.int) 3 := ⟨tb4 97 rfl rfl, tb1 1 rfl rfl, ⟨by decide +kernel, by decide +kernel⟩, by decide +kernel⟩
theorem im_Ga_useUpDraft : Cond.instanceMethod y_Ga_useUpDraft ∈ TB := tb4 96 rfl rfl
theorem se_Ga_useUpDraft : Cond.selects "ProofGate" y_Ga_useUpDraft y_Ga_useUpDraft ∈ TB := sp4 (q := (y_Ga_useUpDraft, 10)) 4 rfl
theorem ok_Lg_addGrant : gOK y_Lg_addGrant b_Lg_addGrant 5 none 4 := ⟨tb4 102 rfl rfl, tb1 10 rfl rfl, ⟨by decide +kernel, by decide +kernel⟩, by decide +kernel⟩
theorem im_Lg_addGrant : Cond.instanceMethod y_Lg_addGrant ∈ TB := tb4 101 rfl rfl
theorem se_Lg_addGrant : Cond.selects "ProofGate$AuditLog" y_Lg_addGrant y_Lg_addGrant ∈ TB := sp4 (q := (y_Lg_addGrant, 2)) 5 rfl
theorem ok_Ga_carryOut : gOK y_Ga_carryOut b_Ga_carryOut 7 (some FieldType.int) 4 := ⟨tb4 106 rfl rfl, tb1 1 rfl rfl, ⟨by decide +kernel, by decide +kernel⟩, by decide +kernel⟩
theorem im_Ga_carryOut : Cond.instanceMethod y_Ga_carryOut ∈ TB := tb4 105 rfl rfl
theorem se_Ga_carryOut : Cond.selects "ProofGate" y_Ga_carryOut y_Ga_carryOut ∈ TB := sp4 (q := (y_Ga_carryOut, 10)) 6 rfl
theorem ok_Mo_init : gOK y_Mo_init b_Mo_init 2 none 1 := ⟨tb4 111 rfl rfl, tb1 13 rfl rfl, ⟨by decide +kernel, by decide +kernel⟩, by decide +kernel⟩
theorem im_Mo_init : Cond.instanceMethod y_Mo_init ∈ TB := tb4 110 rfl rfl
theorem ok_Mo_thrown : gOK y_Mo_thrown b_Mo_thrown 1 (some FieldType.int) 0 := ⟨tb4 232 rfl rfl, tb1 13 rfl rfl, ⟨by decide +kernel, by decide +kernel⟩, by decide +kernel⟩
theorem im_Mo_thrown : Cond.instanceMethod y_Mo_thrown ∈ TB := tb4 230 rfl rfl
theorem se_Mo_thrown : Cond.selects "ProofGateModel" y_Mo_thrown y_Mo_thrown ∈ TB := tb4 231 rfl rfl
theorem ok_Mo_fuse : gOK y_Mo_fuse b_Mo_fuse 2 (some FieldType.boolean) 1 := ⟨tb4 236 rfl rfl, tb1 13 rfl rfl, ⟨by decide +kernel, by decide +kernel⟩, by decide +kernel⟩
theorem im_Mo_fuse : Cond.instanceMethod y_Mo_fuse ∈ TB := tb4 234 rfl rfl
theorem se_Mo_fuse : Cond.selects "ProofGateModel" y_Mo_fuse y_Mo_fuse ∈ TB := tb4 235 rfl rfl
theorem ok_Mo_in : gOK y_Mo_in b_Mo_in 3 (some FieldType.boolean) 3 := ⟨tb4 239 rfl rfl, tb1 13 rfl rfl, ⟨by decide +kernel, by decide +kernel⟩, by decide +kernel⟩
theorem st_Mo_in : Cond.static y_Mo_in ∈ TB := tb4 238 rfl rfl
theorem ok_Mo_seal : gOK y_Mo_seal b_Mo_seal 10 (some FieldType.int) 8 := ⟨tb5 3 rfl rfl, tb1 13 rfl rfl, ⟨by decide +kernel, by decide +kernel⟩, by decide +kernel⟩
theorem im_Mo_seal : Cond.instanceMethod y_Mo_seal ∈ TB := tb5 1 rfl rfl
theorem se_Mo_seal : Cond.selects "ProofGateModel" y_Mo_seal y_Mo_seal ∈ TB := tb5 2 rfl rfl
theorem ok_Mo_mix : gOK y_Mo_mix b_Mo_mix 3 (some FieldType.int) 2 := ⟨tb5 6 rfl rfl, tb1 13 rfl rfl, ⟨by decide +kernel, by decide +kernel⟩, by decide +kernel⟩
theorem st_Mo_mix : Cond.static y_Mo_mix ∈ TB := tb5 5 rfl rfl
theorem ok_Mo_set : gOK y_Mo_set b_Mo_set 5 none 4 := ⟨tb5 12 rfl rfl, tb1 13 rfl rfl, ⟨by decide +kernel, by decide +kernel⟩, by decide +kernel⟩
theorem im_Mo_set : Cond.instanceMethod y_Mo_set ∈ TB := tb5 10 rfl rfl
theorem se_Mo_set : Cond.selects "ProofGateModel" y_Mo_set y_Mo_set ∈ TB := tb5 11 rfl rfl
theorem ok_Mo_submit : gOK y_Mo_submit b_Mo_submit 7 (some FieldType.int) 5 := ⟨tb5 16 rfl rfl, tb1 13 rfl rfl, ⟨by decide +kernel, by decide +kernel⟩, by decide +kernel⟩
theorem im_Mo_submit : Cond.instanceMethod y_Mo_submit ∈ TB := tb5 14 rfl rfl
theorem se_Mo_submit : Cond.selects "ProofGateModel" y_Mo_submit y_Mo_submit ∈ TB := tb5 15 rfl rfl
theorem ok_Mo_isPerson : gOK y_Mo_isPerson b_Mo_isPerson 1 (some FieldType.boolean) 1 := ⟨tb5 19 rfl rfl, tb1 13 rfl rfl, ⟨by decide +kernel, by decide +kernel⟩, by decide +kernel⟩
theorem st_Mo_isPerson : Cond.static y_Mo_isPerson ∈ TB := tb5 18 rfl rfl
theorem ok_Mo_isFit : gOK y_Mo_isFit b_Mo_isFit 2 (some FieldType.boolean) 1 := ⟨tb5 23 rfl rfl, tb1 13 rfl rfl, ⟨by decide +kernel, by decide +kernel⟩, by decide +kernel⟩
theorem im_Mo_isFit : Cond.instanceMethod y_Mo_isFit ∈ TB := tb5 22 rfl rfl
theorem se_Mo_isFit : Cond.selects "ProofGateModel" y_Mo_isFit y_Mo_isFit ∈ TB := sp4 (q := (y_Mo_isFit, 38)) 7 rfl
theorem ok_Mo_isRight : gOK y_Mo_isRight b_Mo_isRight 1 (some FieldType.boolean) 1 := ⟨tb5 26 rfl rfl, tb1 13 rfl rfl, ⟨by decide +kernel, by decide +kernel⟩, by decide +kernel⟩
theorem st_Mo_isRight : Cond.static y_Mo_isRight ∈ TB := tb5 25 rfl rfl
theorem ok_Mo_fails : gOK y_Mo_fails b_Mo_fails 2 (some FieldType.int) 1 := ⟨tb5 30 rfl rfl, tb1 13 rfl rfl, ⟨by decide +kernel, by decide +kernel⟩, by decide +kernel⟩
theorem im_Mo_fails : Cond.instanceMethod y_Mo_fails ∈ TB := tb5 29 rfl rfl
theorem se_Mo_fails : Cond.selects "ProofGateModel" y_Mo_fails y_Mo_fails ∈ TB := sp4 (q := (y_Mo_fails, 38)) 8 rfl
theorem ok_Mo_recorded : gOK y_Mo_recorded b_Mo_recorded 1 (some FieldType.boolean) 0 := ⟨tb5 35 rfl rfl, tb1 13 rfl rfl, ⟨by decide +kernel, by decide +kernel⟩, by decide +kernel⟩
theorem im_Mo_recorded : Cond.instanceMethod y_Mo_recorded ∈ TB := tb5 34 rfl rfl
theorem se_Mo_recorded : Cond.selects "ProofGateModel" y_Mo_recorded y_Mo_recorded ∈ TB := sp4 (q := (y_Mo_recorded, 38)) 9 rfl
theorem ok_Mo_revoke : gOK y_Mo_revoke b_Mo_revoke 3 (some FieldType.boolean) 2 := ⟨tb5 39 rfl rfl, tb1 13 rfl rfl, ⟨by decide +kernel, by decide +kernel⟩, by decide +kernel⟩
theorem im_Mo_revoke : Cond.instanceMethod y_Mo_revoke ∈ TB := tb5 37 rfl rfl
theorem se_Mo_revoke : Cond.selects "ProofGateModel" y_Mo_revoke y_Mo_revoke ∈ TB := tb5 38 rfl rfl
theorem ok_Mo_step : gOK y_Mo_step b_Mo_step 4 (some FieldType.int) 3 := ⟨tb5 43 rfl rfl, tb1 13 rfl rfl, ⟨by decide +kernel, by decide +kernel⟩, by decide +kernel⟩
theorem im_Mo_step : Cond.instanceMethod y_Mo_step ∈ TB := tb5 41 rfl rfl
theorem se_Mo_step : Cond.selects "ProofGateModel" y_Mo_step y_Mo_step ∈ TB := tb5 42 rfl rfl
theorem ok_Mo_clear : gOK y_Mo_clear b_Mo_clear 2 (some FieldType.int) 0 := ⟨tb5 47 rfl rfl, tb1 13 rfl rfl, ⟨by decide +kernel, by decide +kernel⟩, by decide +kernel⟩
theorem im_Mo_clear : Cond.instanceMethod y_Mo_clear ∈ TB := tb5 45 rfl rfl
theorem se_Mo_clear : Cond.selects "ProofGateModel" y_Mo_clear y_Mo_clear ∈ TB := tb5 46 rfl rfl
theorem ok_Mo_steps : gOK y_Mo_steps b_Mo_steps 1 (some FieldType.int) 0 := ⟨tb5 51 rfl rfl, tb1 13 rfl rfl, ⟨by decide +kernel, by decide +kernel⟩, by decide +kernel⟩
theorem im_Mo_steps : Cond.instanceMethod y_Mo_steps ∈ TB := tb5 49 rfl rfl
theorem se_Mo_steps : Cond.selects "ProofGateModel" y_Mo_steps y_Mo_steps ∈ TB := tb5 50 rfl rfl
theorem ok_Mo_stepAt : gOK y_Mo_stepAt b_Mo_stepAt 3 (some FieldType.int) 2 := ⟨tb5 55 rfl rfl, tb1 13 rfl rfl, ⟨by decide +kernel, by decide +kernel⟩, by decide +kernel⟩
theorem im_Mo_stepAt : Cond.instanceMethod y_Mo_stepAt ∈ TB := tb5 53 rfl rfl
theorem se_Mo_stepAt : Cond.selects "ProofGateModel" y_Mo_stepAt y_Mo_stepAt ∈ TB := tb5 54 rfl rfl
theorem ok_Mo_prove : gOK y_Mo_prove b_Mo_prove 6 (some FieldType.int) 3 := ⟨tb5 59 rfl rfl, tb1 13 rfl rfl, ⟨by decide +kernel, by decide +kernel⟩, by decide +kernel⟩
theorem im_Mo_prove : Cond.instanceMethod y_Mo_prove ∈ TB := tb5 57 rfl rfl
theorem se_Mo_prove : Cond.selects "ProofGateModel" y_Mo_prove y_Mo_prove ∈ TB := tb5 58 rfl rfl
theorem ok_Mo_isGoal : gOK y_Mo_isGoal b_Mo_isGoal 4 (some FieldType.boolean) 3 := ⟨tb5 63 rfl rfl, tb1 13 rfl rfl, ⟨by decide +kernel, by decide +kernel⟩, by decide +kernel⟩
theorem im_Mo_isGoal : Cond.instanceMethod y_Mo_isGoal ∈ TB := tb5 62 rfl rfl
theorem se_Mo_isGoal : Cond.selects "ProofGateModel" y_Mo_isGoal y_Mo_isGoal ∈ TB := sp4 (q := (y_Mo_isGoal, 38)) 10 rfl
theorem ok_Mo_sayer : gOK y_Mo_sayer b_Mo_sayer 3 (some FieldType.int) 2 := ⟨tb5 67 rfl rfl, tb1 13 rfl rfl, ⟨by decide +kernel, by decide +kernel⟩, by decide +kernel⟩
theorem im_Mo_sayer : Cond.instanceMethod y_Mo_sayer ∈ TB := tb5 66 rfl rfl
theorem se_Mo_sayer : Cond.selects "ProofGateModel" y_Mo_sayer y_Mo_sayer ∈ TB := sp4 (q := (y_Mo_sayer, 38)) 11 rfl
theorem ok_Mo_may : gOK y_Mo_may b_Mo_may 3 (some FieldType.int) 3 := ⟨tb5 70 rfl rfl, tb1 13 rfl rfl, ⟨by decide +kernel, by decide +kernel⟩, by decide +kernel⟩
theorem st_Mo_may : Cond.static y_Mo_may ∈ TB := tb5 69 rfl rfl
theorem ok_Mo_proof : gOK y_Mo_proof b_Mo_proof 7 (some FieldType.int) 2 := ⟨tb5 74 rfl rfl, tb1 13 rfl rfl, ⟨by decide +kernel, by decide +kernel⟩, by decide +kernel⟩
theorem im_Mo_proof : Cond.instanceMethod y_Mo_proof ∈ TB := tb5 73 rfl rfl
theorem se_Mo_proof : Cond.selects "ProofGateModel" y_Mo_proof y_Mo_proof ∈ TB := sp4 (q := (y_Mo_proof, 38)) 12 rfl
theorem ok_Mo_said : gOK y_Mo_said b_Mo_said 3 none 0 := ⟨tb5 78 rfl rfl, tb1 13 rfl rfl, ⟨by decide +kernel, by decide +kernel⟩, by decide +kernel⟩
theorem im_Mo_said : Cond.instanceMethod y_Mo_said ∈ TB := tb5 77 rfl rfl
theorem se_Mo_said : Cond.selects "ProofGateModel" y_Mo_said y_Mo_said ∈ TB := sp4 (q := (y_Mo_said, 38)) 13 rfl
theorem ok_Mo_holds : gOK y_Mo_holds b_Mo_holds 2 (some FieldType.boolean) 1 := ⟨tb5 82 rfl rfl, tb1 13 rfl rfl, ⟨by decide +kernel, by decide +kernel⟩, by decide +kernel⟩
theorem im_Mo_holds : Cond.instanceMethod y_Mo_holds ∈ TB := tb5 81 rfl rfl
theorem se_Mo_holds : Cond.selects "ProofGateModel" y_Mo_holds y_Mo_holds ∈ TB := sp4 (q := (y_Mo_holds, 38)) 14 rfl
theorem ok_Mo_speaks : gOK y_Mo_speaks b_Mo_speaks 2 (some FieldType.int) 2 := ⟨tb5 85 rfl rfl, tb1 13 rfl rfl, ⟨by decide +kernel, by decide +kernel⟩, by decide +kernel⟩
theorem st_Mo_speaks : Cond.static y_Mo_speaks ∈ TB := tb5 84 rfl rfl
theorem ok_Mo_trusts : gOK y_Mo_trusts b_Mo_trusts 4 (some FieldType.int) 4 := ⟨tb5 88 rfl rfl, tb1 13 rfl rfl, ⟨by decide +kernel, by decide +kernel⟩, by decide +kernel⟩
theorem st_Mo_trusts : Cond.static y_Mo_trusts ∈ TB := tb5 87 rfl rfl
theorem ok_Mo_finds : gOK y_Mo_finds b_Mo_finds 5 (some FieldType.boolean) 4 := ⟨tb5 92 rfl rfl, tb1 13 rfl rfl, ⟨by decide +kernel, by decide +kernel⟩, by decide +kernel⟩
theorem im_Mo_finds : Cond.instanceMethod y_Mo_finds ∈ TB := tb5 91 rfl rfl
theorem se_Mo_finds : Cond.selects "ProofGateModel" y_Mo_finds y_Mo_finds ∈ TB := sp4 (q := (y_Mo_finds, 38)) 15 rfl
theorem ok_Mo_goesOn : gOK y_Mo_goesOn b_Mo_goesOn 8 (some FieldType.boolean) 0 := ⟨tb5 96 rfl rfl, tb1 13 rfl rfl, ⟨by decide +kernel, by decide +kernel⟩, by decide +kernel⟩
theorem im_Mo_goesOn : Cond.instanceMethod y_Mo_goesOn ∈ TB := tb5 95 rfl rfl
theorem se_Mo_goesOn : Cond.selects "ProofGateModel" y_Mo_goesOn y_Mo_goesOn ∈ TB := sp5 (q := (y_Mo_goesOn, 38)) 0 rfl
theorem ok_Mo_newMay : gOK y_Mo_newMay b_Mo_newMay 7 (some FieldType.boolean) 3 := ⟨tb5 100 rfl rfl, tb1 13 rfl rfl, ⟨by decide +kernel, by decide +kernel⟩, by decide +kernel⟩
theorem im_Mo_newMay : Cond.instanceMethod y_Mo_newMay ∈ TB := tb5 99 rfl rfl
theorem se_Mo_newMay : Cond.selects "ProofGateModel" y_Mo_newMay y_Mo_newMay ∈ TB := sp5 (q := (y_Mo_newMay, 38)) 1 rfl
theorem ok_Mo_had : gOK y_Mo_had b_Mo_had 2 (some FieldType.boolean) 1 := ⟨tb5 104 rfl rfl, tb1 13 rfl rfl, ⟨by decide +kernel, by decide +kernel⟩, by decide +kernel⟩
theorem im_Mo_had : Cond.instanceMethod y_Mo_had ∈ TB := tb5 103 rfl rfl
theorem se_Mo_had : Cond.selects "ProofGateModel" y_Mo_had y_Mo_had ∈ TB := sp5 (q := (y_Mo_had, 38)) 2 rfl
theorem ok_Mo_newTrust : gOK y_Mo_newTrust b_Mo_newTrust 10 (some FieldType.boolean) 4 := ⟨tb5 108 rfl rfl, tb1 13 rfl rfl, ⟨by decide +kernel, by decide +kernel⟩, by decide +kernel⟩
theorem im_Mo_newTrust : Cond.instanceMethod y_Mo_newTrust ∈ TB := tb5 107 rfl rfl
theorem se_Mo_newTrust : Cond.selects "ProofGateModel" y_Mo_newTrust y_Mo_newTrust ∈ TB := sp5 (q := (y_Mo_newTrust, 38)) 3 rfl
theorem ok_Mo_newVoice : gOK y_Mo_newVoice b_Mo_newVoice 5 (some FieldType.boolean) 2 := ⟨tb5 112 rfl rfl, tb1 13 rfl rfl, ⟨by decide +kernel, by decide +kernel⟩, by decide +kernel⟩
theorem im_Mo_newVoice : Cond.instanceMethod y_Mo_newVoice ∈ TB := tb5 111 rfl rfl
theorem se_Mo_newVoice : Cond.selects "ProofGateModel" y_Mo_newVoice y_Mo_newVoice ∈ TB := sp5 (q := (y_Mo_newVoice, 38)) 4 rfl
theorem ok_Mo_needed : gOK y_Mo_needed b_Mo_needed 2 (some FieldType.int) 1 := ⟨tb5 116 rfl rfl, tb1 13 rfl rfl, ⟨by decide +kernel, by decide +kernel⟩, by decide +kernel⟩
theorem im_Mo_needed : Cond.instanceMethod y_Mo_needed ∈ TB := tb5 115 rfl rfl
theorem se_Mo_needed : Cond.selects "ProofGateModel" y_Mo_needed y_Mo_needed ∈ TB := sp5 (q := (y_Mo_needed, 38)) 5 rfl
theorem ok_Mo_note : gOK y_Mo_note b_Mo_note 2 none 1 := ⟨tb5 120 rfl rfl, tb1 13 rfl rfl, ⟨by decide +kernel, by decide +kernel⟩, by decide +kernel⟩
theorem im_Mo_note : Cond.instanceMethod y_Mo_note ∈ TB := tb5 119 rfl rfl
theorem se_Mo_note : Cond.selects "ProofGateModel" y_Mo_note y_Mo_note ∈ TB := sp5 (q := (y_Mo_note, 38)) 6 rfl
theorem ok_Mo_check : gOK y_Mo_check b_Mo_check 4 (some FieldType.boolean) 3 := ⟨tb5 124 rfl rfl, tb1 13 rfl rfl, ⟨by decide +kernel, by decide +kernel⟩, by decide +kernel⟩
theorem im_Mo_check : Cond.instanceMethod y_Mo_check ∈ TB := tb5 122 rfl rfl
theorem se_Mo_check : Cond.selects "ProofGateModel" y_Mo_check y_Mo_check ∈ TB := tb5 123 rfl rfl
theorem ok_Mo_proves : gOK y_Mo_proves b_Mo_proves 7 (some FieldType.boolean) 4 := ⟨tb5 128 rfl rfl, tb1 13 rfl rfl, ⟨by decide +kernel, by decide +kernel⟩, by decide +kernel⟩
theorem im_Mo_proves : Cond.instanceMethod y_Mo_proves ∈ TB := tb5 127 rfl rfl
theorem se_Mo_proves : Cond.selects "ProofGateModel" y_Mo_proves y_Mo_proves ∈ TB := sp5 (q := (y_Mo_proves, 38)) 7 rfl
theorem ok_Mo_proved : gOK y_Mo_proved b_Mo_proved 12 (some FieldType.int) 1 := ⟨tb5 132 rfl rfl, tb1 13 rfl rfl, ⟨by decide +kernel, by decide +kernel⟩, by decide +kernel⟩
theorem im_Mo_proved : Cond.instanceMethod y_Mo_proved ∈ TB := tb5 131 rfl rfl
theorem se_Mo_proved : Cond.selects "ProofGateModel" y_Mo_proved y_Mo_proved ∈ TB := sp5 (q := (y_Mo_proved, 38)) 8 rfl
theorem ok_Mo_spoken : gOK y_Mo_spoken b_Mo_spoken 2 (some FieldType.int) 1 := ⟨tb5 136 rfl rfl, tb1 13 rfl rfl, ⟨by decide +kernel, by decide +kernel⟩, by decide +kernel⟩
theorem im_Mo_spoken : Cond.instanceMethod y_Mo_spoken ∈ TB := tb5 135 rfl rfl
theorem se_Mo_spoken : Cond.selects "ProofGateModel" y_Mo_spoken y_Mo_spoken ∈ TB := sp5 (q := (y_Mo_spoken, 38)) 9 rfl
theorem ok_Mo_fact : gOK y_Mo_fact b_Mo_fact 6 (some FieldType.int) 6 := ⟨tb5 139 rfl rfl, tb1 13 rfl rfl, ⟨by decide +kernel, by decide +kernel⟩, by decide +kernel⟩
theorem st_Mo_fact : Cond.static y_Mo_fact ∈ TB := tb5 138 rfl rfl
theorem ok_Mo_stepFact : gOK y_Mo_stepFact b_Mo_stepFact 3 (some FieldType.int) 2 := ⟨tb5 143 rfl rfl, tb1 13 rfl rfl, ⟨by decide +kernel, by decide +kernel⟩, by decide +kernel⟩
theorem im_Mo_stepFact : Cond.instanceMethod y_Mo_stepFact ∈ TB := tb5 142 rfl rfl
theorem se_Mo_stepFact : Cond.selects "ProofGateModel" y_Mo_stepFact y_Mo_stepFact ∈ TB := sp5 (q := (y_Mo_stepFact, 38)) 10 rfl
theorem ok_Mo_item : gOK y_Mo_item b_Mo_item 2 (some FieldType.int) 2 := ⟨tb5 146 rfl rfl, tb1 13 rfl rfl, ⟨by decide +kernel, by decide +kernel⟩, by decide +kernel⟩
theorem st_Mo_item : Cond.static y_Mo_item ∈ TB := tb5 145 rfl rfl
theorem ok_Mo_request : gOK y_Mo_request b_Mo_request 8 (some FieldType.int) 5 := ⟨tb5 150 rfl rfl, tb1 13 rfl rfl, ⟨by decide +kernel, by decide +kernel⟩, by decide +kernel⟩
theorem im_Mo_request : Cond.instanceMethod y_Mo_request ∈ TB := tb5 148 rfl rfl
theorem se_Mo_request : Cond.selects "ProofGateModel" y_Mo_request y_Mo_request ∈ TB := tb5 149 rfl rfl
theorem ok_Mo_done : gOK y_Mo_done b_Mo_done 6 (some FieldType.int) 4 := ⟨tb5 154 rfl rfl, tb1 13 rfl rfl, ⟨by decide +kernel, by decide +kernel⟩, by decide +kernel⟩
theorem im_Mo_done : Cond.instanceMethod y_Mo_done ∈ TB := tb5 153 rfl rfl
theorem se_Mo_done : Cond.selects "ProofGateModel" y_Mo_done y_Mo_done ∈ TB := sp5 (q := (y_Mo_done, 38)) 11 rfl
theorem ok_Mo_pass : gOK y_Mo_pass b_Mo_pass 2 (some FieldType.int) 1 := ⟨tb5 158 rfl rfl, tb1 13 rfl rfl, ⟨by decide +kernel, by decide +kernel⟩, by decide +kernel⟩
theorem im_Mo_pass : Cond.instanceMethod y_Mo_pass ∈ TB := tb5 156 rfl rfl
theorem se_Mo_pass : Cond.selects "ProofGateModel" y_Mo_pass y_Mo_pass ∈ TB := tb5 157 rfl rfl
theorem ok_Mo_owner : gOK y_Mo_owner b_Mo_owner 2 (some FieldType.int) 1 := ⟨tb5 162 rfl rfl, tb1 13 rfl rfl, ⟨by decide +kernel, by decide +kernel⟩, by decide +kernel⟩
theorem im_Mo_owner : Cond.instanceMethod y_Mo_owner ∈ TB := tb5 160 rfl rfl
theorem se_Mo_owner : Cond.selects "ProofGateModel" y_Mo_owner y_Mo_owner ∈ TB := tb5 161 rfl rfl
theorem ok_Mo_credentials : gOK y_Mo_credentials b_Mo_credentials 1 (some FieldType.int) 0 := ⟨tb5 166 rfl rfl, tb1 13 rfl rfl, ⟨by decide +kernel, by decide +kernel⟩, by decide +kernel⟩
theorem im_Mo_credentials : Cond.instanceMethod y_Mo_credentials ∈ TB := tb5 164 rfl rfl
theorem se_Mo_credentials : Cond.selects "ProofGateModel" y_Mo_credentials y_Mo_credentials ∈ TB := tb5 165 rfl rfl
theorem ok_Mo_valid : gOK y_Mo_valid b_Mo_valid 2 (some FieldType.boolean) 1 := ⟨tb5 170 rfl rfl, tb1 13 rfl rfl, ⟨by decide +kernel, by decide +kernel⟩, by decide +kernel⟩
theorem im_Mo_valid : Cond.instanceMethod y_Mo_valid ∈ TB := tb5 168 rfl rfl
theorem se_Mo_valid : Cond.selects "ProofGateModel" y_Mo_valid y_Mo_valid ∈ TB := tb5 169 rfl rfl
theorem ok_Mo_grants : gOK y_Mo_grants b_Mo_grants 1 (some FieldType.int) 0 := ⟨tb5 174 rfl rfl, tb1 13 rfl rfl, ⟨by decide +kernel, by decide +kernel⟩, by decide +kernel⟩
theorem im_Mo_grants : Cond.instanceMethod y_Mo_grants ∈ TB := tb5 172 rfl rfl
theorem se_Mo_grants : Cond.selects "ProofGateModel" y_Mo_grants y_Mo_grants ∈ TB := tb5 173 rfl rfl
theorem ok_Mo_chain : gOK y_Mo_chain b_Mo_chain 1 (some FieldType.int) 0 := ⟨tb5 178 rfl rfl, tb1 13 rfl rfl, ⟨by decide +kernel, by decide +kernel⟩, by decide +kernel⟩
theorem im_Mo_chain : Cond.instanceMethod y_Mo_chain ∈ TB := tb5 176 rfl rfl
theorem se_Mo_chain : Cond.selects "ProofGateModel" y_Mo_chain y_Mo_chain ∈ TB := tb5 177 rfl rfl
theorem ii_Lw : Cond.initialized "ProofGateLaw" ∈ TB := tb1 0 rfl rfl
theorem ii_Ga : Cond.initialized "ProofGate" ∈ TB := tb1 1 rfl rfl
theorem ii_Cs : Cond.initialized "ProofGate$Credentials" ∈ TB := tb1 2 rfl rfl
theorem ii_Ac : Cond.initialized "java/util/AbstractCollection" ∈ TB := tb1 3 rfl rfl
theorem ii_Ab : Cond.initialized "java/util/AbstractList" ∈ TB := tb1 4 rfl rfl
theorem ii_AL : Cond.initialized "java/util/ArrayList" ∈ TB := tb1 5 rfl rfl
theorem ii_Pf : Cond.initialized "ProofGate$Proof" ∈ TB := tb1 6 rfl rfl
theorem ii_Pv : Cond.initialized "ProofGate$Prover" ∈ TB := tb1 7 rfl rfl
theorem ii_Ck : Cond.initialized "ProofGate$Checker" ∈ TB := tb1 8 rfl rfl
theorem ii_Fa : Cond.initialized "ProofGate$Fact" ∈ TB := tb1 9 rfl rfl
theorem ii_Lg : Cond.initialized "ProofGate$AuditLog" ∈ TB := tb1 10 rfl rfl
theorem ii_Fu : Cond.initialized "ProofGate$Fuse" ∈ TB := tb1 11 rfl rfl
theorem ii_Ar : Cond.initialized "java/util/Arrays" ∈ TB := tb1 12 rfl rfl
theorem ii_Mo : Cond.initialized "ProofGateModel" ∈ TB := tb1 13 rfl rfl
theorem ii_Cr : Cond.initialized "ProofGate$Credential" ∈ TB := tb1 14 rfl rfl
theorem ii_As : Cond.initialized "jdk/internal/util/ArraysSupport" ∈ TB := tb1 21 rfl rfl
theorem ii_Ma : Cond.initialized "java/lang/Math" ∈ TB := tb1 22 rfl rfl
theorem ii_Sy : Cond.initialized "java/lang/System" ∈ TB := tb1 23 rfl rfl
theorem ii_Ob : Cond.initialized "java/util/Objects" ∈ TB := tb1 24 rfl rfl
theorem ii_Pr : Cond.initialized "jdk/internal/util/Preconditions" ∈ TB := tb1 25 rfl rfl
theorem cl_Lw_8 : Cond.classLink "ProofGateLaw" 8 "ProofGate" ∈ TB := tb1 27 rfl rfl
theorem in_Ga : Cond.instantiable "ProofGate" 10 ∈ TB := tb1 28 rfl rfl
theorem ml_Lw_35 : gMl "ProofGateLaw" 35 y_Ga_init := Or.inl (tb1 29 rfl rfl)
theorem ml_Ga_1 : gMl "ProofGate" 1 y_Jo_init := Or.inl (tb1 32 rfl rfl)
theorem mo_Ga_1 : Cond.methodLink "ProofGate" 1 Lib.objectInit ∈ TB := tb1 32 rfl rfl
theorem oi_im : Cond.instanceMethod Lib.objectInit ∈ TB := tb1 33 rfl rfl
theorem oi_co : Cond.code Lib.objectInit ⟨#[0xb1]⟩ 1 none ∈ TB := tb1 34 rfl rfl
theorem cl_Ga_15 : Cond.classLink "ProofGate" 15 "ProofGate$Credentials" ∈ TB := tb1 35 rfl rfl
theorem in_Cs : Cond.instantiable "ProofGate$Credentials" 2 ∈ TB := tb1 36 rfl rfl
theorem ml_Ga_17 : gMl "ProofGate" 17 y_Cs_init := Or.inr ⟨"ProofGate", nb1 37 rfl rfl⟩
theorem ml_Cs_1 : gMl "ProofGate$Credentials" 1 y_Jo_init := Or.inl (tb1 40 rfl rfl)
theorem mo_Cs_1 : Cond.methodLink "ProofGate$Credentials" 1 Lib.objectInit ∈ TB := tb1 40 rfl rfl
theorem cl_Cs_7 : Cond.classLink "ProofGate$Credentials" 7 "java/util/ArrayList" ∈ TB := tb1 41 rfl rfl
theorem in_AL : Cond.instantiable "java/util/ArrayList" 3 ∈ TB := tb1 42 rfl rfl
theorem ml_Cs_9 : gMl "ProofGate$Credentials" 9 y_AL_init := Or.inl (tb1 43 rfl rfl)
theorem ml_AL_1 : gMl "java/util/ArrayList" 1 y_Ab_init := Or.inl (tb1 46 rfl rfl)
theorem ml_Ab_1 : gMl "java/util/AbstractList" 1 y_Ac_init := Or.inl (tb1 49 rfl rfl)
theorem ml_Ac_1 : gMl "java/util/AbstractCollection" 1 y_Jo_init := Or.inl (tb1 52 rfl rfl)
theorem mo_Ac_1 : Cond.methodLink "java/util/AbstractCollection" 1 Lib.objectInit ∈ TB := tb1 52 rfl rfl
theorem ff_AL_39 : Cond.fieldLink "java/util/ArrayList" 39 "java/util/ArrayList" "DEFAULTCAPACITY_EMPTY_ELEMENTDATA" "[Ljava/lang/Object;" ∈ TB := tb1 53 rfl rfl
theorem fl_AL_39 : gFl "java/util/ArrayList" 39 "java/util/ArrayList" "DEFAULTCAPACITY_EMPTY_ELEMENTDATA" "[Ljava/lang/Object;" := Or.inl ff_AL_39
theorem ff_AL_9 : Cond.fieldLink "java/util/ArrayList" 9 "java/util/ArrayList" "elementData" "[Ljava/lang/Object;" ∈ TB := tb1 55 rfl rfl
theorem fl_AL_9 : gFl "java/util/ArrayList" 9 "java/util/ArrayList" "elementData" "[Ljava/lang/Object;" := Or.inl ff_AL_9
theorem ff_AL_48 : Cond.fieldLink "java/util/ArrayList" 48 "java/util/ArrayList" "size" "I" ∈ TB := tb1 56 rfl rfl
theorem fl_AL_48 : gFl "java/util/ArrayList" 48 "java/util/ArrayList" "size" "I" := Or.inl ff_AL_48
theorem ff_Ab_7 : Cond.fieldLink "java/util/AbstractList" 7 "java/util/AbstractList" "modCount" "I" ∈ TB := tb1 57 rfl rfl
theorem fl_Ab_7 : gFl "java/util/AbstractList" 7 "java/util/AbstractList" "modCount" "I" := Or.inl ff_Ab_7
theorem ff_AL_63 : Cond.fieldLink "java/util/ArrayList" 63 "java/util/ArrayList" "modCount" "I" ∈ TB := tb1 58 rfl rfl
theorem fl_AL_63 : gFl "java/util/ArrayList" 63 "java/util/ArrayList" "modCount" "I" := Or.inl ff_AL_63
theorem ac_int : Cond.arrayClass .int ∈ TB := tb1 67 rfl rfl
theorem ff_Cs_10 : Cond.fieldLink "ProofGate$Credentials" 10 "ProofGate$Credentials" "taken" "Ljava/util/ArrayList;" ∈ TB := tb1 68 rfl rfl
theorem fl_Cs_10 : gFl "ProofGate$Credentials" 10 "ProofGate$Credentials" "taken" "Ljava/util/ArrayList;" := Or.inl ff_Cs_10
theorem ff_Cs_24 : Cond.fieldLink "ProofGate$Credentials" 24 "ProofGate$Credentials" "time" "I" ∈ TB := tb1 69 rfl rfl
theorem fl_Cs_24 : gFl "ProofGate$Credentials" 24 "ProofGate$Credentials" "time" "I" := Or.inl ff_Cs_24
theorem cl_Ga_22 : Cond.classLink "ProofGate" 22 "ProofGate$Proof" ∈ TB := tb1 75 rfl rfl
theorem in_Pf : Cond.instantiable "ProofGate$Proof" 4 ∈ TB := tb1 76 rfl rfl
theorem ml_Ga_24 : gMl "ProofGate" 24 y_Pf_init := Or.inr ⟨"ProofGate", nb1 77 rfl rfl⟩
theorem ml_Pf_3 : gMl "ProofGate$Proof" 3 y_Jo_init := Or.inl (tb1 80 rfl rfl)
theorem mo_Pf_3 : Cond.methodLink "ProofGate$Proof" 3 Lib.objectInit ∈ TB := tb1 80 rfl rfl
theorem ff_Pf_9 : Cond.fieldLink "ProofGate$Proof" 9 "ProofGate$Proof" "rules" "[I" ∈ TB := tb1 81 rfl rfl
theorem fl_Pf_9 : gFl "ProofGate$Proof" 9 "ProofGate$Proof" "rules" "[I" := Or.inl ff_Pf_9
theorem ff_Pf_15 : Cond.fieldLink "ProofGate$Proof" 15 "ProofGate$Proof" "xs" "[I" ∈ TB := tb1 82 rfl rfl
theorem fl_Pf_15 : gFl "ProofGate$Proof" 15 "ProofGate$Proof" "xs" "[I" := Or.inl ff_Pf_15
theorem ff_Pf_18 : Cond.fieldLink "ProofGate$Proof" 18 "ProofGate$Proof" "ys" "[I" ∈ TB := tb1 83 rfl rfl
theorem fl_Pf_18 : gFl "ProofGate$Proof" 18 "ProofGate$Proof" "ys" "[I" := Or.inl ff_Pf_18
theorem ff_Pf_21 : Cond.fieldLink "ProofGate$Proof" 21 "ProofGate$Proof" "length" "I" ∈ TB := tb1 84 rfl rfl
theorem fl_Pf_21 : gFl "ProofGate$Proof" 21 "ProofGate$Proof" "length" "I" := Or.inl ff_Pf_21
theorem cl_Ga_29 : Cond.classLink "ProofGate" 29 "ProofGate$Prover" ∈ TB := tb1 94 rfl rfl
theorem in_Pv : Cond.instantiable "ProofGate$Prover" 9 ∈ TB := tb1 95 rfl rfl
theorem ml_Ga_31 : gMl "ProofGate" 31 y_Pv_init := Or.inr ⟨"ProofGate", nb1 96 rfl rfl⟩
theorem ml_Pv_5 : gMl "ProofGate$Prover" 5 y_Jo_init := Or.inl (tb1 99 rfl rfl)
theorem mo_Pv_5 : Cond.methodLink "ProofGate$Prover" 5 Lib.objectInit ∈ TB := tb1 99 rfl rfl
theorem cl_Pv_11 : Cond.classLink "ProofGate$Prover" 11 "ProofGate$Proof" ∈ TB := tb1 100 rfl rfl
theorem ml_Pv_13 : gMl "ProofGate$Prover" 13 y_Pf_init := Or.inr ⟨"ProofGate", nb1 101 rfl rfl⟩
theorem ff_Pv_34 : Cond.fieldLink "ProofGate$Prover" 34 "ProofGate$Prover" "held" "LProofGate$Credentials;" ∈ TB := tb1 102 rfl rfl
theorem fl_Pv_34 : gFl "ProofGate$Prover" 34 "ProofGate$Prover" "held" "LProofGate$Credentials;" := Or.inl ff_Pv_34
theorem ff_Pv_14 : Cond.fieldLink "ProofGate$Prover" 14 "ProofGate$Prover" "written" "LProofGate$Proof;" ∈ TB := tb1 103 rfl rfl
theorem fl_Pv_14 : gFl "ProofGate$Prover" 14 "ProofGate$Prover" "written" "LProofGate$Proof;" := Or.inl ff_Pv_14
theorem ff_Pv_18 : Cond.fieldLink "ProofGate$Prover" 18 "ProofGate$Prover" "roundOf" "[I" ∈ TB := tb1 104 rfl rfl
theorem fl_Pv_18 : gFl "ProofGate$Prover" 18 "ProofGate$Prover" "roundOf" "[I" := Or.inl ff_Pv_18
theorem ff_Pv_22 : Cond.fieldLink "ProofGate$Prover" 22 "ProofGate$Prover" "ruleOf" "[I" ∈ TB := tb1 105 rfl rfl
theorem fl_Pv_22 : gFl "ProofGate$Prover" 22 "ProofGate$Prover" "ruleOf" "[I" := Or.inl ff_Pv_22
theorem ff_Pv_25 : Cond.fieldLink "ProofGate$Prover" 25 "ProofGate$Prover" "firstOf" "[I" ∈ TB := tb1 106 rfl rfl
theorem fl_Pv_25 : gFl "ProofGate$Prover" 25 "ProofGate$Prover" "firstOf" "[I" := Or.inl ff_Pv_25
theorem ff_Pv_28 : Cond.fieldLink "ProofGate$Prover" 28 "ProofGate$Prover" "secondOf" "[I" ∈ TB := tb1 107 rfl rfl
theorem fl_Pv_28 : gFl "ProofGate$Prover" 28 "ProofGate$Prover" "secondOf" "[I" := Or.inl ff_Pv_28
theorem ff_Pv_31 : Cond.fieldLink "ProofGate$Prover" 31 "ProofGate$Prover" "stepOf" "[I" ∈ TB := tb1 108 rfl rfl
theorem fl_Pv_31 : gFl "ProofGate$Prover" 31 "ProofGate$Prover" "stepOf" "[I" := Or.inl ff_Pv_31
theorem ff_Pv_62 : Cond.fieldLink "ProofGate$Prover" 62 "ProofGate$Prover" "round" "I" ∈ TB := tb1 109 rfl rfl
theorem fl_Pv_62 : gFl "ProofGate$Prover" 62 "ProofGate$Prover" "round" "I" := Or.inl ff_Pv_62
theorem ff_Pv_66 : Cond.fieldLink "ProofGate$Prover" 66 "ProofGate$Prover" "foundSome" "Z" ∈ TB := tb1 110 rfl rfl
theorem fl_Pv_66 : gFl "ProofGate$Prover" 66 "ProofGate$Prover" "foundSome" "Z" := Or.inl ff_Pv_66
theorem cl_Ga_38 : Cond.classLink "ProofGate" 38 "ProofGate$Checker" ∈ TB := tb1 130 rfl rfl
theorem in_Ck : Cond.instantiable "ProofGate$Checker" 2 ∈ TB := tb1 131 rfl rfl
theorem ml_Ga_40 : gMl "ProofGate" 40 y_Ck_init := Or.inr ⟨"ProofGate", nb1 132 rfl rfl⟩
theorem ml_Ck_3 : gMl "ProofGate$Checker" 3 y_Jo_init := Or.inl (tb1 135 rfl rfl)
theorem mo_Ck_3 : Cond.methodLink "ProofGate$Checker" 3 Lib.objectInit ∈ TB := tb1 135 rfl rfl
theorem cl_Ck_9 : Cond.classLink "ProofGate$Checker" 9 "ProofGate$Fact" ∈ TB := tb1 136 rfl rfl
theorem in_Fa : Cond.instantiable "ProofGate$Fact" 6 ∈ TB := tb1 138 rfl rfl
theorem ml_Ck_21 : gMl "ProofGate$Checker" 21 y_Fa_init := Or.inr ⟨"ProofGate", nb1 139 rfl rfl⟩
theorem ml_Fa_3 : gMl "ProofGate$Fact" 3 y_Jo_init := Or.inl (tb1 142 rfl rfl)
theorem mo_Fa_3 : Cond.methodLink "ProofGate$Fact" 3 Lib.objectInit ∈ TB := tb1 142 rfl rfl
theorem ff_Fa_15 : Cond.fieldLink "ProofGate$Fact" 15 "ProofGate$Fact" "kind" "I" ∈ TB := tb1 143 rfl rfl
theorem fl_Fa_15 : gFl "ProofGate$Fact" 15 "ProofGate$Fact" "kind" "I" := Or.inl ff_Fa_15
theorem fl_Ck_73 : gFl "ProofGate$Checker" 73 "ProofGate$Fact" "kind" "I" := Or.inr ⟨"ProofGate", nb1 144 rfl rfl⟩
theorem ff_Fa_21 : Cond.fieldLink "ProofGate$Fact" 21 "ProofGate$Fact" "of" "I" ∈ TB := tb1 145 rfl rfl
theorem fl_Fa_21 : gFl "ProofGate$Fact" 21 "ProofGate$Fact" "of" "I" := Or.inl ff_Fa_21
theorem fl_Ck_74 : gFl "ProofGate$Checker" 74 "ProofGate$Fact" "of" "I" := Or.inr ⟨"ProofGate", nb1 146 rfl rfl⟩
theorem ff_Fa_28 : Cond.fieldLink "ProofGate$Fact" 28 "ProofGate$Fact" "to" "I" ∈ TB := tb1 147 rfl rfl
theorem fl_Fa_28 : gFl "ProofGate$Fact" 28 "ProofGate$Fact" "to" "I" := Or.inl ff_Fa_28
theorem fl_Ck_111 : gFl "ProofGate$Checker" 111 "ProofGate$Fact" "to" "I" := Or.inr ⟨"ProofGate", nb1 148 rfl rfl⟩
theorem ff_Fa_31 : Cond.fieldLink "ProofGate$Fact" 31 "ProofGate$Fact" "right" "I" ∈ TB := tb1 149 rfl rfl
theorem fl_Fa_31 : gFl "ProofGate$Fact" 31 "ProofGate$Fact" "right" "I" := Or.inl ff_Fa_31
theorem fl_Ck_80 : gFl "ProofGate$Checker" 80 "ProofGate$Fact" "right" "I" := Or.inr ⟨"ProofGate", nb1 150 rfl rfl⟩
theorem ff_Fa_34 : Cond.fieldLink "ProofGate$Fact" 34 "ProofGate$Fact" "object" "I" ∈ TB := tb1 151 rfl rfl
theorem fl_Fa_34 : gFl "ProofGate$Fact" 34 "ProofGate$Fact" "object" "I" := Or.inl ff_Fa_34
theorem ff_Fa_37 : Cond.fieldLink "ProofGate$Fact" 37 "ProofGate$Fact" "depth" "I" ∈ TB := tb1 152 rfl rfl
theorem fl_Fa_37 : gFl "ProofGate$Fact" 37 "ProofGate$Fact" "depth" "I" := Or.inl ff_Fa_37
theorem fl_Ck_102 : gFl "ProofGate$Checker" 102 "ProofGate$Fact" "depth" "I" := Or.inr ⟨"ProofGate", nb1 153 rfl rfl⟩
theorem ff_Ck_17 : Cond.fieldLink "ProofGate$Checker" 17 "ProofGate$Checker" "held" "LProofGate$Credentials;" ∈ TB := tb1 167 rfl rfl
theorem fl_Ck_17 : gFl "ProofGate$Checker" 17 "ProofGate$Checker" "held" "LProofGate$Credentials;" := Or.inl ff_Ck_17
theorem ff_Ck_11 : Cond.fieldLink "ProofGate$Checker" 11 "ProofGate$Checker" "facts" "[LProofGate$Fact;" ∈ TB := tb1 168 rfl rfl
theorem fl_Ck_11 : gFl "ProofGate$Checker" 11 "ProofGate$Checker" "facts" "[LProofGate$Fact;" := Or.inl ff_Ck_11
theorem cl_Ga_45 : Cond.classLink "ProofGate" 45 "ProofGate$AuditLog" ∈ TB := tb1 174 rfl rfl
theorem in_Lg : Cond.instantiable "ProofGate$AuditLog" 2 ∈ TB := tb1 175 rfl rfl
theorem ml_Ga_47 : gMl "ProofGate" 47 y_Lg_init := Or.inr ⟨"ProofGate", nb1 176 rfl rfl⟩
theorem ml_Lg_1 : gMl "ProofGate$AuditLog" 1 y_Jo_init := Or.inl (tb1 179 rfl rfl)
theorem mo_Lg_1 : Cond.methodLink "ProofGate$AuditLog" 1 Lib.objectInit ∈ TB := tb1 179 rfl rfl
theorem ff_Lg_7 : Cond.fieldLink "ProofGate$AuditLog" 7 "ProofGate$AuditLog" "count" "I" ∈ TB := tb1 180 rfl rfl
theorem fl_Lg_7 : gFl "ProofGate$AuditLog" 7 "ProofGate$AuditLog" "count" "I" := Or.inl ff_Lg_7
theorem ff_Lg_13 : Cond.fieldLink "ProofGate$AuditLog" 13 "ProofGate$AuditLog" "link" "I" ∈ TB := tb1 181 rfl rfl
theorem fl_Lg_13 : gFl "ProofGate$AuditLog" 13 "ProofGate$AuditLog" "link" "I" := Or.inl ff_Lg_13
theorem cl_Ga_52 : Cond.classLink "ProofGate" 52 "ProofGate$Fuse" ∈ TB := tb1 187 rfl rfl
theorem in_Fu : Cond.instantiable "ProofGate$Fuse" 1 ∈ TB := tb1 188 rfl rfl
theorem ml_Ga_54 : gMl "ProofGate" 54 y_Fu_init := Or.inr ⟨"ProofGate", nb1 189 rfl rfl⟩
theorem ml_Fu_1 : gMl "ProofGate$Fuse" 1 y_Jo_init := Or.inl (tb1 192 rfl rfl)
theorem mo_Fu_1 : Cond.methodLink "ProofGate$Fuse" 1 Lib.objectInit ∈ TB := tb1 192 rfl rfl
theorem ff_Fu_9 : Cond.fieldLink "ProofGate$Fuse" 9 "ProofGate$Fuse" "left" "I" ∈ TB := tb1 193 rfl rfl
theorem fl_Fu_9 : gFl "ProofGate$Fuse" 9 "ProofGate$Fuse" "left" "I" := Or.inl ff_Fu_9
theorem ml_Ga_69 : gMl "ProofGate" 69 y_Ar_fill := Or.inl (tb1 197 rfl rfl)
theorem ff_Ga_65 : Cond.fieldLink "ProofGate" 65 "ProofGate" "secret" "I" ∈ TB := tb1 200 rfl rfl
theorem fl_Ga_65 : gFl "ProofGate" 65 "ProofGate" "secret" "I" := Or.inl ff_Ga_65
theorem ff_Ga_9 : Cond.fieldLink "ProofGate" 9 "ProofGate" "numbers" "[I" ∈ TB := tb1 201 rfl rfl
theorem fl_Ga_9 : gFl "ProofGate" 9 "ProofGate" "numbers" "[I" := Or.inl ff_Ga_9
theorem ff_Ga_18 : Cond.fieldLink "ProofGate" 18 "ProofGate" "held" "LProofGate$Credentials;" ∈ TB := tb1 202 rfl rfl
theorem fl_Ga_18 : gFl "ProofGate" 18 "ProofGate" "held" "LProofGate$Credentials;" := Or.inl ff_Ga_18
theorem ff_Ga_25 : Cond.fieldLink "ProofGate" 25 "ProofGate" "draft" "LProofGate$Proof;" ∈ TB := tb1 203 rfl rfl
theorem fl_Ga_25 : gFl "ProofGate" 25 "ProofGate" "draft" "LProofGate$Proof;" := Or.inl ff_Ga_25
theorem ff_Ga_34 : Cond.fieldLink "ProofGate" 34 "ProofGate" "prover" "LProofGate$Prover;" ∈ TB := tb1 204 rfl rfl
theorem fl_Ga_34 : gFl "ProofGate" 34 "ProofGate" "prover" "LProofGate$Prover;" := Or.inl ff_Ga_34
theorem ff_Ga_41 : Cond.fieldLink "ProofGate" 41 "ProofGate" "checker" "LProofGate$Checker;" ∈ TB := tb1 205 rfl rfl
theorem fl_Ga_41 : gFl "ProofGate" 41 "ProofGate" "checker" "LProofGate$Checker;" := Or.inl ff_Ga_41
theorem ff_Ga_48 : Cond.fieldLink "ProofGate" 48 "ProofGate" "log" "LProofGate$AuditLog;" ∈ TB := tb1 206 rfl rfl
theorem fl_Ga_48 : gFl "ProofGate" 48 "ProofGate" "log" "LProofGate$AuditLog;" := Or.inl ff_Ga_48
theorem ff_Ga_55 : Cond.fieldLink "ProofGate" 55 "ProofGate" "wire" "LProofGate$Fuse;" ∈ TB := tb1 207 rfl rfl
theorem fl_Ga_55 : gFl "ProofGate" 55 "ProofGate" "wire" "LProofGate$Fuse;" := Or.inl ff_Ga_55
theorem ff_Ga_59 : Cond.fieldLink "ProofGate" 59 "ProofGate" "owners" "[I" ∈ TB := tb1 208 rfl rfl
theorem fl_Ga_59 : gFl "ProofGate" 59 "ProofGate" "owners" "[I" := Or.inl ff_Ga_59
theorem ff_Ga_62 : Cond.fieldLink "ProofGate" 62 "ProofGate" "values" "[I" ∈ TB := tb1 209 rfl rfl
theorem fl_Ga_62 : gFl "ProofGate" 62 "ProofGate" "values" "[I" := Or.inl ff_Ga_62
theorem ml_Lw_41 : gMl "ProofGateLaw" 41 y_Ga_seal := Or.inl (tb1 231 rfl rfl)
theorem cl_Ga_7 : Cond.classLink "ProofGate" 7 "ProofGate$Credential" ∈ TB := tb1 235 rfl rfl
theorem in_Cr : Cond.instantiable "ProofGate$Credential" 6 ∈ TB := tb1 236 rfl rfl
theorem ml_Ga_75 : gMl "ProofGate" 75 y_Cr_init := Or.inr ⟨"ProofGate", nb1 237 rfl rfl⟩
theorem ml_Cr_3 : gMl "ProofGate$Credential" 3 y_Jo_init := Or.inl (tb2 0 rfl rfl)
theorem mo_Cr_3 : Cond.methodLink "ProofGate$Credential" 3 Lib.objectInit ∈ TB := tb2 0 rfl rfl
theorem ml_Cr_28 : gMl "ProofGate$Credential" 28 y_Cr_isKind := Or.inl (tb2 1 rfl rfl)
theorem ml_Cr_32 : gMl "ProofGate$Credential" 32 y_Cr_limit := Or.inl (tb2 4 rfl rfl)
theorem ff_Cr_36 : Cond.fieldLink "ProofGate$Credential" 36 "ProofGate$Credential" "LIMITS" "[I" ∈ TB := tb2 7 rfl rfl
theorem fl_Cr_36 : gFl "ProofGate$Credential" 36 "ProofGate$Credential" "LIMITS" "[I" := Or.inl ff_Cr_36
theorem ff_Cr_15 : Cond.fieldLink "ProofGate$Credential" 15 "ProofGate$Credential" "issuer" "I" ∈ TB := tb2 9 rfl rfl
theorem fl_Cr_15 : gFl "ProofGate$Credential" 15 "ProofGate$Credential" "issuer" "I" := Or.inl ff_Cr_15
theorem fl_Fa_18 : gFl "ProofGate$Fact" 18 "ProofGate$Credential" "issuer" "I" := Or.inr ⟨"ProofGate", nb2 10 rfl rfl⟩
theorem fl_Ga_122 : gFl "ProofGate" 122 "ProofGate$Credential" "issuer" "I" := Or.inr ⟨"ProofGate", nb2 11 rfl rfl⟩
theorem fl_Ck_77 : gFl "ProofGate$Checker" 77 "ProofGate$Credential" "issuer" "I" := Or.inr ⟨"ProofGate", nb2 12 rfl rfl⟩
theorem fl_Pv_120 : gFl "ProofGate$Prover" 120 "ProofGate$Credential" "issuer" "I" := Or.inr ⟨"ProofGate", nb2 13 rfl rfl⟩
theorem ff_Cr_19 : Cond.fieldLink "ProofGate$Credential" 19 "ProofGate$Credential" "kind" "I" ∈ TB := tb2 14 rfl rfl
theorem fl_Cr_19 : gFl "ProofGate$Credential" 19 "ProofGate$Credential" "kind" "I" := Or.inl ff_Cr_19
theorem fl_Fa_9 : gFl "ProofGate$Fact" 9 "ProofGate$Credential" "kind" "I" := Or.inr ⟨"ProofGate", nb2 15 rfl rfl⟩
theorem fl_Ck_63 : gFl "ProofGate$Checker" 63 "ProofGate$Credential" "kind" "I" := Or.inr ⟨"ProofGate", nb2 16 rfl rfl⟩
theorem fl_Pv_117 : gFl "ProofGate$Prover" 117 "ProofGate$Credential" "kind" "I" := Or.inr ⟨"ProofGate", nb2 17 rfl rfl⟩
theorem ff_Cr_11 : Cond.fieldLink "ProofGate$Credential" 11 "ProofGate$Credential" "numbers" "[I" ∈ TB := tb2 18 rfl rfl
theorem fl_Cr_11 : gFl "ProofGate$Credential" 11 "ProofGate$Credential" "numbers" "[I" := Or.inl ff_Cr_11
theorem fl_Fa_24 : gFl "ProofGate$Fact" 24 "ProofGate$Credential" "numbers" "[I" := Or.inr ⟨"ProofGate", nb2 19 rfl rfl⟩
theorem fl_Ck_83 : gFl "ProofGate$Checker" 83 "ProofGate$Credential" "numbers" "[I" := Or.inr ⟨"ProofGate", nb2 20 rfl rfl⟩
theorem fl_Pv_112 : gFl "ProofGate$Prover" 112 "ProofGate$Credential" "numbers" "[I" := Or.inr ⟨"ProofGate", nb2 21 rfl rfl⟩
theorem ff_Cr_22 : Cond.fieldLink "ProofGate$Credential" 22 "ProofGate$Credential" "first" "I" ∈ TB := tb2 22 rfl rfl
theorem fl_Cr_22 : gFl "ProofGate$Credential" 22 "ProofGate$Credential" "first" "I" := Or.inl ff_Cr_22
theorem ff_Cr_25 : Cond.fieldLink "ProofGate$Credential" 25 "ProofGate$Credential" "last" "I" ∈ TB := tb2 23 rfl rfl
theorem fl_Cr_25 : gFl "ProofGate$Credential" 25 "ProofGate$Credential" "last" "I" := Or.inl ff_Cr_25
theorem ff_Cr_42 : Cond.fieldLink "ProofGate$Credential" 42 "ProofGate$Credential" "revoked" "Z" ∈ TB := tb2 24 rfl rfl
theorem fl_Cr_42 : gFl "ProofGate$Credential" 42 "ProofGate$Credential" "revoked" "Z" := Or.inl ff_Cr_42
theorem fl_Ga_127 : gFl "ProofGate" 127 "ProofGate$Credential" "revoked" "Z" := Or.inr ⟨"ProofGate", nb2 25 rfl rfl⟩
theorem ml_Ga_78 : gMl "ProofGate" 78 y_Ga_sealOf := Or.inl (tb2 39 rfl rfl)
theorem ml_Ga_216 : gMl "ProofGate" 216 y_Cr_mark := Or.inr ⟨"ProofGate", nb2 43 rfl rfl⟩
theorem ml_Cr_46 : gMl "ProofGate$Credential" 46 y_Cr_mix := Or.inl (tb2 47 rfl rfl)
theorem ct_Cr_49 : Cond.constant "ProofGate$Credential" 49 (1540483477) ∈ TB := tb2 50 rfl rfl
theorem ct_Ga_219 : Cond.constant "ProofGate" 219 (668265263) ∈ TB := tb2 51 rfl rfl
theorem ml_Lw_54 : gMl "ProofGateLaw" 54 y_Ga_set := Or.inl (tb2 52 rfl rfl)
theorem ml_Lw_63 : gMl "ProofGateLaw" 63 y_Ga_pass := Or.inl (tb2 56 rfl rfl)
theorem ml_Ga_131 : gMl "ProofGate" 131 y_Cs_letTimeGoOn := Or.inr ⟨"ProofGate", nb2 60 rfl rfl⟩
theorem ml_Lw_68 : gMl "ProofGateLaw" 68 y_Ga_step := Or.inl (tb2 64 rfl rfl)
theorem ml_Ga_135 : gMl "ProofGate" 135 y_Pf_append := Or.inr ⟨"ProofGate", nb2 68 rfl rfl⟩
theorem ml_Lw_73 : gMl "ProofGateLaw" 73 y_Ga_clear := Or.inl (tb2 72 rfl rfl)
theorem ml_Ga_139 : gMl "ProofGate" 139 y_Pf_makeEmpty := Or.inr ⟨"ProofGate", nb2 76 rfl rfl⟩
theorem ml_Lw_77 : gMl "ProofGateLaw" 77 y_Ga_steps := Or.inl (tb2 80 rfl rfl)
theorem ml_Ga_142 : gMl "ProofGate" 142 y_Pf_length := Or.inr ⟨"ProofGate", nb2 84 rfl rfl⟩
theorem ml_Lw_81 : gMl "ProofGateLaw" 81 y_Ga_stepAt := Or.inl (tb2 88 rfl rfl)
theorem ml_Ga_145 : gMl "ProofGate" 145 y_Pf_hasStep := Or.inr ⟨"ProofGate", nb2 92 rfl rfl⟩
theorem ml_Ga_149 : gMl "ProofGate" 149 y_Pf_ruleAt := Or.inr ⟨"ProofGate", nb2 96 rfl rfl⟩
theorem ml_Ga_152 : gMl "ProofGate" 152 y_Pf_xAt := Or.inr ⟨"ProofGate", nb2 100 rfl rfl⟩
theorem ml_Ga_155 : gMl "ProofGate" 155 y_Pf_yAt := Or.inr ⟨"ProofGate", nb2 104 rfl rfl⟩
theorem ml_Lw_86 : gMl "ProofGateLaw" 86 y_Ga_prove := Or.inl (tb2 108 rfl rfl)
theorem ml_Ga_158 : gMl "ProofGate" 158 y_Ga_isNamed := Or.inl (tb2 112 rfl rfl)
theorem ml_Ga_225 : gMl "ProofGate" 225 y_Ga_isPrincipal := Or.inl (tb2 115 rfl rfl)
theorem ml_Ga_206 : gMl "ProofGate" 206 y_Ga_isObject := Or.inl (tb2 118 rfl rfl)
theorem ml_Ga_162 : gMl "ProofGate" 162 y_Ga_isOpenTo := Or.inl (tb2 121 rfl rfl)
theorem ml_Ga_166 : gMl "ProofGate" 166 y_Ga_sayerOfGoal := Or.inl (tb2 125 rfl rfl)
theorem ml_Ga_170 : gMl "ProofGate" 170 y_Pv_writeProof := Or.inr ⟨"ProofGate", nb2 129 rfl rfl⟩
theorem ml_Pv_38 : gMl "ProofGate$Prover" 38 y_Pv_may := Or.inl (tb2 133 rfl rfl)
theorem ml_Pv_42 : gMl "ProofGate$Prover" 42 y_Pv_finds := Or.inl (tb2 136 rfl rfl)
theorem ml_Pv_50 : gMl "ProofGate$Prover" 50 y_Ar_fill := Or.inl (tb2 140 rfl rfl)
theorem ml_Pv_70 : gMl "ProofGate$Prover" 70 y_Pv_findWhatIsSaid := Or.inl (tb2 141 rfl rfl)
theorem ml_Pv_95 : gMl "ProofGate$Prover" 95 y_Cs_count := Or.inr ⟨"ProofGate", nb2 145 rfl rfl⟩
theorem ml_Cs_16 : gMl "ProofGate$Credentials" 16 y_AL_size := Or.inl (tb2 149 rfl rfl)
theorem ml_Pv_100 : gMl "ProofGate$Prover" 100 y_Cs_findValid := Or.inr ⟨"ProofGate", nb2 153 rfl rfl⟩
theorem ml_Cs_34 : gMl "ProofGate$Credentials" 34 y_Cs_find := Or.inl (tb2 157 rfl rfl)
theorem ml_Cs_28 : gMl "ProofGate$Credentials" 28 y_AL_get := Or.inl (tb2 161 rfl rfl)
theorem ml_AL_118 : gMl "java/util/ArrayList" 118 y_Ob_checkIndex := Or.inl (tb2 165 rfl rfl)
theorem ml_Ob_105 : gMl "java/util/Objects" 105 y_Pr_checkIndex := Or.inl (tb2 168 rfl rfl)
theorem ml_AL_123 : gMl "java/util/ArrayList" 123 y_AL_elementData := Or.inl (tb2 171 rfl rfl)
theorem cl_Cs_32 : Cond.classLink "ProofGate$Credentials" 32 "ProofGate$Credential" ∈ TB := tb2 175 rfl rfl
theorem ml_Cs_38 : gMl "ProofGate$Credentials" 38 y_Cr_isValidAt := Or.inr ⟨"ProofGate", nb2 176 rfl rfl⟩
theorem ml_Pv_104 : gMl "ProofGate$Prover" 104 y_Pv_factSaidBy := Or.inl (tb2 180 rfl rfl)
theorem ml_Pv_123 : gMl "ProofGate$Prover" 123 y_Pv_speaks := Or.inl (tb2 183 rfl rfl)
theorem ml_Pv_127 : gMl "ProofGate$Prover" 127 y_Pv_trusts := Or.inl (tb2 186 rfl rfl)
theorem ml_Pv_108 : gMl "ProofGate$Prover" 108 y_Pv_reach := Or.inl (tb2 189 rfl rfl)
theorem ml_Pv_74 : gMl "ProofGate$Prover" 74 y_Pv_findWhatFollows := Or.inl (tb2 193 rfl rfl)
theorem ml_Pv_77 : gMl "ProofGate$Prover" 77 y_Pv_findMayByVoice := Or.inl (tb2 197 rfl rfl)
theorem ml_Pv_131 : gMl "ProofGate$Prover" 131 y_Pv_isKnown := Or.inl (tb2 201 rfl rfl)
theorem ml_Pv_135 : gMl "ProofGate$Prover" 135 y_Pv_handOnMay := Or.inl (tb2 205 rfl rfl)
theorem ml_Pv_80 : gMl "ProofGate$Prover" 80 y_Pv_findMayByTrust := Or.inl (tb2 209 rfl rfl)
theorem ml_Pv_83 : gMl "ProofGate$Prover" 83 y_Pv_findTrustByTrust := Or.inl (tb2 213 rfl rfl)
theorem ml_Pv_139 : gMl "ProofGate$Prover" 139 y_Pv_handOnTrust := Or.inl (tb2 217 rfl rfl)
theorem ml_Pv_143 : gMl "ProofGate$Prover" 143 y_Ma_min := Or.inl (tb2 221 rfl rfl)
theorem ml_Pv_86 : gMl "ProofGate$Prover" 86 y_Pv_findTrustByVoice := Or.inl (tb2 224 rfl rfl)
theorem ml_Pv_89 : gMl "ProofGate$Prover" 89 y_Pv_findVoiceByVoice := Or.inl (tb2 228 rfl rfl)
theorem ml_Pv_148 : gMl "ProofGate$Prover" 148 y_Pv_handOnVoice := Or.inl (tb2 232 rfl rfl)
theorem ml_Pv_92 : gMl "ProofGate$Prover" 92 y_Pv_findImplied := Or.inl (tb2 236 rfl rfl)
theorem ml_Pv_152 : gMl "ProofGate$Prover" 152 y_Pv_applyImply := Or.inl (tb3 0 rfl rfl)
theorem ml_Pv_46 : gMl "ProofGate$Prover" 46 y_Pf_makeEmpty := Or.inr ⟨"ProofGate", nb3 4 rfl rfl⟩
theorem ml_Pv_56 : gMl "ProofGate$Prover" 56 y_Pv_writesStep := Or.inl (tb3 5 rfl rfl)
theorem ml_Pv_155 : gMl "ProofGate$Prover" 155 y_Pf_append := Or.inr ⟨"ProofGate", nb3 9 rfl rfl⟩
theorem ml_Pv_59 : gMl "ProofGate$Prover" 59 y_Pf_length := Or.inr ⟨"ProofGate", nb3 10 rfl rfl⟩
theorem ml_Ga_174 : gMl "ProofGate" 174 y_Pv_written := Or.inr ⟨"ProofGate", nb3 11 rfl rfl⟩
theorem ml_Ga_178 : gMl "ProofGate" 178 y_Pf_become := Or.inr ⟨"ProofGate", nb3 15 rfl rfl⟩
theorem ml_Pf_25 : gMl "ProofGate$Proof" 25 ⟨"java/lang/System", "arraycopy", "(Ljava/lang/Object;ILjava/lang/Object;II)V"⟩ := Or.inl (tb3 19 rfl rfl)
theorem ml_Lw_90 : gMl "ProofGateLaw" 90 y_Ga_check := Or.inl (tb3 22 rfl rfl)
theorem ml_Ga_182 : gMl "ProofGate" 182 y_Ck_accepts := Or.inr ⟨"ProofGate", nb3 26 rfl rfl⟩
theorem ml_Ck_22 : gMl "ProofGate$Checker" 22 y_Pf_length := Or.inr ⟨"ProofGate", nb3 30 rfl rfl⟩
theorem ml_Ck_28 : gMl "ProofGate$Checker" 28 y_Pf_ruleAt := Or.inr ⟨"ProofGate", nb3 31 rfl rfl⟩
theorem ml_Ck_32 : gMl "ProofGate$Checker" 32 y_Pf_xAt := Or.inr ⟨"ProofGate", nb3 32 rfl rfl⟩
theorem ml_Ck_35 : gMl "ProofGate$Checker" 35 y_Pf_yAt := Or.inr ⟨"ProofGate", nb3 33 rfl rfl⟩
theorem ml_Ck_38 : gMl "ProofGate$Checker" 38 y_Ck_follows := Or.inl (tb3 34 rfl rfl)
theorem ml_Ck_45 : gMl "ProofGate$Checker" 45 y_Cs_findValid := Or.inr ⟨"ProofGate", nb3 38 rfl rfl⟩
theorem ml_Ck_51 : gMl "ProofGate$Checker" 51 y_Ck_isSaid := Or.inl (tb3 39 rfl rfl)
theorem ml_Ck_69 : gMl "ProofGate$Checker" 69 y_Fa_becomeSaidBy := Or.inr ⟨"ProofGate", nb3 42 rfl rfl⟩
theorem ml_Ck_55 : gMl "ProofGate$Checker" 55 y_Ck_isImplied := Or.inl (tb3 46 rfl rfl)
theorem ml_Ck_87 : gMl "ProofGate$Checker" 87 y_Fa_become := Or.inr ⟨"ProofGate", nb3 49 rfl rfl⟩
theorem ml_Ck_59 : gMl "ProofGate$Checker" 59 y_Ck_isJoined := Or.inl (tb3 53 rfl rfl)
theorem ml_Ck_91 : gMl "ProofGate$Checker" 91 y_Ck_isHandedOn := Or.inl (tb3 56 rfl rfl)
theorem ml_Ck_95 : gMl "ProofGate$Checker" 95 y_Fa_isOfSameThing := Or.inr ⟨"ProofGate", nb3 59 rfl rfl⟩
theorem ml_Ck_99 : gMl "ProofGate$Checker" 99 y_Ck_isTrustedDeeper := Or.inl (tb3 63 rfl rfl)
theorem ml_Ck_105 : gMl "ProofGate$Checker" 105 y_Ma_min := Or.inl (tb3 66 rfl rfl)
theorem ml_Ck_42 : gMl "ProofGate$Checker" 42 y_Fa_isMay := Or.inr ⟨"ProofGate", nb3 67 rfl rfl⟩
theorem ml_Lw_99 : gMl "ProofGateLaw" 99 y_Ga_fuse := Or.inl (tb3 71 rfl rfl)
theorem ml_Ga_202 : gMl "ProofGate" 202 y_Fu_light := Or.inr ⟨"ProofGate", nb3 75 rfl rfl⟩
theorem ml_Lw_104 : gMl "ProofGateLaw" 104 y_Ga_owner := Or.inl (tb3 79 rfl rfl)
theorem ml_Lw_108 : gMl "ProofGateLaw" 108 y_Ga_credentials := Or.inl (tb3 83 rfl rfl)
theorem ml_Ga_98 : gMl "ProofGate" 98 y_Cs_count := Or.inr ⟨"ProofGate", nb3 87 rfl rfl⟩
theorem ml_Lw_112 : gMl "ProofGateLaw" 112 y_Ga_valid := Or.inl (tb3 88 rfl rfl)
theorem ml_Ga_209 : gMl "ProofGate" 209 y_Cs_findValid := Or.inr ⟨"ProofGate", nb3 92 rfl rfl⟩
theorem ml_Lw_116 : gMl "ProofGateLaw" 116 y_Ga_grants := Or.inl (tb3 93 rfl rfl)
theorem ml_Ga_212 : gMl "ProofGate" 212 y_Lg_count := Or.inr ⟨"ProofGate", nb3 97 rfl rfl⟩
theorem ml_Lw_120 : gMl "ProofGateLaw" 120 y_Ga_chain := Or.inl (tb3 101 rfl rfl)
theorem ml_Ga_213 : gMl "ProofGate" 213 y_Lg_link := Or.inr ⟨"ProofGate", nb3 105 rfl rfl⟩
theorem ml_Lw_29 : gMl "ProofGateLaw" 29 y_Lw_cell := Or.inl (tb3 109 rfl rfl)
theorem ml_Lw_46 : gMl "ProofGateLaw" 46 y_Lw_submit := Or.inl (tb3 112 rfl rfl)
theorem cl_Lw_13 : Cond.classLink "ProofGateLaw" 13 "java/lang/IllegalArgumentException" ∈ TB := tb3 115 rfl rfl
theorem cl_Lw_15 : Cond.classLink "ProofGateLaw" 15 "java/lang/UnsupportedOperationException" ∈ TB := tb3 116 rfl rfl
theorem cl_Lw_17 : Cond.classLink "ProofGateLaw" 17 "java/lang/IllegalStateException" ∈ TB := tb3 117 rfl rfl
theorem ml_Lw_7 : gMl "ProofGateLaw" 7 y_Ga_submit := Or.inl (tb3 118 rfl rfl)
theorem ml_Ga_82 : gMl "ProofGate" 82 y_Cr_isWellFormed := Or.inr ⟨"ProofGate", nb3 122 rfl rfl⟩
theorem ml_Cr_39 : gMl "ProofGate$Credential" 39 y_Ga_isPrincipal := Or.inr ⟨"ProofGate", nb3 126 rfl rfl⟩
theorem cl_Ga_86 : Cond.classLink "ProofGate" 86 "java/lang/IllegalArgumentException" ∈ TB := tb3 127 rfl rfl
theorem ml_Ga_90 : gMl "ProofGate" 90 ⟨"java/lang/IllegalArgumentException", "<init>", "(Ljava/lang/String;)V"⟩ := Or.inl (tb3 170 rfl rfl)
theorem ac_byte : Cond.arrayClass .byte ∈ TB := tb3 195 rfl rfl
theorem cl_Ga_93 : Cond.classLink "ProofGate" 93 "java/lang/UnsupportedOperationException" ∈ TB := tb3 196 rfl rfl
theorem ml_Ga_97 : gMl "ProofGate" 97 ⟨"java/lang/UnsupportedOperationException", "<init>", "(Ljava/lang/String;)V"⟩ := Or.inl (tb3 206 rfl rfl)
theorem cl_Ga_102 : Cond.classLink "ProofGate" 102 "java/lang/IllegalStateException" ∈ TB := tb3 212 rfl rfl
theorem ml_Ga_106 : gMl "ProofGate" 106 ⟨"java/lang/IllegalStateException", "<init>", "(Ljava/lang/String;)V"⟩ := Or.inl (tb3 222 rfl rfl)
theorem ml_Ga_107 : gMl "ProofGate" 107 y_Ga_writeRecord := Or.inl (tb3 228 rfl rfl)
theorem ml_Ga_220 : gMl "ProofGate" 220 y_Fu_burnsThrough := Or.inr ⟨"ProofGate", nb3 232 rfl rfl⟩
theorem ml_Ga_110 : gMl "ProofGate" 110 y_Cs_take := Or.inr ⟨"ProofGate", nb3 237 rfl rfl⟩
theorem ml_Cs_20 : gMl "ProofGate$Credentials" 20 y_AL_add := Or.inl (tb4 1 rfl rfl)
theorem ml_AL_131 : gMl "java/util/ArrayList" 131 y_AL_add2 := Or.inl (tb4 5 rfl rfl)
theorem ml_AL_129 : gMl "java/util/ArrayList" 129 y_AL_grow := Or.inl (tb4 9 rfl rfl)
theorem ml_AL_69 : gMl "java/util/ArrayList" 69 y_AL_grow2 := Or.inl (tb4 13 rfl rfl)
theorem ml_AL_73 : gMl "java/util/ArrayList" 73 y_As_newLength := Or.inl (tb4 17 rfl rfl)
theorem ml_As_194 : gMl "jdk/internal/util/ArraysSupport" 194 y_Ma_max := Or.inl (tb4 20 rfl rfl)
theorem ct_As_200 : Cond.constant "jdk/internal/util/ArraysSupport" 200 (2147483639) ∈ TB := tb4 23 rfl rfl
theorem ml_As_201 : gMl "jdk/internal/util/ArraysSupport" 201 y_As_hugeLength := Or.inl (tb4 24 rfl rfl)
theorem ml_AL_66 : gMl "java/util/ArrayList" 66 y_Ar_copyOf := Or.inl (tb4 27 rfl rfl)
theorem ml_Ar_86 : gMl "java/util/Arrays" 86 ⟨"java/lang/Object", "getClass", "()Ljava/lang/Class;"⟩ := Or.inl (tb4 30 rfl rfl)
theorem ml_Ar_300 : gMl "java/util/Arrays" 300 y_Ar_copyOf2 := Or.inl (tb4 49 rfl rfl)
theorem cl_Ar_110 : Cond.classLink "java/util/Arrays" 110 "[Ljava/lang/Object;" ∈ TB := tb4 52 rfl rfl
theorem cl_Ar_2 : Cond.classLink "java/util/Arrays" 2 "java/lang/Object" ∈ TB := tb4 54 rfl rfl
theorem ml_Ar_304 : gMl "java/util/Arrays" 304 y_Ma_min := Or.inl (tb4 55 rfl rfl)
theorem ml_Ar_150 : gMl "java/util/Arrays" 150 ⟨"java/lang/System", "arraycopy", "(Ljava/lang/Object;ILjava/lang/Object;II)V"⟩ := Or.inl (tb4 56 rfl rfl)
theorem ml_AL_79 : gMl "java/util/ArrayList" 79 y_Ma_max := Or.inl (tb4 57 rfl rfl)
theorem cl_AL_7 : Cond.classLink "java/util/ArrayList" 7 "java/lang/Object" ∈ TB := tb4 58 rfl rfl
theorem ml_Lw_59 : gMl "ProofGateLaw" 59 y_Lw_revoke := Or.inl (tb4 59 rfl rfl)
theorem cl_Lw_23 : Cond.classLink "ProofGateLaw" 23 "java/util/NoSuchElementException" ∈ TB := tb4 62 rfl rfl
theorem ml_Lw_19 : gMl "ProofGateLaw" 19 y_Ga_revoke := Or.inl (tb4 63 rfl rfl)
theorem ml_Ga_113 : gMl "ProofGate" 113 y_Cs_find := Or.inr ⟨"ProofGate", nb4 67 rfl rfl⟩
theorem cl_Ga_117 : Cond.classLink "ProofGate" 117 "java/util/NoSuchElementException" ∈ TB := tb4 68 rfl rfl
theorem ml_Ga_121 : gMl "ProofGate" 121 ⟨"java/util/NoSuchElementException", "<init>", "(Ljava/lang/String;)V"⟩ := Or.inl (tb4 78 rfl rfl)
theorem ml_Lw_95 : gMl "ProofGateLaw" 95 y_Lw_request := Or.inl (tb4 85 rfl rfl)
theorem ml_Lw_25 : gMl "ProofGateLaw" 25 y_Ga_request := Or.inl (tb4 88 rfl rfl)
theorem ml_Ga_190 : gMl "ProofGate" 190 y_Ga_useUpDraft := Or.inl (tb4 94 rfl rfl)
theorem ml_Ga_195 : gMl "ProofGate" 195 y_Lg_addGrant := Or.inr ⟨"ProofGate", nb4 99 rfl rfl⟩
theorem ml_Ga_199 : gMl "ProofGate" 199 y_Ga_carryOut := Or.inl (tb4 103 rfl rfl)
theorem cl_Lw_38 : Cond.classLink "ProofGateLaw" 38 "ProofGateModel" ∈ TB := tb4 107 rfl rfl
theorem in_Mo : Cond.instantiable "ProofGateModel" 38 ∈ TB := tb4 108 rfl rfl
theorem ml_Lw_40 : gMl "ProofGateLaw" 40 y_Mo_init := Or.inl (tb4 109 rfl rfl)
theorem ml_Mo_1 : gMl "ProofGateModel" 1 y_Jo_init := Or.inl (tb4 112 rfl rfl)
theorem mo_Mo_1 : Cond.methodLink "ProofGateModel" 1 Lib.objectInit ∈ TB := tb4 112 rfl rfl
theorem ff_Mo_89 : Cond.fieldLink "ProofGateModel" 89 "ProofGateModel" "secret" "I" ∈ TB := tb4 113 rfl rfl
theorem fl_Mo_89 : gFl "ProofGateModel" 89 "ProofGateModel" "secret" "I" := Or.inl ff_Mo_89
theorem ff_Mo_141 : Cond.fieldLink "ProofGateModel" 141 "ProofGateModel" "time" "I" ∈ TB := tb4 114 rfl rfl
theorem fl_Mo_141 : gFl "ProofGateModel" 141 "ProofGateModel" "time" "I" := Or.inl ff_Mo_141
theorem ff_Mo_93 : Cond.fieldLink "ProofGateModel" 93 "ProofGateModel" "fault" "I" ∈ TB := tb4 115 rfl rfl
theorem fl_Mo_93 : gFl "ProofGateModel" 93 "ProofGateModel" "fault" "I" := Or.inl ff_Mo_93
theorem ff_Mo_96 : Cond.fieldLink "ProofGateModel" 96 "ProofGateModel" "lit" "Z" ∈ TB := tb4 116 rfl rfl
theorem fl_Mo_96 : gFl "ProofGateModel" 96 "ProofGateModel" "lit" "Z" := Or.inl ff_Mo_96
theorem ff_Mo_100 : Cond.fieldLink "ProofGateModel" 100 "ProofGateModel" "left" "I" ∈ TB := tb4 117 rfl rfl
theorem fl_Mo_100 : gFl "ProofGateModel" 100 "ProofGateModel" "left" "I" := Or.inl ff_Mo_100
theorem ff_Mo_7 : Cond.fieldLink "ProofGateModel" 7 "ProofGateModel" "there" "[Z" ∈ TB := tb4 118 rfl rfl
theorem fl_Mo_7 : gFl "ProofGateModel" 7 "ProofGateModel" "there" "[Z" := Or.inl ff_Mo_7
theorem ff_Mo_13 : Cond.fieldLink "ProofGateModel" 13 "ProofGateModel" "owner" "[I" ∈ TB := tb4 119 rfl rfl
theorem fl_Mo_13 : gFl "ProofGateModel" 13 "ProofGateModel" "owner" "[I" := Or.inl ff_Mo_13
theorem ff_Mo_17 : Cond.fieldLink "ProofGateModel" 17 "ProofGateModel" "value" "[I" ∈ TB := tb4 120 rfl rfl
theorem fl_Mo_17 : gFl "ProofGateModel" 17 "ProofGateModel" "value" "[I" := Or.inl ff_Mo_17
theorem ff_Mo_228 : Cond.fieldLink "ProofGateModel" 228 "ProofGateModel" "grants" "I" ∈ TB := tb4 121 rfl rfl
theorem fl_Mo_228 : gFl "ProofGateModel" 228 "ProofGateModel" "grants" "I" := Or.inl ff_Mo_228
theorem ff_Mo_225 : Cond.fieldLink "ProofGateModel" 225 "ProofGateModel" "chain" "I" ∈ TB := tb4 122 rfl rfl
theorem fl_Mo_225 : gFl "ProofGateModel" 225 "ProofGateModel" "chain" "I" := Or.inl ff_Mo_225
theorem ff_Mo_134 : Cond.fieldLink "ProofGateModel" 134 "ProofGateModel" "credentials" "I" ∈ TB := tb4 123 rfl rfl
theorem fl_Mo_134 : gFl "ProofGateModel" 134 "ProofGateModel" "credentials" "I" := Or.inl ff_Mo_134
theorem ff_Mo_20 : Cond.fieldLink "ProofGateModel" 20 "ProofGateModel" "issuer" "[I" ∈ TB := tb4 124 rfl rfl
theorem fl_Mo_20 : gFl "ProofGateModel" 20 "ProofGateModel" "issuer" "[I" := Or.inl ff_Mo_20
theorem ff_Mo_23 : Cond.fieldLink "ProofGateModel" 23 "ProofGateModel" "kind" "[I" ∈ TB := tb4 125 rfl rfl
theorem fl_Mo_23 : gFl "ProofGateModel" 23 "ProofGateModel" "kind" "[I" := Or.inl ff_Mo_23
theorem ff_Mo_26 : Cond.fieldLink "ProofGateModel" 26 "ProofGateModel" "one" "[I" ∈ TB := tb4 126 rfl rfl
theorem fl_Mo_26 : gFl "ProofGateModel" 26 "ProofGateModel" "one" "[I" := Or.inl ff_Mo_26
theorem ff_Mo_29 : Cond.fieldLink "ProofGateModel" 29 "ProofGateModel" "two" "[I" ∈ TB := tb4 127 rfl rfl
theorem fl_Mo_29 : gFl "ProofGateModel" 29 "ProofGateModel" "two" "[I" := Or.inl ff_Mo_29
theorem ff_Mo_32 : Cond.fieldLink "ProofGateModel" 32 "ProofGateModel" "three" "[I" ∈ TB := tb4 128 rfl rfl
theorem fl_Mo_32 : gFl "ProofGateModel" 32 "ProofGateModel" "three" "[I" := Or.inl ff_Mo_32
theorem ff_Mo_35 : Cond.fieldLink "ProofGateModel" 35 "ProofGateModel" "four" "[I" ∈ TB := tb4 129 rfl rfl
theorem fl_Mo_35 : gFl "ProofGateModel" 35 "ProofGateModel" "four" "[I" := Or.inl ff_Mo_35
theorem ff_Mo_38 : Cond.fieldLink "ProofGateModel" 38 "ProofGateModel" "first" "[I" ∈ TB := tb4 130 rfl rfl
theorem fl_Mo_38 : gFl "ProofGateModel" 38 "ProofGateModel" "first" "[I" := Or.inl ff_Mo_38
theorem ff_Mo_41 : Cond.fieldLink "ProofGateModel" 41 "ProofGateModel" "last" "[I" ∈ TB := tb4 131 rfl rfl
theorem fl_Mo_41 : gFl "ProofGateModel" 41 "ProofGateModel" "last" "[I" := Or.inl ff_Mo_41
theorem ff_Mo_44 : Cond.fieldLink "ProofGateModel" 44 "ProofGateModel" "revoked" "[Z" ∈ TB := tb4 132 rfl rfl
theorem fl_Mo_44 : gFl "ProofGateModel" 44 "ProofGateModel" "revoked" "[Z" := Or.inl ff_Mo_44
theorem ff_Mo_47 : Cond.fieldLink "ProofGateModel" 47 "ProofGateModel" "given" "[I" ∈ TB := tb4 133 rfl rfl
theorem fl_Mo_47 : gFl "ProofGateModel" 47 "ProofGateModel" "given" "[I" := Or.inl ff_Mo_47
theorem ff_Mo_103 : Cond.fieldLink "ProofGateModel" 103 "ProofGateModel" "drafted" "I" ∈ TB := tb4 134 rfl rfl
theorem fl_Mo_103 : gFl "ProofGateModel" 103 "ProofGateModel" "drafted" "I" := Or.inl ff_Mo_103
theorem ff_Mo_187 : Cond.fieldLink "ProofGateModel" 187 "ProofGateModel" "made" "I" ∈ TB := tb4 135 rfl rfl
theorem fl_Mo_187 : gFl "ProofGateModel" 187 "ProofGateModel" "made" "I" := Or.inl ff_Mo_187
theorem ff_Mo_50 : Cond.fieldLink "ProofGateModel" 50 "ProofGateModel" "rule" "[I" ∈ TB := tb4 136 rfl rfl
theorem fl_Mo_50 : gFl "ProofGateModel" 50 "ProofGateModel" "rule" "[I" := Or.inl ff_Mo_50
theorem ff_Mo_53 : Cond.fieldLink "ProofGateModel" 53 "ProofGateModel" "left1" "[I" ∈ TB := tb4 137 rfl rfl
theorem fl_Mo_53 : gFl "ProofGateModel" 53 "ProofGateModel" "left1" "[I" := Or.inl ff_Mo_53
theorem ff_Mo_56 : Cond.fieldLink "ProofGateModel" 56 "ProofGateModel" "left2" "[I" ∈ TB := tb4 138 rfl rfl
theorem fl_Mo_56 : gFl "ProofGateModel" 56 "ProofGateModel" "left2" "[I" := Or.inl ff_Mo_56
theorem ff_Mo_59 : Cond.fieldLink "ProofGateModel" 59 "ProofGateModel" "facts" "[I" ∈ TB := tb4 139 rfl rfl
theorem fl_Mo_59 : gFl "ProofGateModel" 59 "ProofGateModel" "facts" "[I" := Or.inl ff_Mo_59
theorem ff_Mo_62 : Cond.fieldLink "ProofGateModel" 62 "ProofGateModel" "madeRule" "[I" ∈ TB := tb4 140 rfl rfl
theorem fl_Mo_62 : gFl "ProofGateModel" 62 "ProofGateModel" "madeRule" "[I" := Or.inl ff_Mo_62
theorem ff_Mo_65 : Cond.fieldLink "ProofGateModel" 65 "ProofGateModel" "madeX" "[I" ∈ TB := tb4 141 rfl rfl
theorem fl_Mo_65 : gFl "ProofGateModel" 65 "ProofGateModel" "madeX" "[I" := Or.inl ff_Mo_65
theorem ff_Mo_68 : Cond.fieldLink "ProofGateModel" 68 "ProofGateModel" "madeY" "[I" ∈ TB := tb4 142 rfl rfl
theorem fl_Mo_68 : gFl "ProofGateModel" 68 "ProofGateModel" "madeY" "[I" := Or.inl ff_Mo_68
theorem ff_Mo_71 : Cond.fieldLink "ProofGateModel" 71 "ProofGateModel" "round" "[I" ∈ TB := tb4 143 rfl rfl
theorem fl_Mo_71 : gFl "ProofGateModel" 71 "ProofGateModel" "round" "[I" := Or.inl ff_Mo_71
theorem ff_Mo_74 : Cond.fieldLink "ProofGateModel" 74 "ProofGateModel" "by" "[I" ∈ TB := tb4 144 rfl rfl
theorem fl_Mo_74 : gFl "ProofGateModel" 74 "ProofGateModel" "by" "[I" := Or.inl ff_Mo_74
theorem ff_Mo_77 : Cond.fieldLink "ProofGateModel" 77 "ProofGateModel" "from" "[I" ∈ TB := tb4 145 rfl rfl
theorem fl_Mo_77 : gFl "ProofGateModel" 77 "ProofGateModel" "from" "[I" := Or.inl ff_Mo_77
theorem ff_Mo_80 : Cond.fieldLink "ProofGateModel" 80 "ProofGateModel" "with" "[I" ∈ TB := tb4 146 rfl rfl
theorem fl_Mo_80 : gFl "ProofGateModel" 80 "ProofGateModel" "with" "[I" := Or.inl ff_Mo_80
theorem ff_Mo_83 : Cond.fieldLink "ProofGateModel" 83 "ProofGateModel" "place" "[I" ∈ TB := tb4 147 rfl rfl
theorem fl_Mo_83 : gFl "ProofGateModel" 83 "ProofGateModel" "place" "[I" := Or.inl ff_Mo_83
theorem ff_Mo_86 : Cond.fieldLink "ProofGateModel" 86 "ProofGateModel" "stack" "[I" ∈ TB := tb4 148 rfl rfl
theorem fl_Mo_86 : gFl "ProofGateModel" 86 "ProofGateModel" "stack" "[I" := Or.inl ff_Mo_86
theorem ff_Mo_144 : Cond.fieldLink "ProofGateModel" 144 "ProofGateModel" "now" "I" ∈ TB := tb4 149 rfl rfl
theorem fl_Mo_144 : gFl "ProofGateModel" 144 "ProofGateModel" "now" "I" := Or.inl ff_Mo_144
theorem ff_Mo_150 : Cond.fieldLink "ProofGateModel" 150 "ProofGateModel" "about" "I" ∈ TB := tb4 150 rfl rfl
theorem fl_Mo_150 : gFl "ProofGateModel" 150 "ProofGateModel" "about" "I" := Or.inl ff_Mo_150
theorem ac_boolean : Cond.arrayClass .boolean ∈ TB := tb4 228 rfl rfl
theorem ml_Lw_50 : gMl "ProofGateLaw" 50 y_Mo_thrown := Or.inl (tb4 229 rfl rfl)
theorem ml_Lw_103 : gMl "ProofGateLaw" 103 y_Mo_fuse := Or.inl (tb4 233 rfl rfl)
theorem ml_Mo_106 : gMl "ProofGateModel" 106 y_Mo_in := Or.inl (tb4 237 rfl rfl)
theorem ml_Lw_45 : gMl "ProofGateLaw" 45 y_Mo_seal := Or.inl (tb5 0 rfl rfl)
theorem ml_Mo_111 : gMl "ProofGateModel" 111 y_Mo_mix := Or.inl (tb5 4 rfl rfl)
theorem ct_Mo_110 : Cond.constant "ProofGateModel" 110 (1540483477) ∈ TB := tb5 7 rfl rfl
theorem ct_Mo_115 : Cond.constant "ProofGateModel" 115 (668265263) ∈ TB := tb5 8 rfl rfl
theorem ml_Lw_58 : gMl "ProofGateLaw" 58 y_Mo_set := Or.inl (tb5 9 rfl rfl)
theorem ml_Lw_49 : gMl "ProofGateLaw" 49 y_Mo_submit := Or.inl (tb5 13 rfl rfl)
theorem ml_Mo_116 : gMl "ProofGateModel" 116 y_Mo_isPerson := Or.inl (tb5 17 rfl rfl)
theorem ml_Mo_123 : gMl "ProofGateModel" 123 y_Mo_isFit := Or.inl (tb5 20 rfl rfl)
theorem ml_Mo_120 : gMl "ProofGateModel" 120 y_Mo_isRight := Or.inl (tb5 24 rfl rfl)
theorem ml_Mo_126 : gMl "ProofGateModel" 126 y_Mo_fails := Or.inl (tb5 27 rfl rfl)
theorem ml_Mo_130 : gMl "ProofGateModel" 130 y_Mo_seal := Or.inl (tb5 31 rfl rfl)
theorem ml_Mo_137 : gMl "ProofGateModel" 137 y_Mo_recorded := Or.inl (tb5 32 rfl rfl)
theorem ml_Lw_62 : gMl "ProofGateLaw" 62 y_Mo_revoke := Or.inl (tb5 36 rfl rfl)
theorem ml_Lw_72 : gMl "ProofGateLaw" 72 y_Mo_step := Or.inl (tb5 40 rfl rfl)
theorem ml_Lw_76 : gMl "ProofGateLaw" 76 y_Mo_clear := Or.inl (tb5 44 rfl rfl)
theorem ml_Lw_80 : gMl "ProofGateLaw" 80 y_Mo_steps := Or.inl (tb5 48 rfl rfl)
theorem ml_Lw_85 : gMl "ProofGateLaw" 85 y_Mo_stepAt := Or.inl (tb5 52 rfl rfl)
theorem ml_Lw_89 : gMl "ProofGateLaw" 89 y_Mo_prove := Or.inl (tb5 56 rfl rfl)
theorem ml_Mo_213 : gMl "ProofGateModel" 213 y_Mo_isGoal := Or.inl (tb5 60 rfl rfl)
theorem ml_Mo_216 : gMl "ProofGateModel" 216 y_Mo_sayer := Or.inl (tb5 64 rfl rfl)
theorem ml_Mo_153 : gMl "ProofGateModel" 153 y_Mo_may := Or.inl (tb5 68 rfl rfl)
theorem ml_Mo_219 : gMl "ProofGateModel" 219 y_Mo_proof := Or.inl (tb5 71 rfl rfl)
theorem ml_Mo_181 : gMl "ProofGateModel" 181 y_Mo_said := Or.inl (tb5 75 rfl rfl)
theorem ml_Mo_147 : gMl "ProofGateModel" 147 y_Mo_holds := Or.inl (tb5 79 rfl rfl)
theorem ml_Mo_157 : gMl "ProofGateModel" 157 y_Mo_speaks := Or.inl (tb5 83 rfl rfl)
theorem ml_Mo_160 : gMl "ProofGateModel" 160 y_Mo_trusts := Or.inl (tb5 86 rfl rfl)
theorem ml_Mo_164 : gMl "ProofGateModel" 164 y_Mo_finds := Or.inl (tb5 89 rfl rfl)
theorem ml_Mo_184 : gMl "ProofGateModel" 184 y_Mo_goesOn := Or.inl (tb5 93 rfl rfl)
theorem ml_Mo_171 : gMl "ProofGateModel" 171 y_Mo_newMay := Or.inl (tb5 97 rfl rfl)
theorem ml_Mo_168 : gMl "ProofGateModel" 168 y_Mo_had := Or.inl (tb5 101 rfl rfl)
theorem ml_Mo_174 : gMl "ProofGateModel" 174 y_Mo_newTrust := Or.inl (tb5 105 rfl rfl)
theorem ml_Mo_177 : gMl "ProofGateModel" 177 y_Mo_newVoice := Or.inl (tb5 109 rfl rfl)
theorem ml_Mo_190 : gMl "ProofGateModel" 190 y_Mo_needed := Or.inl (tb5 113 rfl rfl)
theorem ml_Mo_193 : gMl "ProofGateModel" 193 y_Mo_note := Or.inl (tb5 117 rfl rfl)
theorem ml_Lw_94 : gMl "ProofGateLaw" 94 y_Mo_check := Or.inl (tb5 121 rfl rfl)
theorem ml_Mo_222 : gMl "ProofGateModel" 222 y_Mo_proves := Or.inl (tb5 125 rfl rfl)
theorem ml_Mo_210 : gMl "ProofGateModel" 210 y_Mo_proved := Or.inl (tb5 129 rfl rfl)
theorem ml_Mo_197 : gMl "ProofGateModel" 197 y_Mo_spoken := Or.inl (tb5 133 rfl rfl)
theorem ml_Mo_206 : gMl "ProofGateModel" 206 y_Mo_fact := Or.inl (tb5 137 rfl rfl)
theorem ml_Mo_200 : gMl "ProofGateModel" 200 y_Mo_stepFact := Or.inl (tb5 140 rfl rfl)
theorem ml_Mo_203 : gMl "ProofGateModel" 203 y_Mo_item := Or.inl (tb5 144 rfl rfl)
theorem ml_Lw_98 : gMl "ProofGateLaw" 98 y_Mo_request := Or.inl (tb5 147 rfl rfl)
theorem ml_Mo_231 : gMl "ProofGateModel" 231 y_Mo_done := Or.inl (tb5 151 rfl rfl)
theorem ml_Lw_67 : gMl "ProofGateLaw" 67 y_Mo_pass := Or.inl (tb5 155 rfl rfl)
theorem ml_Lw_107 : gMl "ProofGateLaw" 107 y_Mo_owner := Or.inl (tb5 159 rfl rfl)
theorem ml_Lw_111 : gMl "ProofGateLaw" 111 y_Mo_credentials := Or.inl (tb5 163 rfl rfl)
theorem ml_Lw_115 : gMl "ProofGateLaw" 115 y_Mo_valid := Or.inl (tb5 167 rfl rfl)
theorem ml_Lw_119 : gMl "ProofGateLaw" 119 y_Mo_grants := Or.inl (tb5 171 rfl rfl)
theorem ml_Lw_123 : gMl "ProofGateLaw" 123 y_Mo_chain := Or.inl (tb5 175 rfl rfl)
theorem ac_long : Cond.arrayClass .long ∈ TB := tb5 179 rfl rfl
