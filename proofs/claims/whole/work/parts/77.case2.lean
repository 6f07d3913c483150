
set_option maxRecDepth 100000 in
set_option maxHeartbeats 4000000 in
theorem cs_16 {l : Launch} {G : GG} {nm : String} {σ τ : ST} {b : Nat → Nat} {ce sl i : Nat} (hl : l.stackTraces = false) (hi : i + 5 ≤ G.2.2.2.2.2.2.1) (hL : G.2.2.2.2.2.2.1 ≤ 2560) (hv : INV σ b) (hc : ce + 1 ≤ 601024 ∧ sl + 6 ≤ 7293033) (kt : ∀ (σ' τ' : ST) (b' : Nat → Nat), INV σ' b' → LW l G nm 1774 (L0 i) [] σ' τ' (PB b') (ce + 1) (sl + 6)) : LW l G nm 1046 (L0 i) [] σ τ (PB b) ce sl := by
  refine rL_aload_n dL_law_1046 rfl (by rfl) ?_
  refine rL_aload_n dL_law_1047 rfl (by rfl) ?_
  refine rL_iload dL_law_1048 (by rfl) ?_
  refine rL_iconst dL_law_1050 ?_
  refine rL_iadd dL_law_1051 ?_
  refine rL_sald (j := i + 1) dL_law_1052 (by omega) (by omega) (by omega) ?_
  refine rL_aload_n dL_law_1053 rfl (by rfl) ?_
  refine rL_iload dL_law_1054 (by rfl) ?_
  refine rL_iconst dL_law_1056 ?_
  refine rL_iadd dL_law_1057 ?_
  refine rL_sald (j := i + 2) dL_law_1058 (by omega) (by omega) (by omega) ?_
  refine rL_aload_n dL_law_1059 rfl (by rfl) ?_
  refine rL_iload dL_law_1060 (by rfl) ?_
  refine rL_iconst dL_law_1062 ?_
  refine rL_iadd dL_law_1063 ?_
  refine rL_sald (j := i + 3) dL_law_1064 (by omega) (by omega) (by omega) ?_
  refine rL_aload_n dL_law_1065 rfl (by rfl) ?_
  refine rL_callH (As := [.ref 0, .int (iI (G.2.2.2.2.2.2.2 (i + 1)).toInt), .int (iI (G.2.2.2.2.2.2.2 (i + 2)).toInt), .int (iI (G.2.2.2.2.2.2.2 (i + 3)).toInt), .ref 116]) (S := []) (w_read (ct_X5_read hl hv.1.ci ((G.2.2.2.2.2.2.2 (i + 1)).toInt) (inR_of _) ((G.2.2.2.2.2.2.2 (i + 2)).toInt) (inR_of _) ((G.2.2.2.2.2.2.2 (i + 3)).toInt) (inR_of _)) (by unfold er_read; (repeat' split) <;> omega)) fL_read rfl qL_153 dL_law_1066 ⟨Nat.le_of_ble_eq_true rfl, Nat.le_of_ble_eq_true rfl⟩ hc (Nat.le_of_ble_eq_true rfl) (fun h0 f => ?_) (fun h0 => ?_)
  · refine rL_istore dL_law_1069 (Nat.le_of_ble_eq_true rfl) (L' := [some (.ref 1000), some (.ref 0), some (.ref 110), some (.ref 116), some (.int (iI (i : Int))), some (.int (iI _)), none, none, none]) (by rfl) ?_
    refine rL_aload_n dL_law_1071 rfl (by rfl) ?_
    refine rL_aload_n dL_law_1072 rfl (by rfl) ?_
    refine rL_iload dL_law_1073 (by rfl) ?_
    refine rL_iconst dL_law_1075 ?_
    refine rL_iadd dL_law_1076 ?_
    refine rL_sald (j := i + 1) dL_law_1077 (by omega) (by omega) (by omega) ?_
    refine rL_aload_n dL_law_1078 rfl (by rfl) ?_
    refine rL_iload dL_law_1079 (by rfl) ?_
    refine rL_iconst dL_law_1081 ?_
    refine rL_iadd dL_law_1082 ?_
    refine rL_sald (j := i + 2) dL_law_1083 (by omega) (by omega) (by omega) ?_
    refine rL_aload_n dL_law_1084 rfl (by rfl) ?_
    refine rL_iload dL_law_1085 (by rfl) ?_
    refine rL_iconst dL_law_1087 ?_
    refine rL_iadd dL_law_1088 ?_
    refine rL_sald (j := i + 3) dL_law_1089 (by omega) (by omega) (by omega) ?_
    refine rL_callG3 (ct_X6_readR σ (lk_pre hv (fun q hq => sr_off _ _ hq)) ((G.2.2.2.2.2.2.2 (i + 1)).toInt) (inR_of _) ((G.2.2.2.2.2.2.2 (i + 2)).toInt) (inR_of _) ((G.2.2.2.2.2.2.2 (i + 3)).toInt) (inR_of _)) fX6_read qL_155 dL_law_1090 KD_110 ⟨Nat.le_of_ble_eq_true rfl, Nat.le_of_ble_eq_true rfl⟩ hc (Nat.le_of_ble_eq_true rfl) (fun μ hμ => ?_)
    refine rL_istore dL_law_1093 (Nat.le_of_ble_eq_true rfl) (L' := [some (.ref 1000), some (.ref 0), some (.ref 110), some (.ref 116), some (.int (iI (i : Int))), some (.int (iI _)), some (.int (iI _)), none, none]) (by rfl) ?_
    obtain ⟨hw, h1⟩ := lk_post hv (fun q hq => sr_off _ _ hq) hμ
    exact tl (T := 1095) dL_law_1095 dL_law_1096 dL_law_1099 dL_law_1101 dL_law_1106 dL_law_1108 dL_law_1111 dL_law_1112 dL_law_1113 dL_law_1114 dL_law_1116 dL_law_1117 dL_law_1118 dL_law_1123 (by rfl) h1 (cE_in _ _ _ _) (fun _ => by rw [if_pos h0, up2_at]) hc (kt _ _ _ hw)
  · refine rL_istore dL_law_1069 (Nat.le_of_ble_eq_true rfl) (L' := [some (.ref 1000), some (.ref 0), some (.ref 110), some (.ref 116), some (.int (iI (i : Int))), some (.int (iI _)), none, none, none]) (by rfl) ?_
    refine rL_aload_n dL_law_1071 rfl (by rfl) ?_
    refine rL_aload_n dL_law_1072 rfl (by rfl) ?_
    refine rL_iload dL_law_1073 (by rfl) ?_
    refine rL_iconst dL_law_1075 ?_
    refine rL_iadd dL_law_1076 ?_
    refine rL_sald (j := i + 1) dL_law_1077 (by omega) (by omega) (by omega) ?_
    refine rL_aload_n dL_law_1078 rfl (by rfl) ?_
    refine rL_iload dL_law_1079 (by rfl) ?_
    refine rL_iconst dL_law_1081 ?_
    refine rL_iadd dL_law_1082 ?_
    refine rL_sald (j := i + 2) dL_law_1083 (by omega) (by omega) (by omega) ?_
    refine rL_aload_n dL_law_1084 rfl (by rfl) ?_
    refine rL_iload dL_law_1085 (by rfl) ?_
    refine rL_iconst dL_law_1087 ?_
    refine rL_iadd dL_law_1088 ?_
    refine rL_sald (j := i + 3) dL_law_1089 (by omega) (by omega) (by omega) ?_
    refine rL_callG3 (ct_X6_readR σ (lk_pre hv (fun _ _ => rfl)) ((G.2.2.2.2.2.2.2 (i + 1)).toInt) (inR_of _) ((G.2.2.2.2.2.2.2 (i + 2)).toInt) (inR_of _) ((G.2.2.2.2.2.2.2 (i + 3)).toInt) (inR_of _)) fX6_read qL_155 dL_law_1090 KD_110 ⟨Nat.le_of_ble_eq_true rfl, Nat.le_of_ble_eq_true rfl⟩ hc (Nat.le_of_ble_eq_true rfl) (fun μ hμ => ?_)
    refine rL_istore dL_law_1093 (Nat.le_of_ble_eq_true rfl) (L' := [some (.ref 1000), some (.ref 0), some (.ref 110), some (.ref 116), some (.int (iI (i : Int))), some (.int (iI _)), some (.int (iI _)), none, none]) (by rfl) ?_
    obtain ⟨hw, h1⟩ := lk_post hv (fun _ _ => rfl) hμ
    exact tl (T := 1095) dL_law_1095 dL_law_1096 dL_law_1099 dL_law_1101 dL_law_1106 dL_law_1108 dL_law_1111 dL_law_1112 dL_law_1113 dL_law_1114 dL_law_1116 dL_law_1117 dL_law_1118 dL_law_1123 (by rfl) h1 (cE_in _ _ _ _) (fun z => absurd z (cE_ne h0)) hc (kt _ _ _ hw)
set_option maxRecDepth 100000 in
set_option maxHeartbeats 4000000 in
theorem cs_17 {l : Launch} {G : GG} {nm : String} {σ τ : ST} {b : Nat → Nat} {ce sl i : Nat} (hl : l.stackTraces = false) (hi : i + 5 ≤ G.2.2.2.2.2.2.1) (hL : G.2.2.2.2.2.2.1 ≤ 2560) (hv : INV σ b) (hc : ce + 1 ≤ 601024 ∧ sl + 6 ≤ 7293033) (kt : ∀ (σ' τ' : ST) (b' : Nat → Nat), INV σ' b' → LW l G nm 1774 (L0 i) [] σ' τ' (PB b') (ce + 1) (sl + 6)) : LW l G nm 1126 (L0 i) [] σ τ (PB b) ce sl := by
  refine rL_aload_n dL_law_1126 rfl (by rfl) ?_
  refine rL_aload_n dL_law_1127 rfl (by rfl) ?_
  refine rL_iload dL_law_1128 (by rfl) ?_
  refine rL_iconst dL_law_1130 ?_
  refine rL_iadd dL_law_1131 ?_
  refine rL_sald (j := i + 1) dL_law_1132 (by omega) (by omega) (by omega) ?_
  refine rL_aload_n dL_law_1133 rfl (by rfl) ?_
  refine rL_iload dL_law_1134 (by rfl) ?_
  refine rL_iconst dL_law_1136 ?_
  refine rL_iadd dL_law_1137 ?_
  refine rL_sald (j := i + 2) dL_law_1138 (by omega) (by omega) (by omega) ?_
  refine rL_aload_n dL_law_1139 rfl (by rfl) ?_
  refine rL_iload dL_law_1140 (by rfl) ?_
  refine rL_iconst dL_law_1142 ?_
  refine rL_iadd dL_law_1143 ?_
  refine rL_sald (j := i + 3) dL_law_1144 (by omega) (by omega) (by omega) ?_
  refine rL_aload_n dL_law_1145 rfl (by rfl) ?_
  refine rL_callH (As := [.ref 0, .int (iI (G.2.2.2.2.2.2.2 (i + 1)).toInt), .int (iI (G.2.2.2.2.2.2.2 (i + 2)).toInt), .int (iI (G.2.2.2.2.2.2.2 (i + 3)).toInt), .ref 116]) (S := []) (w_readAs (ct_X5_readAs hl hv.1.ci ((G.2.2.2.2.2.2.2 (i + 1)).toInt) (inR_of _) ((G.2.2.2.2.2.2.2 (i + 2)).toInt) (inR_of _) ((G.2.2.2.2.2.2.2 (i + 3)).toInt) (inR_of _)) (by unfold er_readAs; (repeat' split) <;> omega)) fL_readAs rfl qL_156 dL_law_1146 ⟨Nat.le_of_ble_eq_true rfl, Nat.le_of_ble_eq_true rfl⟩ hc (Nat.le_of_ble_eq_true rfl) (fun h0 f => ?_) (fun h0 => ?_)
  · refine rL_istore dL_law_1149 (Nat.le_of_ble_eq_true rfl) (L' := [some (.ref 1000), some (.ref 0), some (.ref 110), some (.ref 116), some (.int (iI (i : Int))), some (.int (iI _)), none, none, none]) (by rfl) ?_
    refine rL_aload_n dL_law_1151 rfl (by rfl) ?_
    refine rL_aload_n dL_law_1152 rfl (by rfl) ?_
    refine rL_iload dL_law_1153 (by rfl) ?_
    refine rL_iconst dL_law_1155 ?_
    refine rL_iadd dL_law_1156 ?_
    refine rL_sald (j := i + 1) dL_law_1157 (by omega) (by omega) (by omega) ?_
    refine rL_aload_n dL_law_1158 rfl (by rfl) ?_
    refine rL_iload dL_law_1159 (by rfl) ?_
    refine rL_iconst dL_law_1161 ?_
    refine rL_iadd dL_law_1162 ?_
    refine rL_sald (j := i + 2) dL_law_1163 (by omega) (by omega) (by omega) ?_
    refine rL_aload_n dL_law_1164 rfl (by rfl) ?_
    refine rL_iload dL_law_1165 (by rfl) ?_
    refine rL_iconst dL_law_1167 ?_
    refine rL_iadd dL_law_1168 ?_
    refine rL_sald (j := i + 3) dL_law_1169 (by omega) (by omega) (by omega) ?_
    refine rL_callG3 (ct_X6_readAsR σ (lk_pre hv (fun q hq => sr_off _ _ hq)) ((G.2.2.2.2.2.2.2 (i + 1)).toInt) (inR_of _) ((G.2.2.2.2.2.2.2 (i + 2)).toInt) (inR_of _) ((G.2.2.2.2.2.2.2 (i + 3)).toInt) (inR_of _)) fX6_readAs qL_158 dL_law_1170 KD_110 ⟨Nat.le_of_ble_eq_true rfl, Nat.le_of_ble_eq_true rfl⟩ hc (Nat.le_of_ble_eq_true rfl) (fun μ hμ => ?_)
    refine rL_istore dL_law_1173 (Nat.le_of_ble_eq_true rfl) (L' := [some (.ref 1000), some (.ref 0), some (.ref 110), some (.ref 116), some (.int (iI (i : Int))), some (.int (iI _)), some (.int (iI _)), none, none]) (by rfl) ?_
    obtain ⟨hw, h1⟩ := lk_post hv (fun q hq => sr_off _ _ hq) hμ
    exact tl (T := 1175) dL_law_1175 dL_law_1176 dL_law_1179 dL_law_1181 dL_law_1186 dL_law_1188 dL_law_1191 dL_law_1192 dL_law_1193 dL_law_1194 dL_law_1196 dL_law_1197 dL_law_1198 dL_law_1203 (by rfl) h1 (cE_in _ _ _ _) (fun _ => by rw [if_pos h0, up2_at]) hc (kt _ _ _ hw)
  · refine rL_istore dL_law_1149 (Nat.le_of_ble_eq_true rfl) (L' := [some (.ref 1000), some (.ref 0), some (.ref 110), some (.ref 116), some (.int (iI (i : Int))), some (.int (iI _)), none, none, none]) (by rfl) ?_
    refine rL_aload_n dL_law_1151 rfl (by rfl) ?_
    refine rL_aload_n dL_law_1152 rfl (by rfl) ?_
    refine rL_iload dL_law_1153 (by rfl) ?_
    refine rL_iconst dL_law_1155 ?_
    refine rL_iadd dL_law_1156 ?_
    refine rL_sald (j := i + 1) dL_law_1157 (by omega) (by omega) (by omega) ?_
    refine rL_aload_n dL_law_1158 rfl (by rfl) ?_
    refine rL_iload dL_law_1159 (by rfl) ?_
    refine rL_iconst dL_law_1161 ?_
    refine rL_iadd dL_law_1162 ?_
    refine rL_sald (j := i + 2) dL_law_1163 (by omega) (by omega) (by omega) ?_
    refine rL_aload_n dL_law_1164 rfl (by rfl) ?_
    refine rL_iload dL_law_1165 (by rfl) ?_
    refine rL_iconst dL_law_1167 ?_
    refine rL_iadd dL_law_1168 ?_
    refine rL_sald (j := i + 3) dL_law_1169 (by omega) (by omega) (by omega) ?_
    refine rL_callG3 (ct_X6_readAsR σ (lk_pre hv (fun _ _ => rfl)) ((G.2.2.2.2.2.2.2 (i + 1)).toInt) (inR_of _) ((G.2.2.2.2.2.2.2 (i + 2)).toInt) (inR_of _) ((G.2.2.2.2.2.2.2 (i + 3)).toInt) (inR_of _)) fX6_readAs qL_158 dL_law_1170 KD_110 ⟨Nat.le_of_ble_eq_true rfl, Nat.le_of_ble_eq_true rfl⟩ hc (Nat.le_of_ble_eq_true rfl) (fun μ hμ => ?_)
    refine rL_istore dL_law_1173 (Nat.le_of_ble_eq_true rfl) (L' := [some (.ref 1000), some (.ref 0), some (.ref 110), some (.ref 116), some (.int (iI (i : Int))), some (.int (iI _)), some (.int (iI _)), none, none]) (by rfl) ?_
    obtain ⟨hw, h1⟩ := lk_post hv (fun _ _ => rfl) hμ
    exact tl (T := 1175) dL_law_1175 dL_law_1176 dL_law_1179 dL_law_1181 dL_law_1186 dL_law_1188 dL_law_1191 dL_law_1192 dL_law_1193 dL_law_1194 dL_law_1196 dL_law_1197 dL_law_1198 dL_law_1203 (by rfl) h1 (cE_in _ _ _ _) (fun z => absurd z (cE_ne h0)) hc (kt _ _ _ hw)
set_option maxRecDepth 100000 in
set_option maxHeartbeats 4000000 in
theorem cs_18 {l : Launch} {G : GG} {nm : String} {σ τ : ST} {b : Nat → Nat} {ce sl i : Nat} (hl : l.stackTraces = false) (hi : i + 5 ≤ G.2.2.2.2.2.2.1) (hL : G.2.2.2.2.2.2.1 ≤ 2560) (hv : INV σ b) (hc : ce + 1 ≤ 601024 ∧ sl + 6 ≤ 7293033) (kt : ∀ (σ' τ' : ST) (b' : Nat → Nat), INV σ' b' → LW l G nm 1774 (L0 i) [] σ' τ' (PB b') (ce + 1) (sl + 6)) : LW l G nm 1206 (L0 i) [] σ τ (PB b) ce sl := by
  refine rL_aload_n dL_law_1206 rfl (by rfl) ?_
  refine rL_aload_n dL_law_1207 rfl (by rfl) ?_
  refine rL_iload dL_law_1208 (by rfl) ?_
  refine rL_iconst dL_law_1210 ?_
  refine rL_iadd dL_law_1211 ?_
  refine rL_sald (j := i + 1) dL_law_1212 (by omega) (by omega) (by omega) ?_
  refine rL_aload_n dL_law_1213 rfl (by rfl) ?_
  refine rL_iload dL_law_1214 (by rfl) ?_
  refine rL_iconst dL_law_1216 ?_
  refine rL_iadd dL_law_1217 ?_
  refine rL_sald (j := i + 2) dL_law_1218 (by omega) (by omega) (by omega) ?_
  refine rL_aload_n dL_law_1219 rfl (by rfl) ?_
  refine rL_iload dL_law_1220 (by rfl) ?_
  refine rL_iconst dL_law_1222 ?_
  refine rL_iadd dL_law_1223 ?_
  refine rL_sald (j := i + 3) dL_law_1224 (by omega) (by omega) (by omega) ?_
  refine rL_aload_n dL_law_1225 rfl (by rfl) ?_
  refine rL_callH (As := [.ref 0, .int (iI (G.2.2.2.2.2.2.2 (i + 1)).toInt), .int (iI (G.2.2.2.2.2.2.2 (i + 2)).toInt), .int (iI (G.2.2.2.2.2.2.2 (i + 3)).toInt), .ref 116]) (S := []) (w_column (ct_X5_column hl hv.1.ci ((G.2.2.2.2.2.2.2 (i + 1)).toInt) (inR_of _) ((G.2.2.2.2.2.2.2 (i + 2)).toInt) (inR_of _) ((G.2.2.2.2.2.2.2 (i + 3)).toInt) (inR_of _)) (by unfold er_column; (repeat' split) <;> omega)) fL_column rfl qL_159 dL_law_1226 ⟨Nat.le_of_ble_eq_true rfl, Nat.le_of_ble_eq_true rfl⟩ hc (Nat.le_of_ble_eq_true rfl) (fun h0 f => ?_) (fun h0 => ?_)
  · refine rL_istore dL_law_1229 (Nat.le_of_ble_eq_true rfl) (L' := [some (.ref 1000), some (.ref 0), some (.ref 110), some (.ref 116), some (.int (iI (i : Int))), some (.int (iI _)), none, none, none]) (by rfl) ?_
    refine rL_aload_n dL_law_1231 rfl (by rfl) ?_
    refine rL_aload_n dL_law_1232 rfl (by rfl) ?_
    refine rL_iload dL_law_1233 (by rfl) ?_
    refine rL_iconst dL_law_1235 ?_
    refine rL_iadd dL_law_1236 ?_
    refine rL_sald (j := i + 1) dL_law_1237 (by omega) (by omega) (by omega) ?_
    refine rL_aload_n dL_law_1238 rfl (by rfl) ?_
    refine rL_iload dL_law_1239 (by rfl) ?_
    refine rL_iconst dL_law_1241 ?_
    refine rL_iadd dL_law_1242 ?_
    refine rL_sald (j := i + 2) dL_law_1243 (by omega) (by omega) (by omega) ?_
    refine rL_aload_n dL_law_1244 rfl (by rfl) ?_
    refine rL_iload dL_law_1245 (by rfl) ?_
    refine rL_iconst dL_law_1247 ?_
    refine rL_iadd dL_law_1248 ?_
    refine rL_sald (j := i + 3) dL_law_1249 (by omega) (by omega) (by omega) ?_
    refine rL_callG3 (ct_X6_columnR σ (lk_pre hv (fun q hq => sr_off _ _ hq)) ((G.2.2.2.2.2.2.2 (i + 1)).toInt) (inR_of _) ((G.2.2.2.2.2.2.2 (i + 2)).toInt) (inR_of _) ((G.2.2.2.2.2.2.2 (i + 3)).toInt) (inR_of _)) fX6_column qL_161 dL_law_1250 KD_110 ⟨Nat.le_of_ble_eq_true rfl, Nat.le_of_ble_eq_true rfl⟩ hc (Nat.le_of_ble_eq_true rfl) (fun μ hμ => ?_)
    refine rL_istore dL_law_1253 (Nat.le_of_ble_eq_true rfl) (L' := [some (.ref 1000), some (.ref 0), some (.ref 110), some (.ref 116), some (.int (iI (i : Int))), some (.int (iI _)), some (.int (iI _)), none, none]) (by rfl) ?_
    obtain ⟨hw, h1⟩ := lk_post hv (fun q hq => sr_off _ _ hq) hμ
    exact tl (T := 1255) dL_law_1255 dL_law_1256 dL_law_1259 dL_law_1261 dL_law_1266 dL_law_1268 dL_law_1271 dL_law_1272 dL_law_1273 dL_law_1274 dL_law_1276 dL_law_1277 dL_law_1278 dL_law_1283 (by rfl) h1 (cE_in _ _ _ _) (fun _ => by rw [if_pos h0, up2_at]) hc (kt _ _ _ hw)
  · refine rL_istore dL_law_1229 (Nat.le_of_ble_eq_true rfl) (L' := [some (.ref 1000), some (.ref 0), some (.ref 110), some (.ref 116), some (.int (iI (i : Int))), some (.int (iI _)), none, none, none]) (by rfl) ?_
    refine rL_aload_n dL_law_1231 rfl (by rfl) ?_
    refine rL_aload_n dL_law_1232 rfl (by rfl) ?_
    refine rL_iload dL_law_1233 (by rfl) ?_
    refine rL_iconst dL_law_1235 ?_
    refine rL_iadd dL_law_1236 ?_
    refine rL_sald (j := i + 1) dL_law_1237 (by omega) (by omega) (by omega) ?_
    refine rL_aload_n dL_law_1238 rfl (by rfl) ?_
    refine rL_iload dL_law_1239 (by rfl) ?_
    refine rL_iconst dL_law_1241 ?_
    refine rL_iadd dL_law_1242 ?_
    refine rL_sald (j := i + 2) dL_law_1243 (by omega) (by omega) (by omega) ?_
    refine rL_aload_n dL_law_1244 rfl (by rfl) ?_
    refine rL_iload dL_law_1245 (by rfl) ?_
    refine rL_iconst dL_law_1247 ?_
    refine rL_iadd dL_law_1248 ?_
    refine rL_sald (j := i + 3) dL_law_1249 (by omega) (by omega) (by omega) ?_
    refine rL_callG3 (ct_X6_columnR σ (lk_pre hv (fun _ _ => rfl)) ((G.2.2.2.2.2.2.2 (i + 1)).toInt) (inR_of _) ((G.2.2.2.2.2.2.2 (i + 2)).toInt) (inR_of _) ((G.2.2.2.2.2.2.2 (i + 3)).toInt) (inR_of _)) fX6_column qL_161 dL_law_1250 KD_110 ⟨Nat.le_of_ble_eq_true rfl, Nat.le_of_ble_eq_true rfl⟩ hc (Nat.le_of_ble_eq_true rfl) (fun μ hμ => ?_)
    refine rL_istore dL_law_1253 (Nat.le_of_ble_eq_true rfl) (L' := [some (.ref 1000), some (.ref 0), some (.ref 110), some (.ref 116), some (.int (iI (i : Int))), some (.int (iI _)), some (.int (iI _)), none, none]) (by rfl) ?_
    obtain ⟨hw, h1⟩ := lk_post hv (fun _ _ => rfl) hμ
    exact tl (T := 1255) dL_law_1255 dL_law_1256 dL_law_1259 dL_law_1261 dL_law_1266 dL_law_1268 dL_law_1271 dL_law_1272 dL_law_1273 dL_law_1274 dL_law_1276 dL_law_1277 dL_law_1278 dL_law_1283 (by rfl) h1 (cE_in _ _ _ _) (fun z => absurd z (cE_ne h0)) hc (kt _ _ _ hw)
set_option maxRecDepth 100000 in
set_option maxHeartbeats 4000000 in
theorem cs_19 {l : Launch} {G : GG} {nm : String} {σ τ : ST} {b : Nat → Nat} {ce sl i : Nat} (hl : l.stackTraces = false) (hi : i + 5 ≤ G.2.2.2.2.2.2.1) (hL : G.2.2.2.2.2.2.1 ≤ 2560) (hv : INV σ b) (hc : ce + 1 ≤ 601024 ∧ sl + 6 ≤ 7293033) (kt : ∀ (σ' τ' : ST) (b' : Nat → Nat), INV σ' b' → LW l G nm 1774 (L0 i) [] σ' τ' (PB b') (ce + 1) (sl + 6)) : LW l G nm 1286 (L0 i) [] σ τ (PB b) ce sl := by
  refine rL_aload_n dL_law_1286 rfl (by rfl) ?_
  refine rL_aload_n dL_law_1287 rfl (by rfl) ?_
  refine rL_iload dL_law_1288 (by rfl) ?_
  refine rL_iconst dL_law_1290 ?_
  refine rL_iadd dL_law_1291 ?_
  refine rL_sald (j := i + 1) dL_law_1292 (by omega) (by omega) (by omega) ?_
  refine rL_aload_n dL_law_1293 rfl (by rfl) ?_
  refine rL_iload dL_law_1294 (by rfl) ?_
  refine rL_iconst dL_law_1296 ?_
  refine rL_iadd dL_law_1297 ?_
  refine rL_sald (j := i + 2) dL_law_1298 (by omega) (by omega) (by omega) ?_
  refine rL_aload_n dL_law_1299 rfl (by rfl) ?_
  refine rL_callH (As := [.ref 0, .int (iI (G.2.2.2.2.2.2.2 (i + 1)).toInt), .int (iI (G.2.2.2.2.2.2.2 (i + 2)).toInt), .ref 116]) (S := []) (w_shape (ct_X5_shape hl hv.1.ci ((G.2.2.2.2.2.2.2 (i + 1)).toInt) (inR_of _) ((G.2.2.2.2.2.2.2 (i + 2)).toInt) (inR_of _)) (by unfold er_shape; (repeat' split) <;> omega)) fL_shape rfl qL_162 dL_law_1300 ⟨Nat.le_of_ble_eq_true rfl, Nat.le_of_ble_eq_true rfl⟩ hc (Nat.le_of_ble_eq_true rfl) (fun h0 f => ?_) (fun h0 => ?_)
  · refine rL_istore dL_law_1303 (Nat.le_of_ble_eq_true rfl) (L' := [some (.ref 1000), some (.ref 0), some (.ref 110), some (.ref 116), some (.int (iI (i : Int))), some (.int (iI _)), none, none, none]) (by rfl) ?_
    refine rL_aload_n dL_law_1305 rfl (by rfl) ?_
    refine rL_aload_n dL_law_1306 rfl (by rfl) ?_
    refine rL_iload dL_law_1307 (by rfl) ?_
    refine rL_iconst dL_law_1309 ?_
    refine rL_iadd dL_law_1310 ?_
    refine rL_sald (j := i + 1) dL_law_1311 (by omega) (by omega) (by omega) ?_
    refine rL_aload_n dL_law_1312 rfl (by rfl) ?_
    refine rL_iload dL_law_1313 (by rfl) ?_
    refine rL_iconst dL_law_1315 ?_
    refine rL_iadd dL_law_1316 ?_
    refine rL_sald (j := i + 2) dL_law_1317 (by omega) (by omega) (by omega) ?_
    refine rL_callG2 (ct_X6_shapeR σ (lk_pre hv (fun q hq => sr_off _ _ hq)) ((G.2.2.2.2.2.2.2 (i + 1)).toInt) (inR_of _) ((G.2.2.2.2.2.2.2 (i + 2)).toInt) (inR_of _)) fX6_shape qL_164 dL_law_1318 KD_110 ⟨Nat.le_of_ble_eq_true rfl, Nat.le_of_ble_eq_true rfl⟩ hc (Nat.le_of_ble_eq_true rfl) (fun μ hμ => ?_)
    refine rL_istore dL_law_1321 (Nat.le_of_ble_eq_true rfl) (L' := [some (.ref 1000), some (.ref 0), some (.ref 110), some (.ref 116), some (.int (iI (i : Int))), some (.int (iI _)), some (.int (iI _)), none, none]) (by rfl) ?_
    obtain ⟨hw, h1⟩ := lk_post hv (fun q hq => sr_off _ _ hq) hμ
    exact tl (T := 1323) dL_law_1323 dL_law_1324 dL_law_1327 dL_law_1329 dL_law_1334 dL_law_1336 dL_law_1339 dL_law_1340 dL_law_1341 dL_law_1342 dL_law_1344 dL_law_1345 dL_law_1346 dL_law_1351 (by rfl) h1 (cE_in _ _ _ _) (fun _ => by rw [if_pos h0, up2_at]) hc (kt _ _ _ hw)
  · refine rL_istore dL_law_1303 (Nat.le_of_ble_eq_true rfl) (L' := [some (.ref 1000), some (.ref 0), some (.ref 110), some (.ref 116), some (.int (iI (i : Int))), some (.int (iI _)), none, none, none]) (by rfl) ?_
    refine rL_aload_n dL_law_1305 rfl (by rfl) ?_
    refine rL_aload_n dL_law_1306 rfl (by rfl) ?_
    refine rL_iload dL_law_1307 (by rfl) ?_
    refine rL_iconst dL_law_1309 ?_
    refine rL_iadd dL_law_1310 ?_
    refine rL_sald (j := i + 1) dL_law_1311 (by omega) (by omega) (by omega) ?_
    refine rL_aload_n dL_law_1312 rfl (by rfl) ?_
    refine rL_iload dL_law_1313 (by rfl) ?_
    refine rL_iconst dL_law_1315 ?_
    refine rL_iadd dL_law_1316 ?_
    refine rL_sald (j := i + 2) dL_law_1317 (by omega) (by omega) (by omega) ?_
    refine rL_callG2 (ct_X6_shapeR σ (lk_pre hv (fun _ _ => rfl)) ((G.2.2.2.2.2.2.2 (i + 1)).toInt) (inR_of _) ((G.2.2.2.2.2.2.2 (i + 2)).toInt) (inR_of _)) fX6_shape qL_164 dL_law_1318 KD_110 ⟨Nat.le_of_ble_eq_true rfl, Nat.le_of_ble_eq_true rfl⟩ hc (Nat.le_of_ble_eq_true rfl) (fun μ hμ => ?_)
    refine rL_istore dL_law_1321 (Nat.le_of_ble_eq_true rfl) (L' := [some (.ref 1000), some (.ref 0), some (.ref 110), some (.ref 116), some (.int (iI (i : Int))), some (.int (iI _)), some (.int (iI _)), none, none]) (by rfl) ?_
    obtain ⟨hw, h1⟩ := lk_post hv (fun _ _ => rfl) hμ
    exact tl (T := 1323) dL_law_1323 dL_law_1324 dL_law_1327 dL_law_1329 dL_law_1334 dL_law_1336 dL_law_1339 dL_law_1340 dL_law_1341 dL_law_1342 dL_law_1344 dL_law_1345 dL_law_1346 dL_law_1351 (by rfl) h1 (cE_in _ _ _ _) (fun z => absurd z (cE_ne h0)) hc (kt _ _ _ hw)
set_option maxRecDepth 100000 in
set_option maxHeartbeats 4000000 in
theorem cs_20 {l : Launch} {G : GG} {nm : String} {σ τ : ST} {b : Nat → Nat} {ce sl i : Nat} (hl : l.stackTraces = false) (hi : i + 5 ≤ G.2.2.2.2.2.2.1) (hL : G.2.2.2.2.2.2.1 ≤ 2560) (hv : INV σ b) (hc : ce + 1 ≤ 601024 ∧ sl + 6 ≤ 7293033) (kt : ∀ (σ' τ' : ST) (b' : Nat → Nat), INV σ' b' → LW l G nm 1774 (L0 i) [] σ' τ' (PB b') (ce + 1) (sl + 6)) : LW l G nm 1354 (L0 i) [] σ τ (PB b) ce sl := by
  refine rL_aload_n dL_law_1354 rfl (by rfl) ?_
  refine rL_aload_n dL_law_1355 rfl (by rfl) ?_
  refine rL_iload dL_law_1356 (by rfl) ?_
  refine rL_iconst dL_law_1358 ?_
  refine rL_iadd dL_law_1359 ?_
  refine rL_sald (j := i + 1) dL_law_1360 (by omega) (by omega) (by omega) ?_
  refine rL_aload_n dL_law_1361 rfl (by rfl) ?_
  refine rL_iload dL_law_1362 (by rfl) ?_
  refine rL_iconst dL_law_1364 ?_
  refine rL_iadd dL_law_1365 ?_
  refine rL_sald (j := i + 2) dL_law_1366 (by omega) (by omega) (by omega) ?_
  refine rL_aload_n dL_law_1367 rfl (by rfl) ?_
  refine rL_callH (As := [.ref 0, .int (iI (G.2.2.2.2.2.2.2 (i + 1)).toInt), .int (iI (G.2.2.2.2.2.2.2 (i + 2)).toInt), .ref 116]) (S := []) (w_row (ct_X5_row hl hv.1.ci ((G.2.2.2.2.2.2.2 (i + 1)).toInt) (inR_of _) ((G.2.2.2.2.2.2.2 (i + 2)).toInt) (inR_of _)) (by unfold er_row; (repeat' split) <;> omega)) fL_row rfl qL_165 dL_law_1368 ⟨Nat.le_of_ble_eq_true rfl, Nat.le_of_ble_eq_true rfl⟩ hc (Nat.le_of_ble_eq_true rfl) (fun h0 f => ?_) (fun h0 => ?_)
  · refine rL_istore dL_law_1371 (Nat.le_of_ble_eq_true rfl) (L' := [some (.ref 1000), some (.ref 0), some (.ref 110), some (.ref 116), some (.int (iI (i : Int))), some (.int (iI _)), none, none, none]) (by rfl) ?_
    refine rL_aload_n dL_law_1373 rfl (by rfl) ?_
    refine rL_aload_n dL_law_1374 rfl (by rfl) ?_
    refine rL_iload dL_law_1375 (by rfl) ?_
    refine rL_iconst dL_law_1377 ?_
    refine rL_iadd dL_law_1378 ?_
    refine rL_sald (j := i + 1) dL_law_1379 (by omega) (by omega) (by omega) ?_
    refine rL_aload_n dL_law_1380 rfl (by rfl) ?_
    refine rL_iload dL_law_1381 (by rfl) ?_
    refine rL_iconst dL_law_1383 ?_
    refine rL_iadd dL_law_1384 ?_
    refine rL_sald (j := i + 2) dL_law_1385 (by omega) (by omega) (by omega) ?_
    refine rL_callG2 (ct_X6_rowR σ (lk_pre hv (fun q hq => sr_off _ _ hq)) ((G.2.2.2.2.2.2.2 (i + 1)).toInt) (inR_of _) ((G.2.2.2.2.2.2.2 (i + 2)).toInt) (inR_of _)) fX6_row qL_167 dL_law_1386 KD_110 ⟨Nat.le_of_ble_eq_true rfl, Nat.le_of_ble_eq_true rfl⟩ hc (Nat.le_of_ble_eq_true rfl) (fun μ hμ => ?_)
    refine rL_istore dL_law_1389 (Nat.le_of_ble_eq_true rfl) (L' := [some (.ref 1000), some (.ref 0), some (.ref 110), some (.ref 116), some (.int (iI (i : Int))), some (.int (iI _)), some (.int (iI _)), none, none]) (by rfl) ?_
    obtain ⟨hw, h1⟩ := lk_post hv (fun q hq => sr_off _ _ hq) hμ
    exact tl (T := 1391) dL_law_1391 dL_law_1392 dL_law_1395 dL_law_1397 dL_law_1402 dL_law_1404 dL_law_1407 dL_law_1408 dL_law_1409 dL_law_1410 dL_law_1412 dL_law_1413 dL_law_1414 dL_law_1419 (by rfl) h1 (cE_in _ _ _ _) (fun _ => by rw [if_pos h0, up2_at]) hc (kt _ _ _ hw)
  · refine rL_istore dL_law_1371 (Nat.le_of_ble_eq_true rfl) (L' := [some (.ref 1000), some (.ref 0), some (.ref 110), some (.ref 116), some (.int (iI (i : Int))), some (.int (iI _)), none, none, none]) (by rfl) ?_
    refine rL_aload_n dL_law_1373 rfl (by rfl) ?_
    refine rL_aload_n dL_law_1374 rfl (by rfl) ?_
    refine rL_iload dL_law_1375 (by rfl) ?_
    refine rL_iconst dL_law_1377 ?_
    refine rL_iadd dL_law_1378 ?_
    refine rL_sald (j := i + 1) dL_law_1379 (by omega) (by omega) (by omega) ?_
    refine rL_aload_n dL_law_1380 rfl (by rfl) ?_
    refine rL_iload dL_law_1381 (by rfl) ?_
    refine rL_iconst dL_law_1383 ?_
    refine rL_iadd dL_law_1384 ?_
    refine rL_sald (j := i + 2) dL_law_1385 (by omega) (by omega) (by omega) ?_
    refine rL_callG2 (ct_X6_rowR σ (lk_pre hv (fun _ _ => rfl)) ((G.2.2.2.2.2.2.2 (i + 1)).toInt) (inR_of _) ((G.2.2.2.2.2.2.2 (i + 2)).toInt) (inR_of _)) fX6_row qL_167 dL_law_1386 KD_110 ⟨Nat.le_of_ble_eq_true rfl, Nat.le_of_ble_eq_true rfl⟩ hc (Nat.le_of_ble_eq_true rfl) (fun μ hμ => ?_)
    refine rL_istore dL_law_1389 (Nat.le_of_ble_eq_true rfl) (L' := [some (.ref 1000), some (.ref 0), some (.ref 110), some (.ref 116), some (.int (iI (i : Int))), some (.int (iI _)), some (.int (iI _)), none, none]) (by rfl) ?_
    obtain ⟨hw, h1⟩ := lk_post hv (fun _ _ => rfl) hμ
    exact tl (T := 1391) dL_law_1391 dL_law_1392 dL_law_1395 dL_law_1397 dL_law_1402 dL_law_1404 dL_law_1407 dL_law_1408 dL_law_1409 dL_law_1410 dL_law_1412 dL_law_1413 dL_law_1414 dL_law_1419 (by rfl) h1 (cE_in _ _ _ _) (fun z => absurd z (cE_ne h0)) hc (kt _ _ _ hw)
set_option maxRecDepth 100000 in
set_option maxHeartbeats 4000000 in
theorem cs_21 {l : Launch} {G : GG} {nm : String} {σ τ : ST} {b : Nat → Nat} {ce sl i : Nat} (hl : l.stackTraces = false) (hi : i + 5 ≤ G.2.2.2.2.2.2.1) (hL : G.2.2.2.2.2.2.1 ≤ 2560) (hv : INV σ b) (hc : ce + 1 ≤ 601024 ∧ sl + 6 ≤ 7293033) (kt : ∀ (σ' τ' : ST) (b' : Nat → Nat), INV σ' b' → LW l G nm 1774 (L0 i) [] σ' τ' (PB b') (ce + 1) (sl + 6)) : LW l G nm 1422 (L0 i) [] σ τ (PB b) ce sl := by
  refine rL_aload_n dL_law_1422 rfl (by rfl) ?_
  refine rL_aload_n dL_law_1423 rfl (by rfl) ?_
  refine rL_iload dL_law_1424 (by rfl) ?_
  refine rL_iconst dL_law_1426 ?_
  refine rL_iadd dL_law_1427 ?_
  refine rL_sald (j := i + 1) dL_law_1428 (by omega) (by omega) (by omega) ?_
  refine rL_aload_n dL_law_1429 rfl (by rfl) ?_
  refine rL_callH (As := [.ref 0, .int (iI (G.2.2.2.2.2.2.2 (i + 1)).toInt), .ref 116]) (S := []) (w_count (ct_X5_count hl hv.1.ci ((G.2.2.2.2.2.2.2 (i + 1)).toInt) (inR_of _)) (by unfold er_count; (repeat' split) <;> omega)) fL_count rfl qL_168 dL_law_1430 ⟨Nat.le_of_ble_eq_true rfl, Nat.le_of_ble_eq_true rfl⟩ hc (Nat.le_of_ble_eq_true rfl) (fun h0 f => ?_) (fun h0 => ?_)
  · refine rL_istore dL_law_1433 (Nat.le_of_ble_eq_true rfl) (L' := [some (.ref 1000), some (.ref 0), some (.ref 110), some (.ref 116), some (.int (iI (i : Int))), some (.int (iI _)), none, none, none]) (by rfl) ?_
    refine rL_aload_n dL_law_1435 rfl (by rfl) ?_
    refine rL_aload_n dL_law_1436 rfl (by rfl) ?_
    refine rL_iload dL_law_1437 (by rfl) ?_
    refine rL_iconst dL_law_1439 ?_
    refine rL_iadd dL_law_1440 ?_
    refine rL_sald (j := i + 1) dL_law_1441 (by omega) (by omega) (by omega) ?_
    refine rL_callG1 (ct_X6_countR σ (lk_pre hv (fun q hq => sr_off _ _ hq)) (by rw [sr_off _ _ (by omega)]; exact hv.2.2.2.2.2.1) ((G.2.2.2.2.2.2.2 (i + 1)).toInt) (inR_of _)) fX6_count qL_170 dL_law_1442 KD_110 ⟨Nat.le_of_ble_eq_true rfl, Nat.le_of_ble_eq_true rfl⟩ hc (Nat.le_of_ble_eq_true rfl) (fun μ hμ => ?_)
    refine rL_istore dL_law_1445 (Nat.le_of_ble_eq_true rfl) (L' := [some (.ref 1000), some (.ref 0), some (.ref 110), some (.ref 116), some (.int (iI (i : Int))), some (.int (iI _)), some (.int (iI _)), none, none]) (by rfl) ?_
    obtain ⟨hw, h1⟩ := lk_post hv (fun q hq => sr_off _ _ hq) hμ
    exact tl (T := 1447) dL_law_1447 dL_law_1448 dL_law_1451 dL_law_1453 dL_law_1458 dL_law_1460 dL_law_1463 dL_law_1464 dL_law_1465 dL_law_1466 dL_law_1468 dL_law_1469 dL_law_1470 dL_law_1475 (by rfl) h1 (cE_in _ _ _ _) (fun _ => by rw [if_pos h0, up2_at]) hc (kt _ _ _ hw)
  · refine rL_istore dL_law_1433 (Nat.le_of_ble_eq_true rfl) (L' := [some (.ref 1000), some (.ref 0), some (.ref 110), some (.ref 116), some (.int (iI (i : Int))), some (.int (iI _)), none, none, none]) (by rfl) ?_
    refine rL_aload_n dL_law_1435 rfl (by rfl) ?_
    refine rL_aload_n dL_law_1436 rfl (by rfl) ?_
    refine rL_iload dL_law_1437 (by rfl) ?_
    refine rL_iconst dL_law_1439 ?_
    refine rL_iadd dL_law_1440 ?_
    refine rL_sald (j := i + 1) dL_law_1441 (by omega) (by omega) (by omega) ?_
    refine rL_callG1 (ct_X6_countR σ (lk_pre hv (fun _ _ => rfl)) hv.2.2.2.2.2.1 ((G.2.2.2.2.2.2.2 (i + 1)).toInt) (inR_of _)) fX6_count qL_170 dL_law_1442 KD_110 ⟨Nat.le_of_ble_eq_true rfl, Nat.le_of_ble_eq_true rfl⟩ hc (Nat.le_of_ble_eq_true rfl) (fun μ hμ => ?_)
    refine rL_istore dL_law_1445 (Nat.le_of_ble_eq_true rfl) (L' := [some (.ref 1000), some (.ref 0), some (.ref 110), some (.ref 116), some (.int (iI (i : Int))), some (.int (iI _)), some (.int (iI _)), none, none]) (by rfl) ?_
    obtain ⟨hw, h1⟩ := lk_post hv (fun _ _ => rfl) hμ
    exact tl (T := 1447) dL_law_1447 dL_law_1448 dL_law_1451 dL_law_1453 dL_law_1458 dL_law_1460 dL_law_1463 dL_law_1464 dL_law_1465 dL_law_1466 dL_law_1468 dL_law_1469 dL_law_1470 dL_law_1475 (by rfl) h1 (cE_in _ _ _ _) (fun z => absurd z (cE_ne h0)) hc (kt _ _ _ hw)
set_option maxRecDepth 100000 in
set_option maxHeartbeats 4000000 in
theorem cs_22 {l : Launch} {G : GG} {nm : String} {σ τ : ST} {b : Nat → Nat} {ce sl i : Nat} (hl : l.stackTraces = false) (hi : i + 5 ≤ G.2.2.2.2.2.2.1) (hL : G.2.2.2.2.2.2.1 ≤ 2560) (hv : INV σ b) (hc : ce + 1 ≤ 601024 ∧ sl + 6 ≤ 7293033) (kt : ∀ (σ' τ' : ST) (b' : Nat → Nat), INV σ' b' → LW l G nm 1774 (L0 i) [] σ' τ' (PB b') (ce + 1) (sl + 6)) : LW l G nm 1478 (L0 i) [] σ τ (PB b) ce sl := by
  refine rL_aload_n dL_law_1478 rfl (by rfl) ?_
  refine rL_aload_n dL_law_1479 rfl (by rfl) ?_
  refine rL_iload dL_law_1480 (by rfl) ?_
  refine rL_iconst dL_law_1482 ?_
  refine rL_iadd dL_law_1483 ?_
  refine rL_sald (j := i + 1) dL_law_1484 (by omega) (by omega) (by omega) ?_
  refine rL_aload_n dL_law_1485 rfl (by rfl) ?_
  refine rL_iload dL_law_1486 (by rfl) ?_
  refine rL_iconst dL_law_1488 ?_
  refine rL_iadd dL_law_1489 ?_
  refine rL_sald (j := i + 2) dL_law_1490 (by omega) (by omega) (by omega) ?_
  refine rL_aload_n dL_law_1491 rfl (by rfl) ?_
  refine rL_callH (As := [.ref 0, .int (iI (G.2.2.2.2.2.2.2 (i + 1)).toInt), .int (iI (G.2.2.2.2.2.2.2 (i + 2)).toInt), .ref 116]) (S := []) (w_lost (ct_X5_lost hl hv.1.ci ((G.2.2.2.2.2.2.2 (i + 1)).toInt) (inR_of _) ((G.2.2.2.2.2.2.2 (i + 2)).toInt) (inR_of _)) (by unfold er_lost; (repeat' split) <;> omega)) fL_lost rfl qL_171 dL_law_1492 ⟨Nat.le_of_ble_eq_true rfl, Nat.le_of_ble_eq_true rfl⟩ hc (Nat.le_of_ble_eq_true rfl) (fun h0 f => ?_) (fun h0 => ?_)
  · refine rL_istore dL_law_1495 (Nat.le_of_ble_eq_true rfl) (L' := [some (.ref 1000), some (.ref 0), some (.ref 110), some (.ref 116), some (.int (iI (i : Int))), some (.int (iI _)), none, none, none]) (by rfl) ?_
    refine rL_aload_n dL_law_1497 rfl (by rfl) ?_
    refine rL_aload_n dL_law_1498 rfl (by rfl) ?_
    refine rL_iload dL_law_1499 (by rfl) ?_
    refine rL_iconst dL_law_1501 ?_
    refine rL_iadd dL_law_1502 ?_
    refine rL_sald (j := i + 1) dL_law_1503 (by omega) (by omega) (by omega) ?_
    refine rL_aload_n dL_law_1504 rfl (by rfl) ?_
    refine rL_iload dL_law_1505 (by rfl) ?_
    refine rL_iconst dL_law_1507 ?_
    refine rL_iadd dL_law_1508 ?_
    refine rL_sald (j := i + 2) dL_law_1509 (by omega) (by omega) (by omega) ?_
    refine rL_callG2 (ct_X6_lostR σ (lk_pre hv (fun q hq => sr_off _ _ hq)) ((G.2.2.2.2.2.2.2 (i + 1)).toInt) (inR_of _) ((G.2.2.2.2.2.2.2 (i + 2)).toInt) (inR_of _)) fX6_lost qL_173 dL_law_1510 KD_110 ⟨Nat.le_of_ble_eq_true rfl, Nat.le_of_ble_eq_true rfl⟩ hc (Nat.le_of_ble_eq_true rfl) (fun μ hμ => ?_)
    refine rL_istore dL_law_1513 (Nat.le_of_ble_eq_true rfl) (L' := [some (.ref 1000), some (.ref 0), some (.ref 110), some (.ref 116), some (.int (iI (i : Int))), some (.int (iI _)), some (.int (iI _)), none, none]) (by rfl) ?_
    obtain ⟨hw, h1⟩ := lk_post hv (fun q hq => sr_off _ _ hq) hμ
    exact tl (T := 1515) dL_law_1515 dL_law_1516 dL_law_1519 dL_law_1521 dL_law_1526 dL_law_1528 dL_law_1531 dL_law_1532 dL_law_1533 dL_law_1534 dL_law_1536 dL_law_1537 dL_law_1538 dL_law_1543 (by rfl) h1 (cE_in _ _ _ _) (fun _ => by rw [if_pos h0, up2_at]) hc (kt _ _ _ hw)
  · refine rL_istore dL_law_1495 (Nat.le_of_ble_eq_true rfl) (L' := [some (.ref 1000), some (.ref 0), some (.ref 110), some (.ref 116), some (.int (iI (i : Int))), some (.int (iI _)), none, none, none]) (by rfl) ?_
    refine rL_aload_n dL_law_1497 rfl (by rfl) ?_
    refine rL_aload_n dL_law_1498 rfl (by rfl) ?_
    refine rL_iload dL_law_1499 (by rfl) ?_
    refine rL_iconst dL_law_1501 ?_
    refine rL_iadd dL_law_1502 ?_
    refine rL_sald (j := i + 1) dL_law_1503 (by omega) (by omega) (by omega) ?_
    refine rL_aload_n dL_law_1504 rfl (by rfl) ?_
    refine rL_iload dL_law_1505 (by rfl) ?_
    refine rL_iconst dL_law_1507 ?_
    refine rL_iadd dL_law_1508 ?_
    refine rL_sald (j := i + 2) dL_law_1509 (by omega) (by omega) (by omega) ?_
    refine rL_callG2 (ct_X6_lostR σ (lk_pre hv (fun _ _ => rfl)) ((G.2.2.2.2.2.2.2 (i + 1)).toInt) (inR_of _) ((G.2.2.2.2.2.2.2 (i + 2)).toInt) (inR_of _)) fX6_lost qL_173 dL_law_1510 KD_110 ⟨Nat.le_of_ble_eq_true rfl, Nat.le_of_ble_eq_true rfl⟩ hc (Nat.le_of_ble_eq_true rfl) (fun μ hμ => ?_)
    refine rL_istore dL_law_1513 (Nat.le_of_ble_eq_true rfl) (L' := [some (.ref 1000), some (.ref 0), some (.ref 110), some (.ref 116), some (.int (iI (i : Int))), some (.int (iI _)), some (.int (iI _)), none, none]) (by rfl) ?_
    obtain ⟨hw, h1⟩ := lk_post hv (fun _ _ => rfl) hμ
    exact tl (T := 1515) dL_law_1515 dL_law_1516 dL_law_1519 dL_law_1521 dL_law_1526 dL_law_1528 dL_law_1531 dL_law_1532 dL_law_1533 dL_law_1534 dL_law_1536 dL_law_1537 dL_law_1538 dL_law_1543 (by rfl) h1 (cE_in _ _ _ _) (fun z => absurd z (cE_ne h0)) hc (kt _ _ _ hw)
set_option maxRecDepth 100000 in
set_option maxHeartbeats 4000000 in
theorem cs_23 {l : Launch} {G : GG} {nm : String} {σ τ : ST} {b : Nat → Nat} {ce sl i : Nat} (hl : l.stackTraces = false) (hi : i + 5 ≤ G.2.2.2.2.2.2.1) (hL : G.2.2.2.2.2.2.1 ≤ 2560) (hv : INV σ b) (hc : ce + 1 ≤ 601024 ∧ sl + 6 ≤ 7293033) (kt : ∀ (σ' τ' : ST) (b' : Nat → Nat), INV σ' b' → LW l G nm 1774 (L0 i) [] σ' τ' (PB b') (ce + 1) (sl + 6)) : LW l G nm 1546 (L0 i) [] σ τ (PB b) ce sl := by
  refine rL_aload_n dL_law_1546 rfl (by rfl) ?_
  refine rL_aload_n dL_law_1547 rfl (by rfl) ?_
  refine rL_iload dL_law_1548 (by rfl) ?_
  refine rL_iconst dL_law_1550 ?_
  refine rL_iadd dL_law_1551 ?_
  refine rL_sald (j := i + 1) dL_law_1552 (by omega) (by omega) (by omega) ?_
  refine rL_aload_n dL_law_1553 rfl (by rfl) ?_
  refine rL_iload dL_law_1554 (by rfl) ?_
  refine rL_iconst dL_law_1556 ?_
  refine rL_iadd dL_law_1557 ?_
  refine rL_sald (j := i + 2) dL_law_1558 (by omega) (by omega) (by omega) ?_
  refine rL_aload_n dL_law_1559 rfl (by rfl) ?_
  refine rL_iload dL_law_1560 (by rfl) ?_
  refine rL_iconst dL_law_1562 ?_
  refine rL_iadd dL_law_1563 ?_
  refine rL_sald (j := i + 3) dL_law_1564 (by omega) (by omega) (by omega) ?_
  refine rL_aload_n dL_law_1565 rfl (by rfl) ?_
  refine rL_callH (As := [.ref 0, .int (iI (G.2.2.2.2.2.2.2 (i + 1)).toInt), .int (iI (G.2.2.2.2.2.2.2 (i + 2)).toInt), .int (iI (G.2.2.2.2.2.2.2 (i + 3)).toInt), .ref 116]) (S := []) (w_against (ct_X5_against hl hv.1.ci ((G.2.2.2.2.2.2.2 (i + 1)).toInt) (inR_of _) ((G.2.2.2.2.2.2.2 (i + 2)).toInt) (inR_of _) ((G.2.2.2.2.2.2.2 (i + 3)).toInt) (inR_of _)) (by unfold er_against; (repeat' split) <;> omega)) fL_against rfl qL_174 dL_law_1566 ⟨Nat.le_of_ble_eq_true rfl, Nat.le_of_ble_eq_true rfl⟩ hc (Nat.le_of_ble_eq_true rfl) (fun h0 f => ?_) (fun h0 => ?_)
  · refine rL_istore dL_law_1569 (Nat.le_of_ble_eq_true rfl) (L' := [some (.ref 1000), some (.ref 0), some (.ref 110), some (.ref 116), some (.int (iI (i : Int))), some (.int (iI _)), none, none, none]) (by rfl) ?_
    refine rL_aload_n dL_law_1571 rfl (by rfl) ?_
    refine rL_aload_n dL_law_1572 rfl (by rfl) ?_
    refine rL_iload dL_law_1573 (by rfl) ?_
    refine rL_iconst dL_law_1575 ?_
    refine rL_iadd dL_law_1576 ?_
    refine rL_sald (j := i + 1) dL_law_1577 (by omega) (by omega) (by omega) ?_
    refine rL_aload_n dL_law_1578 rfl (by rfl) ?_
    refine rL_iload dL_law_1579 (by rfl) ?_
    refine rL_iconst dL_law_1581 ?_
    refine rL_iadd dL_law_1582 ?_
    refine rL_sald (j := i + 2) dL_law_1583 (by omega) (by omega) (by omega) ?_
    refine rL_aload_n dL_law_1584 rfl (by rfl) ?_
    refine rL_iload dL_law_1585 (by rfl) ?_
    refine rL_iconst dL_law_1587 ?_
    refine rL_iadd dL_law_1588 ?_
    refine rL_sald (j := i + 3) dL_law_1589 (by omega) (by omega) (by omega) ?_
    refine rL_callG3 (ct_X6_againstR σ (lk_pre hv (fun q hq => sr_off _ _ hq)) ((G.2.2.2.2.2.2.2 (i + 1)).toInt) (inR_of _) ((G.2.2.2.2.2.2.2 (i + 2)).toInt) (inR_of _) ((G.2.2.2.2.2.2.2 (i + 3)).toInt) (inR_of _)) fX6_against qL_176 dL_law_1590 KD_110 ⟨Nat.le_of_ble_eq_true rfl, Nat.le_of_ble_eq_true rfl⟩ hc (Nat.le_of_ble_eq_true rfl) (fun μ hμ => ?_)
    refine rL_istore dL_law_1593 (Nat.le_of_ble_eq_true rfl) (L' := [some (.ref 1000), some (.ref 0), some (.ref 110), some (.ref 116), some (.int (iI (i : Int))), some (.int (iI _)), some (.int (iI _)), none, none]) (by rfl) ?_
    obtain ⟨hw, h1⟩ := lk_post hv (fun q hq => sr_off _ _ hq) hμ
    exact tl (T := 1595) dL_law_1595 dL_law_1596 dL_law_1599 dL_law_1601 dL_law_1606 dL_law_1608 dL_law_1611 dL_law_1612 dL_law_1613 dL_law_1614 dL_law_1616 dL_law_1617 dL_law_1618 dL_law_1623 (by rfl) h1 (cE_in _ _ _ _) (fun _ => by rw [if_pos h0, up2_at]) hc (kt _ _ _ hw)
  · refine rL_istore dL_law_1569 (Nat.le_of_ble_eq_true rfl) (L' := [some (.ref 1000), some (.ref 0), some (.ref 110), some (.ref 116), some (.int (iI (i : Int))), some (.int (iI _)), none, none, none]) (by rfl) ?_
    refine rL_aload_n dL_law_1571 rfl (by rfl) ?_
    refine rL_aload_n dL_law_1572 rfl (by rfl) ?_
    refine rL_iload dL_law_1573 (by rfl) ?_
    refine rL_iconst dL_law_1575 ?_
    refine rL_iadd dL_law_1576 ?_
    refine rL_sald (j := i + 1) dL_law_1577 (by omega) (by omega) (by omega) ?_
    refine rL_aload_n dL_law_1578 rfl (by rfl) ?_
    refine rL_iload dL_law_1579 (by rfl) ?_
    refine rL_iconst dL_law_1581 ?_
    refine rL_iadd dL_law_1582 ?_
    refine rL_sald (j := i + 2) dL_law_1583 (by omega) (by omega) (by omega) ?_
    refine rL_aload_n dL_law_1584 rfl (by rfl) ?_
    refine rL_iload dL_law_1585 (by rfl) ?_
    refine rL_iconst dL_law_1587 ?_
    refine rL_iadd dL_law_1588 ?_
    refine rL_sald (j := i + 3) dL_law_1589 (by omega) (by omega) (by omega) ?_
    refine rL_callG3 (ct_X6_againstR σ (lk_pre hv (fun _ _ => rfl)) ((G.2.2.2.2.2.2.2 (i + 1)).toInt) (inR_of _) ((G.2.2.2.2.2.2.2 (i + 2)).toInt) (inR_of _) ((G.2.2.2.2.2.2.2 (i + 3)).toInt) (inR_of _)) fX6_against qL_176 dL_law_1590 KD_110 ⟨Nat.le_of_ble_eq_true rfl, Nat.le_of_ble_eq_true rfl⟩ hc (Nat.le_of_ble_eq_true rfl) (fun μ hμ => ?_)
    refine rL_istore dL_law_1593 (Nat.le_of_ble_eq_true rfl) (L' := [some (.ref 1000), some (.ref 0), some (.ref 110), some (.ref 116), some (.int (iI (i : Int))), some (.int (iI _)), some (.int (iI _)), none, none]) (by rfl) ?_
    obtain ⟨hw, h1⟩ := lk_post hv (fun _ _ => rfl) hμ
    exact tl (T := 1595) dL_law_1595 dL_law_1596 dL_law_1599 dL_law_1601 dL_law_1606 dL_law_1608 dL_law_1611 dL_law_1612 dL_law_1613 dL_law_1614 dL_law_1616 dL_law_1617 dL_law_1618 dL_law_1623 (by rfl) h1 (cE_in _ _ _ _) (fun z => absurd z (cE_ne h0)) hc (kt _ _ _ hw)
set_option maxRecDepth 100000 in
set_option maxHeartbeats 4000000 in
theorem cs_25 {l : Launch} {G : GG} {nm : String} {σ τ : ST} {b : Nat → Nat} {ce sl i : Nat} (hl : l.stackTraces = false) (hi : i + 5 ≤ G.2.2.2.2.2.2.1) (hL : G.2.2.2.2.2.2.1 ≤ 2560) (hv : INV σ b) (hc : ce + 1 ≤ 601024 ∧ sl + 6 ≤ 7293033) (kt : ∀ (σ' τ' : ST) (b' : Nat → Nat), INV σ' b' → LW l G nm 1774 (L0 i) [] σ' τ' (PB b') (ce + 1) (sl + 6)) : LW l G nm 1639 (L0 i) [] σ τ (PB b) ce sl := by
  refine rL_aload_n dL_law_1639 rfl (by rfl) ?_
  refine rL_aload_n dL_law_1640 rfl (by rfl) ?_
  refine rL_iload dL_law_1641 (by rfl) ?_
  refine rL_iconst dL_law_1643 ?_
  refine rL_iadd dL_law_1644 ?_
  refine rL_sald (j := i + 1) dL_law_1645 (by omega) (by omega) (by omega) ?_
  refine rL_aload_n dL_law_1646 rfl (by rfl) ?_
  refine rL_iload dL_law_1647 (by rfl) ?_
  refine rL_iconst dL_law_1649 ?_
  refine rL_iadd dL_law_1650 ?_
  refine rL_sald (j := i + 2) dL_law_1651 (by omega) (by omega) (by omega) ?_
  refine rL_aload_n dL_law_1652 rfl (by rfl) ?_
  refine rL_iload dL_law_1653 (by rfl) ?_
  refine rL_iconst dL_law_1655 ?_
  refine rL_iadd dL_law_1656 ?_
  refine rL_sald (j := i + 3) dL_law_1657 (by omega) (by omega) (by omega) ?_
  refine rL_aload_n dL_law_1658 rfl (by rfl) ?_
  refine rL_callH (As := [.ref 0, .int (iI (G.2.2.2.2.2.2.2 (i + 1)).toInt), .int (iI (G.2.2.2.2.2.2.2 (i + 2)).toInt), .int (iI (G.2.2.2.2.2.2.2 (i + 3)).toInt), .ref 116]) (S := []) (w_find (ct_X5_find hl hv.1.ci ((G.2.2.2.2.2.2.2 (i + 1)).toInt) (inR_of _) ((G.2.2.2.2.2.2.2 (i + 2)).toInt) (inR_of _) ((G.2.2.2.2.2.2.2 (i + 3)).toInt) (inR_of _)) (by unfold er_find; (repeat' split) <;> omega)) fL_find rfl qL_181 dL_law_1659 ⟨Nat.le_of_ble_eq_true rfl, Nat.le_of_ble_eq_true rfl⟩ hc (Nat.le_of_ble_eq_true rfl) (fun h0 f => ?_) (fun h0 => ?_)
  · refine rL_istore dL_law_1662 (Nat.le_of_ble_eq_true rfl) (L' := [some (.ref 1000), some (.ref 0), some (.ref 110), some (.ref 116), some (.int (iI (i : Int))), some (.int (iI _)), none, none, none]) (by rfl) ?_
    refine rL_aload_n dL_law_1664 rfl (by rfl) ?_
    refine rL_aload_n dL_law_1665 rfl (by rfl) ?_
    refine rL_iload dL_law_1666 (by rfl) ?_
    refine rL_iconst dL_law_1668 ?_
    refine rL_iadd dL_law_1669 ?_
    refine rL_sald (j := i + 1) dL_law_1670 (by omega) (by omega) (by omega) ?_
    refine rL_aload_n dL_law_1671 rfl (by rfl) ?_
    refine rL_iload dL_law_1672 (by rfl) ?_
    refine rL_iconst dL_law_1674 ?_
    refine rL_iadd dL_law_1675 ?_
    refine rL_sald (j := i + 2) dL_law_1676 (by omega) (by omega) (by omega) ?_
    refine rL_aload_n dL_law_1677 rfl (by rfl) ?_
    refine rL_iload dL_law_1678 (by rfl) ?_
    refine rL_iconst dL_law_1680 ?_
    refine rL_iadd dL_law_1681 ?_
    refine rL_sald (j := i + 3) dL_law_1682 (by omega) (by omega) (by omega) ?_
    refine rL_callG3 (ct_X6_findR σ (lk_pre hv (fun q hq => sr_off _ _ hq)) ((G.2.2.2.2.2.2.2 (i + 1)).toInt) (inR_of _) ((G.2.2.2.2.2.2.2 (i + 2)).toInt) (inR_of _) ((G.2.2.2.2.2.2.2 (i + 3)).toInt) (inR_of _)) fX6_find qL_183 dL_law_1683 KD_110 ⟨Nat.le_of_ble_eq_true rfl, Nat.le_of_ble_eq_true rfl⟩ hc (Nat.le_of_ble_eq_true rfl) (fun μ hμ => ?_)
    refine rL_istore dL_law_1686 (Nat.le_of_ble_eq_true rfl) (L' := [some (.ref 1000), some (.ref 0), some (.ref 110), some (.ref 116), some (.int (iI (i : Int))), some (.int (iI _)), some (.int (iI _)), none, none]) (by rfl) ?_
    obtain ⟨hw, h1⟩ := lk_post hv (fun q hq => sr_off _ _ hq) hμ
    exact tl (T := 1688) dL_law_1688 dL_law_1689 dL_law_1692 dL_law_1694 dL_law_1699 dL_law_1701 dL_law_1704 dL_law_1705 dL_law_1706 dL_law_1707 dL_law_1709 dL_law_1710 dL_law_1711 dL_law_1716 (by rfl) h1 (cE_in _ _ _ _) (fun _ => by rw [if_pos h0, up2_at]) hc (kt _ _ _ hw)
  · refine rL_istore dL_law_1662 (Nat.le_of_ble_eq_true rfl) (L' := [some (.ref 1000), some (.ref 0), some (.ref 110), some (.ref 116), some (.int (iI (i : Int))), some (.int (iI _)), none, none, none]) (by rfl) ?_
    refine rL_aload_n dL_law_1664 rfl (by rfl) ?_
    refine rL_aload_n dL_law_1665 rfl (by rfl) ?_
    refine rL_iload dL_law_1666 (by rfl) ?_
    refine rL_iconst dL_law_1668 ?_
    refine rL_iadd dL_law_1669 ?_
    refine rL_sald (j := i + 1) dL_law_1670 (by omega) (by omega) (by omega) ?_
    refine rL_aload_n dL_law_1671 rfl (by rfl) ?_
    refine rL_iload dL_law_1672 (by rfl) ?_
    refine rL_iconst dL_law_1674 ?_
    refine rL_iadd dL_law_1675 ?_
    refine rL_sald (j := i + 2) dL_law_1676 (by omega) (by omega) (by omega) ?_
    refine rL_aload_n dL_law_1677 rfl (by rfl) ?_
    refine rL_iload dL_law_1678 (by rfl) ?_
    refine rL_iconst dL_law_1680 ?_
    refine rL_iadd dL_law_1681 ?_
    refine rL_sald (j := i + 3) dL_law_1682 (by omega) (by omega) (by omega) ?_
    refine rL_callG3 (ct_X6_findR σ (lk_pre hv (fun _ _ => rfl)) ((G.2.2.2.2.2.2.2 (i + 1)).toInt) (inR_of _) ((G.2.2.2.2.2.2.2 (i + 2)).toInt) (inR_of _) ((G.2.2.2.2.2.2.2 (i + 3)).toInt) (inR_of _)) fX6_find qL_183 dL_law_1683 KD_110 ⟨Nat.le_of_ble_eq_true rfl, Nat.le_of_ble_eq_true rfl⟩ hc (Nat.le_of_ble_eq_true rfl) (fun μ hμ => ?_)
    refine rL_istore dL_law_1686 (Nat.le_of_ble_eq_true rfl) (L' := [some (.ref 1000), some (.ref 0), some (.ref 110), some (.ref 116), some (.int (iI (i : Int))), some (.int (iI _)), some (.int (iI _)), none, none]) (by rfl) ?_
    obtain ⟨hw, h1⟩ := lk_post hv (fun _ _ => rfl) hμ
    exact tl (T := 1688) dL_law_1688 dL_law_1689 dL_law_1692 dL_law_1694 dL_law_1699 dL_law_1701 dL_law_1704 dL_law_1705 dL_law_1706 dL_law_1707 dL_law_1709 dL_law_1710 dL_law_1711 dL_law_1716 (by rfl) h1 (cE_in _ _ _ _) (fun z => absurd z (cE_ne h0)) hc (kt _ _ _ hw)
