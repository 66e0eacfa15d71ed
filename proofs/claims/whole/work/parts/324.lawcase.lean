section LC
variable {E : mm_E} {G : mm_G} {Q : State → Prop} {x m b L k : Nat} {cd : Nat → Nat} {xs : Nat → Int32} {σ : mm_M} {Y : Ps}
set_option maxHeartbeats 4000000 in
set_option maxRecDepth 100000 in
theorem lc_30 (X : mm_Cx E G cL_law 4 RL wsL_law room_1 ret) (gx : gX G x cd) (gm : gM G m cd) (hX : va_X b L xs (eS E) (eS E).heap) (hbl : b < (eS E).heap.size) (hbL : b ∉ mm_L G) (hL : L ≤ 3072) (hk6 : k + 6 ≤ L) (ok : okP Y) (hc : CR G x σ Y) (hm : MR G m σ Y) (hk : ∀ σ' Y', okP Y' → CR G x σ' Y' → MR G m σ' Y' → mm_At E G 4 Q σ' 1261 [(3, .int (nI k)), (2, .ref m), (1, .ref x), (0, .ref b)] []) : mm_At E G 4 Q σ 1048 [(3, .int (nI k)), (2, .ref m), (1, .ref x), (0, .ref b)] [] := by
  obtain ⟨v, σ1, σ2, Y', e1, e2, ok', c', m'⟩ := Jc_use gx gm (J_odds gx gm ok (xs (nI k + (1 : Int32)).toNatClampNeg) (xs (nI k + (2 : Int32)).toNatClampNeg)) hc hm
  refine at_aload_n (pc := 1048) X 1 2 dL_law_1048 rfl rfl ?_
  refine at_aload_n (pc := 1049) X 0 3 dL_law_1049 rfl rfl ?_
  refine at_iload_n (pc := 1050) X 3 0 dL_law_1050 rfl rfl ?_
  refine at_iconst (pc := 1051) X (1 : Int32) dL_law_1051 ic_1 ?_
  refine at_iadd (pc := 1052) X dL_law_1052 ?_
  refine at_sld (pc := 1053) X hX hbl hbL (lw_in (j := 1) hL hk6 (by decide)) dL_law_1053 ?_
  refine at_aload_n (pc := 1054) X 0 3 dL_law_1054 rfl rfl ?_
  refine at_iload_n (pc := 1055) X 3 0 dL_law_1055 rfl rfl ?_
  refine at_iconst (pc := 1056) X (2 : Int32) dL_law_1056 ic_2 ?_
  refine at_iadd (pc := 1057) X dL_law_1057 ?_
  refine at_sld (pc := 1058) X hX hbl hbL (lw_in (j := 2) hL hk6 (by decide)) dL_law_1058 ?_
  refine at_calli (n := 2) (pc := 1059) X 3 [.int (xs (nI k + (1 : Int32)).toNatClampNeg), .int (xs (nI k + (2 : Int32)).toNatClampNeg)] [] (mX3_odds (eL E) X.wf gx.1 e1) gL_law_X3_odds rfl ⟨rfl, rfl⟩ (by decide +kernel) ⟨Nat.le_of_ble_eq_true rfl, Nat.le_of_ble_eq_true rfl⟩ (by decide) rfl gx.1 rfl rfl (Nat.le_of_ble_eq_true rfl) dL_law_1059 ?_
  refine at_aload_n (pc := 1062) X 2 1 dL_law_1062 rfl rfl ?_
  refine at_aload_n (pc := 1063) X 0 3 dL_law_1063 rfl rfl ?_
  refine at_iload_n (pc := 1064) X 3 0 dL_law_1064 rfl rfl ?_
  refine at_iconst (pc := 1065) X (1 : Int32) dL_law_1065 ic_1 ?_
  refine at_iadd (pc := 1066) X dL_law_1066 ?_
  refine at_sld (pc := 1067) X hX hbl hbL (lw_in (j := 1) hL hk6 (by decide)) dL_law_1067 ?_
  refine at_aload_n (pc := 1068) X 0 3 dL_law_1068 rfl rfl ?_
  refine at_iload_n (pc := 1069) X 3 0 dL_law_1069 rfl rfl ?_
  refine at_iconst (pc := 1070) X (2 : Int32) dL_law_1070 ic_2 ?_
  refine at_iadd (pc := 1071) X dL_law_1071 ?_
  refine at_sld (pc := 1072) X hX hbl hbL (lw_in (j := 2) hL hk6 (by decide)) dL_law_1072 ?_
  refine at_calli (n := 2) (pc := 1073) X 4 [.int (xs (nI k + (1 : Int32)).toNatClampNeg), .int (xs (nI k + (2 : Int32)).toNatClampNeg)] [.int v] (mX4_odds (eL E) X.wf gm.1 e2) gL_law_X4_odds rfl ⟨rfl, rfl⟩ (by decide +kernel) ⟨Nat.le_of_ble_eq_true rfl, Nat.le_of_ble_eq_true rfl⟩ (by decide) rfl gm.1 rfl rfl (Nat.le_of_ble_eq_true rfl) dL_law_1073 ?_
  refine at_icmp_eq (pc := 1076) X 1261 dL_law_1076 (by decide) (fun c => ?_) (fun c => absurd rfl c)
  exact hk σ2 Y' ok' c' m'
set_option maxHeartbeats 4000000 in
set_option maxRecDepth 100000 in
theorem lc_31 (X : mm_Cx E G cL_law 4 RL wsL_law room_1 ret) (gx : gX G x cd) (gm : gM G m cd) (hX : va_X b L xs (eS E) (eS E).heap) (hbl : b < (eS E).heap.size) (hbL : b ∉ mm_L G) (hL : L ≤ 3072) (hk6 : k + 6 ≤ L) (ok : okP Y) (hc : CR G x σ Y) (hm : MR G m σ Y) (hk : ∀ σ' Y', okP Y' → CR G x σ' Y' → MR G m σ' Y' → mm_At E G 4 Q σ' 1261 [(3, .int (nI k)), (2, .ref m), (1, .ref x), (0, .ref b)] []) : mm_At E G 4 Q σ 1081 [(3, .int (nI k)), (2, .ref m), (1, .ref x), (0, .ref b)] [] := by
  obtain ⟨v, σ1, σ2, Y', e1, e2, ok', c', m'⟩ := Jc_use gx gm (J_mid gx gm ok (xs (nI k + (1 : Int32)).toNatClampNeg) (xs (nI k + (2 : Int32)).toNatClampNeg)) hc hm
  refine at_aload_n (pc := 1081) X 1 2 dL_law_1081 rfl rfl ?_
  refine at_aload_n (pc := 1082) X 0 3 dL_law_1082 rfl rfl ?_
  refine at_iload_n (pc := 1083) X 3 0 dL_law_1083 rfl rfl ?_
  refine at_iconst (pc := 1084) X (1 : Int32) dL_law_1084 ic_1 ?_
  refine at_iadd (pc := 1085) X dL_law_1085 ?_
  refine at_sld (pc := 1086) X hX hbl hbL (lw_in (j := 1) hL hk6 (by decide)) dL_law_1086 ?_
  refine at_aload_n (pc := 1087) X 0 3 dL_law_1087 rfl rfl ?_
  refine at_iload_n (pc := 1088) X 3 0 dL_law_1088 rfl rfl ?_
  refine at_iconst (pc := 1089) X (2 : Int32) dL_law_1089 ic_2 ?_
  refine at_iadd (pc := 1090) X dL_law_1090 ?_
  refine at_sld (pc := 1091) X hX hbl hbL (lw_in (j := 2) hL hk6 (by decide)) dL_law_1091 ?_
  refine at_calli (n := 2) (pc := 1092) X 3 [.int (xs (nI k + (1 : Int32)).toNatClampNeg), .int (xs (nI k + (2 : Int32)).toNatClampNeg)] [] (mX3_mid (eL E) X.wf gx.1 e1) gL_law_X3_mid rfl ⟨rfl, rfl⟩ (by decide +kernel) ⟨Nat.le_of_ble_eq_true rfl, Nat.le_of_ble_eq_true rfl⟩ (by decide) rfl gx.1 rfl rfl (Nat.le_of_ble_eq_true rfl) dL_law_1092 ?_
  refine at_aload_n (pc := 1095) X 2 1 dL_law_1095 rfl rfl ?_
  refine at_aload_n (pc := 1096) X 0 3 dL_law_1096 rfl rfl ?_
  refine at_iload_n (pc := 1097) X 3 0 dL_law_1097 rfl rfl ?_
  refine at_iconst (pc := 1098) X (1 : Int32) dL_law_1098 ic_1 ?_
  refine at_iadd (pc := 1099) X dL_law_1099 ?_
  refine at_sld (pc := 1100) X hX hbl hbL (lw_in (j := 1) hL hk6 (by decide)) dL_law_1100 ?_
  refine at_aload_n (pc := 1101) X 0 3 dL_law_1101 rfl rfl ?_
  refine at_iload_n (pc := 1102) X 3 0 dL_law_1102 rfl rfl ?_
  refine at_iconst (pc := 1103) X (2 : Int32) dL_law_1103 ic_2 ?_
  refine at_iadd (pc := 1104) X dL_law_1104 ?_
  refine at_sld (pc := 1105) X hX hbl hbL (lw_in (j := 2) hL hk6 (by decide)) dL_law_1105 ?_
  refine at_calli (n := 2) (pc := 1106) X 4 [.int (xs (nI k + (1 : Int32)).toNatClampNeg), .int (xs (nI k + (2 : Int32)).toNatClampNeg)] [.int v] (mX4_mid (eL E) X.wf gm.1 e2) gL_law_X4_mid rfl ⟨rfl, rfl⟩ (by decide +kernel) ⟨Nat.le_of_ble_eq_true rfl, Nat.le_of_ble_eq_true rfl⟩ (by decide) rfl gm.1 rfl rfl (Nat.le_of_ble_eq_true rfl) dL_law_1106 ?_
  refine at_icmp_eq (pc := 1109) X 1261 dL_law_1109 (by decide) (fun c => ?_) (fun c => absurd rfl c)
  exact hk σ2 Y' ok' c' m'
set_option maxHeartbeats 4000000 in
set_option maxRecDepth 100000 in
theorem lc_32 (X : mm_Cx E G cL_law 4 RL wsL_law room_1 ret) (gx : gX G x cd) (gm : gM G m cd) (hX : va_X b L xs (eS E) (eS E).heap) (hbl : b < (eS E).heap.size) (hbL : b ∉ mm_L G) (hL : L ≤ 3072) (hk6 : k + 6 ≤ L) (ok : okP Y) (hc : CR G x σ Y) (hm : MR G m σ Y) (hk : ∀ σ' Y', okP Y' → CR G x σ' Y' → MR G m σ' Y' → mm_At E G 4 Q σ' 1261 [(3, .int (nI k)), (2, .ref m), (1, .ref x), (0, .ref b)] []) : mm_At E G 4 Q σ 1114 [(3, .int (nI k)), (2, .ref m), (1, .ref x), (0, .ref b)] [] := by
  obtain ⟨v, σ1, σ2, Y', e1, e2, ok', c', m'⟩ := Jc_use gx gm (J_lots gx gm ok (xs (nI k + (1 : Int32)).toNatClampNeg) (xs (nI k + (2 : Int32)).toNatClampNeg)) hc hm
  refine at_aload_n (pc := 1114) X 1 2 dL_law_1114 rfl rfl ?_
  refine at_aload_n (pc := 1115) X 0 3 dL_law_1115 rfl rfl ?_
  refine at_iload_n (pc := 1116) X 3 0 dL_law_1116 rfl rfl ?_
  refine at_iconst (pc := 1117) X (1 : Int32) dL_law_1117 ic_1 ?_
  refine at_iadd (pc := 1118) X dL_law_1118 ?_
  refine at_sld (pc := 1119) X hX hbl hbL (lw_in (j := 1) hL hk6 (by decide)) dL_law_1119 ?_
  refine at_aload_n (pc := 1120) X 0 3 dL_law_1120 rfl rfl ?_
  refine at_iload_n (pc := 1121) X 3 0 dL_law_1121 rfl rfl ?_
  refine at_iconst (pc := 1122) X (2 : Int32) dL_law_1122 ic_2 ?_
  refine at_iadd (pc := 1123) X dL_law_1123 ?_
  refine at_sld (pc := 1124) X hX hbl hbL (lw_in (j := 2) hL hk6 (by decide)) dL_law_1124 ?_
  refine at_calli (n := 2) (pc := 1125) X 3 [.int (xs (nI k + (1 : Int32)).toNatClampNeg), .int (xs (nI k + (2 : Int32)).toNatClampNeg)] [] (mX3_lots (eL E) X.wf gx.1 e1) gL_law_X3_lots rfl ⟨rfl, rfl⟩ (by decide +kernel) ⟨Nat.le_of_ble_eq_true rfl, Nat.le_of_ble_eq_true rfl⟩ (by decide) rfl gx.1 rfl rfl (Nat.le_of_ble_eq_true rfl) dL_law_1125 ?_
  refine at_aload_n (pc := 1128) X 2 1 dL_law_1128 rfl rfl ?_
  refine at_aload_n (pc := 1129) X 0 3 dL_law_1129 rfl rfl ?_
  refine at_iload_n (pc := 1130) X 3 0 dL_law_1130 rfl rfl ?_
  refine at_iconst (pc := 1131) X (1 : Int32) dL_law_1131 ic_1 ?_
  refine at_iadd (pc := 1132) X dL_law_1132 ?_
  refine at_sld (pc := 1133) X hX hbl hbL (lw_in (j := 1) hL hk6 (by decide)) dL_law_1133 ?_
  refine at_aload_n (pc := 1134) X 0 3 dL_law_1134 rfl rfl ?_
  refine at_iload_n (pc := 1135) X 3 0 dL_law_1135 rfl rfl ?_
  refine at_iconst (pc := 1136) X (2 : Int32) dL_law_1136 ic_2 ?_
  refine at_iadd (pc := 1137) X dL_law_1137 ?_
  refine at_sld (pc := 1138) X hX hbl hbL (lw_in (j := 2) hL hk6 (by decide)) dL_law_1138 ?_
  refine at_calli (n := 2) (pc := 1139) X 4 [.int (xs (nI k + (1 : Int32)).toNatClampNeg), .int (xs (nI k + (2 : Int32)).toNatClampNeg)] [.int v] (mX4_lots (eL E) X.wf gm.1 e2) gL_law_X4_lots rfl ⟨rfl, rfl⟩ (by decide +kernel) ⟨Nat.le_of_ble_eq_true rfl, Nat.le_of_ble_eq_true rfl⟩ (by decide) rfl gm.1 rfl rfl (Nat.le_of_ble_eq_true rfl) dL_law_1139 ?_
  refine at_icmp_eq (pc := 1142) X 1261 dL_law_1142 (by decide) (fun c => ?_) (fun c => absurd rfl c)
  exact hk σ2 Y' ok' c' m'
set_option maxHeartbeats 4000000 in
set_option maxRecDepth 100000 in
theorem lc_33 (X : mm_Cx E G cL_law 4 RL wsL_law room_1 ret) (gx : gX G x cd) (gm : gM G m cd) (hX : va_X b L xs (eS E) (eS E).heap) (hbl : b < (eS E).heap.size) (hbL : b ∉ mm_L G) (hL : L ≤ 3072) (hk6 : k + 6 ≤ L) (ok : okP Y) (hc : CR G x σ Y) (hm : MR G m σ Y) (hk : ∀ σ' Y', okP Y' → CR G x σ' Y' → MR G m σ' Y' → mm_At E G 4 Q σ' 1261 [(3, .int (nI k)), (2, .ref m), (1, .ref x), (0, .ref b)] []) : mm_At E G 4 Q σ 1147 [(3, .int (nI k)), (2, .ref m), (1, .ref x), (0, .ref b)] [] := by
  obtain ⟨v, σ1, σ2, Y', e1, e2, ok', c', m'⟩ := Jc_use gx gm (J_asked ok) hc hm
  refine at_aload_n (pc := 1147) X 1 2 dL_law_1147 rfl rfl ?_
  refine at_calli (n := 0) (pc := 1148) X 3 [] [] (mX3_asked (eL E) X.wf gx.1 e1) gL_law_X3_asked rfl ⟨rfl, rfl⟩ (by decide +kernel) ⟨Nat.le_of_ble_eq_true rfl, Nat.le_of_ble_eq_true rfl⟩ (by decide) rfl gx.1 rfl rfl (Nat.le_of_ble_eq_true rfl) dL_law_1148 ?_
  refine at_aload_n (pc := 1151) X 2 1 dL_law_1151 rfl rfl ?_
  refine at_calli (n := 0) (pc := 1152) X 4 [] [.int v] (mX4_asked (eL E) X.wf gm.1 e2) gL_law_X4_asked rfl ⟨rfl, rfl⟩ (by decide +kernel) ⟨Nat.le_of_ble_eq_true rfl, Nat.le_of_ble_eq_true rfl⟩ (by decide) rfl gm.1 rfl rfl (Nat.le_of_ble_eq_true rfl) dL_law_1152 ?_
  refine at_icmp_eq (pc := 1155) X 1261 dL_law_1155 (by decide) (fun c => ?_) (fun c => absurd rfl c)
  exact hk σ2 Y' ok' c' m'
set_option maxHeartbeats 4000000 in
set_option maxRecDepth 100000 in
theorem lc_34 (X : mm_Cx E G cL_law 4 RL wsL_law room_1 ret) (gx : gX G x cd) (gm : gM G m cd) (hX : va_X b L xs (eS E) (eS E).heap) (hbl : b < (eS E).heap.size) (hbL : b ∉ mm_L G) (hL : L ≤ 3072) (hk6 : k + 6 ≤ L) (ok : okP Y) (hc : CR G x σ Y) (hm : MR G m σ Y) (hk : ∀ σ' Y', okP Y' → CR G x σ' Y' → MR G m σ' Y' → mm_At E G 4 Q σ' 1261 [(3, .int (nI k)), (2, .ref m), (1, .ref x), (0, .ref b)] []) : mm_At E G 4 Q σ 1160 [(3, .int (nI k)), (2, .ref m), (1, .ref x), (0, .ref b)] [] := by
  obtain ⟨v, σ1, σ2, Y', e1, e2, ok', c', m'⟩ := Jc_use gx gm (J_upper ok) hc hm
  refine at_aload_n (pc := 1160) X 1 2 dL_law_1160 rfl rfl ?_
  refine at_calll (n := 0) (pc := 1161) X 3 [] [] (mX3_upper (eL E) X.wf gx.1 e1) gL_law_X3_upper rfl ⟨rfl, rfl⟩ (by decide +kernel) ⟨Nat.le_of_ble_eq_true rfl, Nat.le_of_ble_eq_true rfl⟩ (by decide) rfl gx.1 rfl rfl (Nat.le_of_ble_eq_true rfl) dL_law_1161 ?_
  refine at_aload_n (pc := 1164) X 2 1 dL_law_1164 rfl rfl ?_
  refine at_calll (n := 0) (pc := 1165) X 4 [] [.long v] (mX4_upper (eL E) X.wf gm.1 e2) gL_law_X4_upper rfl ⟨rfl, rfl⟩ (by decide +kernel) ⟨Nat.le_of_ble_eq_true rfl, Nat.le_of_ble_eq_true rfl⟩ (by decide) rfl gm.1 rfl rfl (Nat.le_of_ble_eq_true rfl) dL_law_1165 ?_
  refine at_lcmp (pc := 1168) X dL_law_1168 ?_
  refine at_if_eq (pc := 1169) X 1261 dL_law_1169 (by decide) (fun c => ?_) (fun c => absurd ((lg_cmp_eq _ _).mpr rfl) c)
  exact hk σ2 Y' ok' c' m'
set_option maxHeartbeats 4000000 in
set_option maxRecDepth 100000 in
theorem lc_35 (X : mm_Cx E G cL_law 4 RL wsL_law room_1 ret) (gx : gX G x cd) (gm : gM G m cd) (hX : va_X b L xs (eS E) (eS E).heap) (hbl : b < (eS E).heap.size) (hbL : b ∉ mm_L G) (hL : L ≤ 3072) (hk6 : k + 6 ≤ L) (ok : okP Y) (hc : CR G x σ Y) (hm : MR G m σ Y) (hk : ∀ σ' Y', okP Y' → CR G x σ' Y' → MR G m σ' Y' → mm_At E G 4 Q σ' 1261 [(3, .int (nI k)), (2, .ref m), (1, .ref x), (0, .ref b)] []) : mm_At E G 4 Q σ 1174 [(3, .int (nI k)), (2, .ref m), (1, .ref x), (0, .ref b)] [] := by
  obtain ⟨v, σ1, σ2, Y', e1, e2, ok', c', m'⟩ := Jc_use gx gm (J_lower ok) hc hm
  refine at_aload_n (pc := 1174) X 1 2 dL_law_1174 rfl rfl ?_
  refine at_calll (n := 0) (pc := 1175) X 3 [] [] (mX3_lower (eL E) X.wf gx.1 e1) gL_law_X3_lower rfl ⟨rfl, rfl⟩ (by decide +kernel) ⟨Nat.le_of_ble_eq_true rfl, Nat.le_of_ble_eq_true rfl⟩ (by decide) rfl gx.1 rfl rfl (Nat.le_of_ble_eq_true rfl) dL_law_1175 ?_
  refine at_aload_n (pc := 1178) X 2 1 dL_law_1178 rfl rfl ?_
  refine at_calll (n := 0) (pc := 1179) X 4 [] [.long v] (mX4_lower (eL E) X.wf gm.1 e2) gL_law_X4_lower rfl ⟨rfl, rfl⟩ (by decide +kernel) ⟨Nat.le_of_ble_eq_true rfl, Nat.le_of_ble_eq_true rfl⟩ (by decide) rfl gm.1 rfl rfl (Nat.le_of_ble_eq_true rfl) dL_law_1179 ?_
  refine at_lcmp (pc := 1182) X dL_law_1182 ?_
  refine at_if_eq (pc := 1183) X 1261 dL_law_1183 (by decide) (fun c => ?_) (fun c => absurd ((lg_cmp_eq _ _).mpr rfl) c)
  exact hk σ2 Y' ok' c' m'
set_option maxHeartbeats 4000000 in
set_option maxRecDepth 100000 in
theorem lc_36 (X : mm_Cx E G cL_law 4 RL wsL_law room_1 ret) (gx : gX G x cd) (gm : gM G m cd) (hX : va_X b L xs (eS E) (eS E).heap) (hbl : b < (eS E).heap.size) (hbL : b ∉ mm_L G) (hL : L ≤ 3072) (hk6 : k + 6 ≤ L) (ok : okP Y) (hc : CR G x σ Y) (hm : MR G m σ Y) (hk : ∀ σ' Y', okP Y' → CR G x σ' Y' → MR G m σ' Y' → mm_At E G 4 Q σ' 1261 [(3, .int (nI k)), (2, .ref m), (1, .ref x), (0, .ref b)] []) : mm_At E G 4 Q σ 1188 [(3, .int (nI k)), (2, .ref m), (1, .ref x), (0, .ref b)] [] := by
  obtain ⟨v, σ1, σ2, Y', e1, e2, ok', c', m'⟩ := Jc_use gx gm (J_count gx gm ok (xs (nI k + (1 : Int32)).toNatClampNeg)) hc hm
  refine at_aload_n (pc := 1188) X 1 2 dL_law_1188 rfl rfl ?_
  refine at_aload_n (pc := 1189) X 0 3 dL_law_1189 rfl rfl ?_
  refine at_iload_n (pc := 1190) X 3 0 dL_law_1190 rfl rfl ?_
  refine at_iconst (pc := 1191) X (1 : Int32) dL_law_1191 ic_1 ?_
  refine at_iadd (pc := 1192) X dL_law_1192 ?_
  refine at_sld (pc := 1193) X hX hbl hbL (lw_in (j := 1) hL hk6 (by decide)) dL_law_1193 ?_
  refine at_calli (n := 1) (pc := 1194) X 3 [.int (xs (nI k + (1 : Int32)).toNatClampNeg)] [] (mX3_count (eL E) X.wf gx.1 e1) gL_law_X3_count rfl ⟨rfl, rfl⟩ (by decide +kernel) ⟨Nat.le_of_ble_eq_true rfl, Nat.le_of_ble_eq_true rfl⟩ (by decide) rfl gx.1 rfl rfl (Nat.le_of_ble_eq_true rfl) dL_law_1194 ?_
  refine at_aload_n (pc := 1197) X 2 1 dL_law_1197 rfl rfl ?_
  refine at_aload_n (pc := 1198) X 0 3 dL_law_1198 rfl rfl ?_
  refine at_iload_n (pc := 1199) X 3 0 dL_law_1199 rfl rfl ?_
  refine at_iconst (pc := 1200) X (1 : Int32) dL_law_1200 ic_1 ?_
  refine at_iadd (pc := 1201) X dL_law_1201 ?_
  refine at_sld (pc := 1202) X hX hbl hbL (lw_in (j := 1) hL hk6 (by decide)) dL_law_1202 ?_
  refine at_calli (n := 1) (pc := 1203) X 4 [.int (xs (nI k + (1 : Int32)).toNatClampNeg)] [.int v] (mX4_count (eL E) X.wf gm.1 e2) gL_law_X4_count rfl ⟨rfl, rfl⟩ (by decide +kernel) ⟨Nat.le_of_ble_eq_true rfl, Nat.le_of_ble_eq_true rfl⟩ (by decide) rfl gm.1 rfl rfl (Nat.le_of_ble_eq_true rfl) dL_law_1203 ?_
  refine at_icmp_eq (pc := 1206) X 1261 dL_law_1206 (by decide) (fun c => ?_) (fun c => absurd rfl c)
  exact hk σ2 Y' ok' c' m'
set_option maxHeartbeats 4000000 in
set_option maxRecDepth 100000 in
theorem lc_37 (X : mm_Cx E G cL_law 4 RL wsL_law room_1 ret) (gx : gX G x cd) (gm : gM G m cd) (hX : va_X b L xs (eS E) (eS E).heap) (hbl : b < (eS E).heap.size) (hbL : b ∉ mm_L G) (hL : L ≤ 3072) (hk6 : k + 6 ≤ L) (ok : okP Y) (hc : CR G x σ Y) (hm : MR G m σ Y) (hk : ∀ σ' Y', okP Y' → CR G x σ' Y' → MR G m σ' Y' → mm_At E G 4 Q σ' 1261 [(3, .int (nI k)), (2, .ref m), (1, .ref x), (0, .ref b)] []) : mm_At E G 4 Q σ 1211 [(3, .int (nI k)), (2, .ref m), (1, .ref x), (0, .ref b)] [] := by
  obtain ⟨v, σ1, σ2, Y', e1, e2, ok', c', m'⟩ := Jc_use gx gm (J_finding ok) hc hm
  refine at_aload_n (pc := 1211) X 1 2 dL_law_1211 rfl rfl ?_
  refine at_calli (n := 0) (pc := 1212) X 3 [] [] (mX3_finding (eL E) X.wf gx.1 e1) gL_law_X3_finding rfl ⟨rfl, rfl⟩ (by decide +kernel) ⟨Nat.le_of_ble_eq_true rfl, Nat.le_of_ble_eq_true rfl⟩ (by decide) rfl gx.1 rfl rfl (Nat.le_of_ble_eq_true rfl) dL_law_1212 ?_
  refine at_aload_n (pc := 1215) X 2 1 dL_law_1215 rfl rfl ?_
  refine at_calli (n := 0) (pc := 1216) X 4 [] [.int v] (mX4_finding (eL E) X.wf gm.1 e2) gL_law_X4_finding rfl ⟨rfl, rfl⟩ (by decide +kernel) ⟨Nat.le_of_ble_eq_true rfl, Nat.le_of_ble_eq_true rfl⟩ (by decide) rfl gm.1 rfl rfl (Nat.le_of_ble_eq_true rfl) dL_law_1216 ?_
  refine at_icmp_eq (pc := 1219) X 1261 dL_law_1219 (by decide) (fun c => ?_) (fun c => absurd rfl c)
  exact hk σ2 Y' ok' c' m'
set_option maxHeartbeats 4000000 in
set_option maxRecDepth 100000 in
theorem lc_38 (X : mm_Cx E G cL_law 4 RL wsL_law room_1 ret) (gx : gX G x cd) (gm : gM G m cd) (hX : va_X b L xs (eS E) (eS E).heap) (hbl : b < (eS E).heap.size) (hbL : b ∉ mm_L G) (hL : L ≤ 3072) (hk6 : k + 6 ≤ L) (ok : okP Y) (hc : CR G x σ Y) (hm : MR G m σ Y) (hk : ∀ σ' Y', okP Y' → CR G x σ' Y' → MR G m σ' Y' → mm_At E G 4 Q σ' 1261 [(3, .int (nI k)), (2, .ref m), (1, .ref x), (0, .ref b)] []) : mm_At E G 4 Q σ 1224 [(3, .int (nI k)), (2, .ref m), (1, .ref x), (0, .ref b)] [] := by
  obtain ⟨v, σ1, σ2, Y', e1, e2, ok', c', m'⟩ := Jc_use gx gm (J_findings gx gm ok (xs (nI k + (1 : Int32)).toNatClampNeg)) hc hm
  refine at_aload_n (pc := 1224) X 1 2 dL_law_1224 rfl rfl ?_
  refine at_aload_n (pc := 1225) X 0 3 dL_law_1225 rfl rfl ?_
  refine at_iload_n (pc := 1226) X 3 0 dL_law_1226 rfl rfl ?_
  refine at_iconst (pc := 1227) X (1 : Int32) dL_law_1227 ic_1 ?_
  refine at_iadd (pc := 1228) X dL_law_1228 ?_
  refine at_sld (pc := 1229) X hX hbl hbL (lw_in (j := 1) hL hk6 (by decide)) dL_law_1229 ?_
  refine at_calli (n := 1) (pc := 1230) X 3 [.int (xs (nI k + (1 : Int32)).toNatClampNeg)] [] (mX3_findings (eL E) X.wf gx.1 e1) gL_law_X3_findings rfl ⟨rfl, rfl⟩ (by decide +kernel) ⟨Nat.le_of_ble_eq_true rfl, Nat.le_of_ble_eq_true rfl⟩ (by decide) rfl gx.1 rfl rfl (Nat.le_of_ble_eq_true rfl) dL_law_1230 ?_
  refine at_aload_n (pc := 1233) X 2 1 dL_law_1233 rfl rfl ?_
  refine at_aload_n (pc := 1234) X 0 3 dL_law_1234 rfl rfl ?_
  refine at_iload_n (pc := 1235) X 3 0 dL_law_1235 rfl rfl ?_
  refine at_iconst (pc := 1236) X (1 : Int32) dL_law_1236 ic_1 ?_
  refine at_iadd (pc := 1237) X dL_law_1237 ?_
  refine at_sld (pc := 1238) X hX hbl hbL (lw_in (j := 1) hL hk6 (by decide)) dL_law_1238 ?_
  refine at_calli (n := 1) (pc := 1239) X 4 [.int (xs (nI k + (1 : Int32)).toNatClampNeg)] [.int v] (mX4_findings (eL E) X.wf gm.1 e2) gL_law_X4_findings rfl ⟨rfl, rfl⟩ (by decide +kernel) ⟨Nat.le_of_ble_eq_true rfl, Nat.le_of_ble_eq_true rfl⟩ (by decide) rfl gm.1 rfl rfl (Nat.le_of_ble_eq_true rfl) dL_law_1239 ?_
  refine at_icmp_eq (pc := 1242) X 1261 dL_law_1242 (by decide) (fun c => ?_) (fun c => absurd rfl c)
  exact hk σ2 Y' ok' c' m'
set_option maxHeartbeats 4000000 in
set_option maxRecDepth 100000 in
theorem lc_39 (X : mm_Cx E G cL_law 4 RL wsL_law room_1 ret) (gx : gX G x cd) (gm : gM G m cd) (hX : va_X b L xs (eS E) (eS E).heap) (hbl : b < (eS E).heap.size) (hbL : b ∉ mm_L G) (hL : L ≤ 3072) (hk6 : k + 6 ≤ L) (ok : okP Y) (hc : CR G x σ Y) (hm : MR G m σ Y) (hk : ∀ σ' Y', okP Y' → CR G x σ' Y' → MR G m σ' Y' → mm_At E G 4 Q σ' 1261 [(3, .int (nI k)), (2, .ref m), (1, .ref x), (0, .ref b)] []) : mm_At E G 4 Q σ 1247 [(3, .int (nI k)), (2, .ref m), (1, .ref x), (0, .ref b)] [] := by
  obtain ⟨v, σ1, σ2, Y', e1, e2, ok', c', m'⟩ := Jc_use gx gm (J_digest gx gm ok) hc hm
  refine at_aload_n (pc := 1247) X 1 2 dL_law_1247 rfl rfl ?_
  refine at_calll (n := 0) (pc := 1248) X 3 [] [] (mX3_digest (eL E) X.wf gx.1 e1) gL_law_X3_digest rfl ⟨rfl, rfl⟩ (by decide +kernel) ⟨Nat.le_of_ble_eq_true rfl, Nat.le_of_ble_eq_true rfl⟩ (by decide) rfl gx.1 rfl rfl (Nat.le_of_ble_eq_true rfl) dL_law_1248 ?_
  refine at_aload_n (pc := 1251) X 2 1 dL_law_1251 rfl rfl ?_
  refine at_calll (n := 0) (pc := 1252) X 4 [] [.long v] (mX4_digest (eL E) X.wf gm.1 e2) gL_law_X4_digest rfl ⟨rfl, rfl⟩ (by decide +kernel) ⟨Nat.le_of_ble_eq_true rfl, Nat.le_of_ble_eq_true rfl⟩ (by decide) rfl gm.1 rfl rfl (Nat.le_of_ble_eq_true rfl) dL_law_1252 ?_
  refine at_lcmp (pc := 1255) X dL_law_1255 ?_
  refine at_if_eq (pc := 1256) X 1261 dL_law_1256 (by decide) (fun c => ?_) (fun c => absurd ((lg_cmp_eq _ _).mpr rfl) c)
  exact hk σ2 Y' ok' c' m'
end LC
