section LC
variable {E : mm_E} {G : mm_G} {Q : State → Prop} {x m b L k : Nat} {cd : Nat → Nat} {xs : Nat → Int32} {σ : mm_M} {Y : Ps}
set_option maxHeartbeats 4000000 in
set_option maxRecDepth 100000 in
theorem lc_20 (X : mm_Cx E G cL_law 4 RL wsL_law room_1 ret) (gx : gX G x cd) (gm : gM G m cd) (hX : va_X b L xs (eS E) (eS E).heap) (hbl : b < (eS E).heap.size) (hbL : b ∉ mm_L G) (hL : L ≤ 3072) (hk6 : k + 6 ≤ L) (ok : okP Y) (hc : CR G x σ Y) (hm : MR G m σ Y) (hk : ∀ σ' Y', okP Y' → CR G x σ' Y' → MR G m σ' Y' → mm_At E G 4 Q σ' 1261 [(3, .int (nI k)), (2, .ref m), (1, .ref x), (0, .ref b)] []) : mm_At E G 4 Q σ 798 [(3, .int (nI k)), (2, .ref m), (1, .ref x), (0, .ref b)] [] := by
  obtain ⟨v, σ1, σ2, Y', e1, e2, ok', c', m'⟩ := Jc_use gx gm (J_later gx gm ok (xs (nI k + (1 : Int32)).toNatClampNeg) (xs (nI k + (2 : Int32)).toNatClampNeg)) hc hm
  refine at_aload_n (pc := 798) X 1 2 dL_law_798 rfl rfl ?_
  refine at_aload_n (pc := 799) X 0 3 dL_law_799 rfl rfl ?_
  refine at_iload_n (pc := 800) X 3 0 dL_law_800 rfl rfl ?_
  refine at_iconst (pc := 801) X (1 : Int32) dL_law_801 ic_1 ?_
  refine at_iadd (pc := 802) X dL_law_802 ?_
  refine at_sld (pc := 803) X hX hbl hbL (lw_in (j := 1) hL hk6 (by decide)) dL_law_803 ?_
  refine at_aload_n (pc := 804) X 0 3 dL_law_804 rfl rfl ?_
  refine at_iload_n (pc := 805) X 3 0 dL_law_805 rfl rfl ?_
  refine at_iconst (pc := 806) X (2 : Int32) dL_law_806 ic_2 ?_
  refine at_iadd (pc := 807) X dL_law_807 ?_
  refine at_sld (pc := 808) X hX hbl hbL (lw_in (j := 2) hL hk6 (by decide)) dL_law_808 ?_
  refine at_calli (n := 2) (pc := 809) X 3 [.int (xs (nI k + (1 : Int32)).toNatClampNeg), .int (xs (nI k + (2 : Int32)).toNatClampNeg)] [] (mX3_later (eL E) X.wf gx.1 e1) gL_law_X3_later rfl ⟨rfl, rfl⟩ (by decide +kernel) ⟨Nat.le_of_ble_eq_true rfl, Nat.le_of_ble_eq_true rfl⟩ (by decide) rfl gx.1 rfl rfl (Nat.le_of_ble_eq_true rfl) dL_law_809 ?_
  refine at_aload_n (pc := 812) X 2 1 dL_law_812 rfl rfl ?_
  refine at_aload_n (pc := 813) X 0 3 dL_law_813 rfl rfl ?_
  refine at_iload_n (pc := 814) X 3 0 dL_law_814 rfl rfl ?_
  refine at_iconst (pc := 815) X (1 : Int32) dL_law_815 ic_1 ?_
  refine at_iadd (pc := 816) X dL_law_816 ?_
  refine at_sld (pc := 817) X hX hbl hbL (lw_in (j := 1) hL hk6 (by decide)) dL_law_817 ?_
  refine at_aload_n (pc := 818) X 0 3 dL_law_818 rfl rfl ?_
  refine at_iload_n (pc := 819) X 3 0 dL_law_819 rfl rfl ?_
  refine at_iconst (pc := 820) X (2 : Int32) dL_law_820 ic_2 ?_
  refine at_iadd (pc := 821) X dL_law_821 ?_
  refine at_sld (pc := 822) X hX hbl hbL (lw_in (j := 2) hL hk6 (by decide)) dL_law_822 ?_
  refine at_calli (n := 2) (pc := 823) X 4 [.int (xs (nI k + (1 : Int32)).toNatClampNeg), .int (xs (nI k + (2 : Int32)).toNatClampNeg)] [.int v] (mX4_later (eL E) X.wf gm.1 e2) gL_law_X4_later rfl ⟨rfl, rfl⟩ (by decide +kernel) ⟨Nat.le_of_ble_eq_true rfl, Nat.le_of_ble_eq_true rfl⟩ (by decide) rfl gm.1 rfl rfl (Nat.le_of_ble_eq_true rfl) dL_law_823 ?_
  refine at_icmp_eq (pc := 826) X 1261 dL_law_826 (by decide) (fun c => ?_) (fun c => absurd rfl c)
  exact hk σ2 Y' ok' c' m'
set_option maxHeartbeats 4000000 in
set_option maxRecDepth 100000 in
theorem lc_21 (X : mm_Cx E G cL_law 4 RL wsL_law room_1 ret) (gx : gX G x cd) (gm : gM G m cd) (hX : va_X b L xs (eS E) (eS E).heap) (hbl : b < (eS E).heap.size) (hbL : b ∉ mm_L G) (hL : L ≤ 3072) (hk6 : k + 6 ≤ L) (ok : okP Y) (hc : CR G x σ Y) (hm : MR G m σ Y) (hk : ∀ σ' Y', okP Y' → CR G x σ' Y' → MR G m σ' Y' → mm_At E G 4 Q σ' 1261 [(3, .int (nI k)), (2, .ref m), (1, .ref x), (0, .ref b)] []) : mm_At E G 4 Q σ 831 [(3, .int (nI k)), (2, .ref m), (1, .ref x), (0, .ref b)] [] := by
  obtain ⟨v, σ1, σ2, Y', e1, e2, ok', c', m'⟩ := Jc_use gx gm (J_ends gx gm ok) hc hm
  refine at_aload_n (pc := 831) X 1 2 dL_law_831 rfl rfl ?_
  refine at_calli (n := 0) (pc := 832) X 3 [] [] (mX3_ends (eL E) X.wf gx.1 e1) gL_law_X3_ends rfl ⟨rfl, rfl⟩ (by decide +kernel) ⟨Nat.le_of_ble_eq_true rfl, Nat.le_of_ble_eq_true rfl⟩ (by decide) rfl gx.1 rfl rfl (Nat.le_of_ble_eq_true rfl) dL_law_832 ?_
  refine at_aload_n (pc := 835) X 2 1 dL_law_835 rfl rfl ?_
  refine at_calli (n := 0) (pc := 836) X 4 [] [.int v] (mX4_ends (eL E) X.wf gm.1 e2) gL_law_X4_ends rfl ⟨rfl, rfl⟩ (by decide +kernel) ⟨Nat.le_of_ble_eq_true rfl, Nat.le_of_ble_eq_true rfl⟩ (by decide) rfl gm.1 rfl rfl (Nat.le_of_ble_eq_true rfl) dL_law_836 ?_
  refine at_icmp_eq (pc := 839) X 1261 dL_law_839 (by decide) (fun c => ?_) (fun c => absurd rfl c)
  exact hk σ2 Y' ok' c' m'
set_option maxHeartbeats 4000000 in
set_option maxRecDepth 100000 in
theorem lc_22 (X : mm_Cx E G cL_law 4 RL wsL_law room_1 ret) (gx : gX G x cd) (gm : gM G m cd) (hX : va_X b L xs (eS E) (eS E).heap) (hbl : b < (eS E).heap.size) (hbL : b ∉ mm_L G) (hL : L ≤ 3072) (hk6 : k + 6 ≤ L) (ok : okP Y) (hc : CR G x σ Y) (hm : MR G m σ Y) (hk : ∀ σ' Y', okP Y' → CR G x σ' Y' → MR G m σ' Y' → mm_At E G 4 Q σ' 1261 [(3, .int (nI k)), (2, .ref m), (1, .ref x), (0, .ref b)] []) : mm_At E G 4 Q σ 844 [(3, .int (nI k)), (2, .ref m), (1, .ref x), (0, .ref b)] [] := by
  obtain ⟨v, σ1, σ2, Y', e1, e2, ok', c', m'⟩ := Jc_use gx gm (J_clash gx gm ok) hc hm
  refine at_aload_n (pc := 844) X 1 2 dL_law_844 rfl rfl ?_
  refine at_calli (n := 0) (pc := 845) X 3 [] [] (mX3_clash (eL E) X.wf gx.1 e1) gL_law_X3_clash rfl ⟨rfl, rfl⟩ (by decide +kernel) ⟨Nat.le_of_ble_eq_true rfl, Nat.le_of_ble_eq_true rfl⟩ (by decide) rfl gx.1 rfl rfl (Nat.le_of_ble_eq_true rfl) dL_law_845 ?_
  refine at_aload_n (pc := 848) X 2 1 dL_law_848 rfl rfl ?_
  refine at_calli (n := 0) (pc := 849) X 4 [] [.int v] (mX4_clash (eL E) X.wf gm.1 e2) gL_law_X4_clash rfl ⟨rfl, rfl⟩ (by decide +kernel) ⟨Nat.le_of_ble_eq_true rfl, Nat.le_of_ble_eq_true rfl⟩ (by decide) rfl gm.1 rfl rfl (Nat.le_of_ble_eq_true rfl) dL_law_849 ?_
  refine at_icmp_eq (pc := 852) X 1261 dL_law_852 (by decide) (fun c => ?_) (fun c => absurd rfl c)
  exact hk σ2 Y' ok' c' m'
set_option maxHeartbeats 4000000 in
set_option maxRecDepth 100000 in
theorem lc_23 (X : mm_Cx E G cL_law 4 RL wsL_law room_1 ret) (gx : gX G x cd) (gm : gM G m cd) (hX : va_X b L xs (eS E) (eS E).heap) (hbl : b < (eS E).heap.size) (hbL : b ∉ mm_L G) (hL : L ≤ 3072) (hk6 : k + 6 ≤ L) (ok : okP Y) (hc : CR G x σ Y) (hm : MR G m σ Y) (hk : ∀ σ' Y', okP Y' → CR G x σ' Y' → MR G m σ' Y' → mm_At E G 4 Q σ' 1261 [(3, .int (nI k)), (2, .ref m), (1, .ref x), (0, .ref b)] []) : mm_At E G 4 Q σ 857 [(3, .int (nI k)), (2, .ref m), (1, .ref x), (0, .ref b)] [] := by
  obtain ⟨v, σ1, σ2, Y', e1, e2, ok', c', m'⟩ := Jc_use gx gm (J_most gx gm ok (xs (nI k + (1 : Int32)).toNatClampNeg)) hc hm
  refine at_aload_n (pc := 857) X 1 2 dL_law_857 rfl rfl ?_
  refine at_aload_n (pc := 858) X 0 3 dL_law_858 rfl rfl ?_
  refine at_iload_n (pc := 859) X 3 0 dL_law_859 rfl rfl ?_
  refine at_iconst (pc := 860) X (1 : Int32) dL_law_860 ic_1 ?_
  refine at_iadd (pc := 861) X dL_law_861 ?_
  refine at_sld (pc := 862) X hX hbl hbL (lw_in (j := 1) hL hk6 (by decide)) dL_law_862 ?_
  refine at_calli (n := 1) (pc := 863) X 3 [.int (xs (nI k + (1 : Int32)).toNatClampNeg)] [] (mX3_most (eL E) X.wf gx.1 e1) gL_law_X3_most rfl ⟨rfl, rfl⟩ (by decide +kernel) ⟨Nat.le_of_ble_eq_true rfl, Nat.le_of_ble_eq_true rfl⟩ (by decide) rfl gx.1 rfl rfl (Nat.le_of_ble_eq_true rfl) dL_law_863 ?_
  refine at_aload_n (pc := 866) X 2 1 dL_law_866 rfl rfl ?_
  refine at_aload_n (pc := 867) X 0 3 dL_law_867 rfl rfl ?_
  refine at_iload_n (pc := 868) X 3 0 dL_law_868 rfl rfl ?_
  refine at_iconst (pc := 869) X (1 : Int32) dL_law_869 ic_1 ?_
  refine at_iadd (pc := 870) X dL_law_870 ?_
  refine at_sld (pc := 871) X hX hbl hbL (lw_in (j := 1) hL hk6 (by decide)) dL_law_871 ?_
  refine at_calli (n := 1) (pc := 872) X 4 [.int (xs (nI k + (1 : Int32)).toNatClampNeg)] [.int v] (mX4_most (eL E) X.wf gm.1 e2) gL_law_X4_most rfl ⟨rfl, rfl⟩ (by decide +kernel) ⟨Nat.le_of_ble_eq_true rfl, Nat.le_of_ble_eq_true rfl⟩ (by decide) rfl gm.1 rfl rfl (Nat.le_of_ble_eq_true rfl) dL_law_872 ?_
  refine at_icmp_eq (pc := 875) X 1261 dL_law_875 (by decide) (fun c => ?_) (fun c => absurd rfl c)
  exact hk σ2 Y' ok' c' m'
set_option maxHeartbeats 4000000 in
set_option maxRecDepth 100000 in
theorem lc_24 (X : mm_Cx E G cL_law 4 RL wsL_law room_1 ret) (gx : gX G x cd) (gm : gM G m cd) (hX : va_X b L xs (eS E) (eS E).heap) (hbl : b < (eS E).heap.size) (hbL : b ∉ mm_L G) (hL : L ≤ 3072) (hk6 : k + 6 ≤ L) (ok : okP Y) (hc : CR G x σ Y) (hm : MR G m σ Y) (hk : ∀ σ' Y', okP Y' → CR G x σ' Y' → MR G m σ' Y' → mm_At E G 4 Q σ' 1261 [(3, .int (nI k)), (2, .ref m), (1, .ref x), (0, .ref b)] []) : mm_At E G 4 Q σ 880 [(3, .int (nI k)), (2, .ref m), (1, .ref x), (0, .ref b)] [] := by
  obtain ⟨v, σ1, σ2, Y', e1, e2, ok', c', m'⟩ := Jc_use gx gm (J_best gx gm ok (xs (nI k + (1 : Int32)).toNatClampNeg)) hc hm
  refine at_aload_n (pc := 880) X 1 2 dL_law_880 rfl rfl ?_
  refine at_aload_n (pc := 881) X 0 3 dL_law_881 rfl rfl ?_
  refine at_iload_n (pc := 882) X 3 0 dL_law_882 rfl rfl ?_
  refine at_iconst (pc := 883) X (1 : Int32) dL_law_883 ic_1 ?_
  refine at_iadd (pc := 884) X dL_law_884 ?_
  refine at_sld (pc := 885) X hX hbl hbL (lw_in (j := 1) hL hk6 (by decide)) dL_law_885 ?_
  refine at_calli (n := 1) (pc := 886) X 3 [.int (xs (nI k + (1 : Int32)).toNatClampNeg)] [] (mX3_best (eL E) X.wf gx.1 e1) gL_law_X3_best rfl ⟨rfl, rfl⟩ (by decide +kernel) ⟨Nat.le_of_ble_eq_true rfl, Nat.le_of_ble_eq_true rfl⟩ (by decide) rfl gx.1 rfl rfl (Nat.le_of_ble_eq_true rfl) dL_law_886 ?_
  refine at_aload_n (pc := 889) X 2 1 dL_law_889 rfl rfl ?_
  refine at_aload_n (pc := 890) X 0 3 dL_law_890 rfl rfl ?_
  refine at_iload_n (pc := 891) X 3 0 dL_law_891 rfl rfl ?_
  refine at_iconst (pc := 892) X (1 : Int32) dL_law_892 ic_1 ?_
  refine at_iadd (pc := 893) X dL_law_893 ?_
  refine at_sld (pc := 894) X hX hbl hbL (lw_in (j := 1) hL hk6 (by decide)) dL_law_894 ?_
  refine at_calli (n := 1) (pc := 895) X 4 [.int (xs (nI k + (1 : Int32)).toNatClampNeg)] [.int v] (mX4_best (eL E) X.wf gm.1 e2) gL_law_X4_best rfl ⟨rfl, rfl⟩ (by decide +kernel) ⟨Nat.le_of_ble_eq_true rfl, Nat.le_of_ble_eq_true rfl⟩ (by decide) rfl gm.1 rfl rfl (Nat.le_of_ble_eq_true rfl) dL_law_895 ?_
  refine at_icmp_eq (pc := 898) X 1261 dL_law_898 (by decide) (fun c => ?_) (fun c => absurd rfl c)
  exact hk σ2 Y' ok' c' m'
set_option maxHeartbeats 4000000 in
set_option maxRecDepth 100000 in
theorem lc_25 (X : mm_Cx E G cL_law 4 RL wsL_law room_1 ret) (gx : gX G x cd) (gm : gM G m cd) (hX : va_X b L xs (eS E) (eS E).heap) (hbl : b < (eS E).heap.size) (hbL : b ∉ mm_L G) (hL : L ≤ 3072) (hk6 : k + 6 ≤ L) (ok : okP Y) (hc : CR G x σ Y) (hm : MR G m σ Y) (hk : ∀ σ' Y', okP Y' → CR G x σ' Y' → MR G m σ' Y' → mm_At E G 4 Q σ' 1261 [(3, .int (nI k)), (2, .ref m), (1, .ref x), (0, .ref b)] []) : mm_At E G 4 Q σ 903 [(3, .int (nI k)), (2, .ref m), (1, .ref x), (0, .ref b)] [] := by
  obtain ⟨v, σ1, σ2, Y', e1, e2, ok', c', m'⟩ := Jc_use gx gm (J_silence gx gm ok (xs (nI k + (1 : Int32)).toNatClampNeg)) hc hm
  refine at_aload_n (pc := 903) X 1 2 dL_law_903 rfl rfl ?_
  refine at_aload_n (pc := 904) X 0 3 dL_law_904 rfl rfl ?_
  refine at_iload_n (pc := 905) X 3 0 dL_law_905 rfl rfl ?_
  refine at_iconst (pc := 906) X (1 : Int32) dL_law_906 ic_1 ?_
  refine at_iadd (pc := 907) X dL_law_907 ?_
  refine at_sld (pc := 908) X hX hbl hbL (lw_in (j := 1) hL hk6 (by decide)) dL_law_908 ?_
  refine at_calli (n := 1) (pc := 909) X 3 [.int (xs (nI k + (1 : Int32)).toNatClampNeg)] [] (mX3_silence (eL E) X.wf gx.1 e1) gL_law_X3_silence rfl ⟨rfl, rfl⟩ (by decide +kernel) ⟨Nat.le_of_ble_eq_true rfl, Nat.le_of_ble_eq_true rfl⟩ (by decide) rfl gx.1 rfl rfl (Nat.le_of_ble_eq_true rfl) dL_law_909 ?_
  refine at_aload_n (pc := 912) X 2 1 dL_law_912 rfl rfl ?_
  refine at_aload_n (pc := 913) X 0 3 dL_law_913 rfl rfl ?_
  refine at_iload_n (pc := 914) X 3 0 dL_law_914 rfl rfl ?_
  refine at_iconst (pc := 915) X (1 : Int32) dL_law_915 ic_1 ?_
  refine at_iadd (pc := 916) X dL_law_916 ?_
  refine at_sld (pc := 917) X hX hbl hbL (lw_in (j := 1) hL hk6 (by decide)) dL_law_917 ?_
  refine at_calli (n := 1) (pc := 918) X 4 [.int (xs (nI k + (1 : Int32)).toNatClampNeg)] [.int v] (mX4_silence (eL E) X.wf gm.1 e2) gL_law_X4_silence rfl ⟨rfl, rfl⟩ (by decide +kernel) ⟨Nat.le_of_ble_eq_true rfl, Nat.le_of_ble_eq_true rfl⟩ (by decide) rfl gm.1 rfl rfl (Nat.le_of_ble_eq_true rfl) dL_law_918 ?_
  refine at_icmp_eq (pc := 921) X 1261 dL_law_921 (by decide) (fun c => ?_) (fun c => absurd rfl c)
  exact hk σ2 Y' ok' c' m'
set_option maxHeartbeats 4000000 in
set_option maxRecDepth 100000 in
theorem lc_26 (X : mm_Cx E G cL_law 4 RL wsL_law room_1 ret) (gx : gX G x cd) (gm : gM G m cd) (hX : va_X b L xs (eS E) (eS E).heap) (hbl : b < (eS E).heap.size) (hbL : b ∉ mm_L G) (hL : L ≤ 3072) (hk6 : k + 6 ≤ L) (ok : okP Y) (hc : CR G x σ Y) (hm : MR G m σ Y) (hk : ∀ σ' Y', okP Y' → CR G x σ' Y' → MR G m σ' Y' → mm_At E G 4 Q σ' 1261 [(3, .int (nI k)), (2, .ref m), (1, .ref x), (0, .ref b)] []) : mm_At E G 4 Q σ 926 [(3, .int (nI k)), (2, .ref m), (1, .ref x), (0, .ref b)] [] := by
  obtain ⟨v, σ1, σ2, Y', e1, e2, ok', c', m'⟩ := Jc_use gx gm (J_kinds gx gm ok (xs (nI k + (1 : Int32)).toNatClampNeg) (xs (nI k + (2 : Int32)).toNatClampNeg)) hc hm
  refine at_aload_n (pc := 926) X 1 2 dL_law_926 rfl rfl ?_
  refine at_aload_n (pc := 927) X 0 3 dL_law_927 rfl rfl ?_
  refine at_iload_n (pc := 928) X 3 0 dL_law_928 rfl rfl ?_
  refine at_iconst (pc := 929) X (1 : Int32) dL_law_929 ic_1 ?_
  refine at_iadd (pc := 930) X dL_law_930 ?_
  refine at_sld (pc := 931) X hX hbl hbL (lw_in (j := 1) hL hk6 (by decide)) dL_law_931 ?_
  refine at_aload_n (pc := 932) X 0 3 dL_law_932 rfl rfl ?_
  refine at_iload_n (pc := 933) X 3 0 dL_law_933 rfl rfl ?_
  refine at_iconst (pc := 934) X (2 : Int32) dL_law_934 ic_2 ?_
  refine at_iadd (pc := 935) X dL_law_935 ?_
  refine at_sld (pc := 936) X hX hbl hbL (lw_in (j := 2) hL hk6 (by decide)) dL_law_936 ?_
  refine at_calli (n := 2) (pc := 937) X 3 [.int (xs (nI k + (1 : Int32)).toNatClampNeg), .int (xs (nI k + (2 : Int32)).toNatClampNeg)] [] (mX3_kinds (eL E) X.wf gx.1 e1) gL_law_X3_kinds rfl ⟨rfl, rfl⟩ (by decide +kernel) ⟨Nat.le_of_ble_eq_true rfl, Nat.le_of_ble_eq_true rfl⟩ (by decide) rfl gx.1 rfl rfl (Nat.le_of_ble_eq_true rfl) dL_law_937 ?_
  refine at_aload_n (pc := 940) X 2 1 dL_law_940 rfl rfl ?_
  refine at_aload_n (pc := 941) X 0 3 dL_law_941 rfl rfl ?_
  refine at_iload_n (pc := 942) X 3 0 dL_law_942 rfl rfl ?_
  refine at_iconst (pc := 943) X (1 : Int32) dL_law_943 ic_1 ?_
  refine at_iadd (pc := 944) X dL_law_944 ?_
  refine at_sld (pc := 945) X hX hbl hbL (lw_in (j := 1) hL hk6 (by decide)) dL_law_945 ?_
  refine at_aload_n (pc := 946) X 0 3 dL_law_946 rfl rfl ?_
  refine at_iload_n (pc := 947) X 3 0 dL_law_947 rfl rfl ?_
  refine at_iconst (pc := 948) X (2 : Int32) dL_law_948 ic_2 ?_
  refine at_iadd (pc := 949) X dL_law_949 ?_
  refine at_sld (pc := 950) X hX hbl hbL (lw_in (j := 2) hL hk6 (by decide)) dL_law_950 ?_
  refine at_calli (n := 2) (pc := 951) X 4 [.int (xs (nI k + (1 : Int32)).toNatClampNeg), .int (xs (nI k + (2 : Int32)).toNatClampNeg)] [.int v] (mX4_kinds (eL E) X.wf gm.1 e2) gL_law_X4_kinds rfl ⟨rfl, rfl⟩ (by decide +kernel) ⟨Nat.le_of_ble_eq_true rfl, Nat.le_of_ble_eq_true rfl⟩ (by decide) rfl gm.1 rfl rfl (Nat.le_of_ble_eq_true rfl) dL_law_951 ?_
  refine at_icmp_eq (pc := 954) X 1261 dL_law_954 (by decide) (fun c => ?_) (fun c => absurd rfl c)
  exact hk σ2 Y' ok' c' m'
set_option maxHeartbeats 4000000 in
set_option maxRecDepth 100000 in
theorem lc_27 (X : mm_Cx E G cL_law 4 RL wsL_law room_1 ret) (gx : gX G x cd) (gm : gM G m cd) (hX : va_X b L xs (eS E) (eS E).heap) (hbl : b < (eS E).heap.size) (hbL : b ∉ mm_L G) (hL : L ≤ 3072) (hk6 : k + 6 ≤ L) (ok : okP Y) (hc : CR G x σ Y) (hm : MR G m σ Y) (hk : ∀ σ' Y', okP Y' → CR G x σ' Y' → MR G m σ' Y' → mm_At E G 4 Q σ' 1261 [(3, .int (nI k)), (2, .ref m), (1, .ref x), (0, .ref b)] []) : mm_At E G 4 Q σ 959 [(3, .int (nI k)), (2, .ref m), (1, .ref x), (0, .ref b)] [] := by
  obtain ⟨v, σ1, σ2, Y', e1, e2, ok', c', m'⟩ := Jc_use gx gm (J_firsts gx gm ok (xs (nI k + (1 : Int32)).toNatClampNeg) (xs (nI k + (2 : Int32)).toNatClampNeg)) hc hm
  refine at_aload_n (pc := 959) X 1 2 dL_law_959 rfl rfl ?_
  refine at_aload_n (pc := 960) X 0 3 dL_law_960 rfl rfl ?_
  refine at_iload_n (pc := 961) X 3 0 dL_law_961 rfl rfl ?_
  refine at_iconst (pc := 962) X (1 : Int32) dL_law_962 ic_1 ?_
  refine at_iadd (pc := 963) X dL_law_963 ?_
  refine at_sld (pc := 964) X hX hbl hbL (lw_in (j := 1) hL hk6 (by decide)) dL_law_964 ?_
  refine at_aload_n (pc := 965) X 0 3 dL_law_965 rfl rfl ?_
  refine at_iload_n (pc := 966) X 3 0 dL_law_966 rfl rfl ?_
  refine at_iconst (pc := 967) X (2 : Int32) dL_law_967 ic_2 ?_
  refine at_iadd (pc := 968) X dL_law_968 ?_
  refine at_sld (pc := 969) X hX hbl hbL (lw_in (j := 2) hL hk6 (by decide)) dL_law_969 ?_
  refine at_calli (n := 2) (pc := 970) X 3 [.int (xs (nI k + (1 : Int32)).toNatClampNeg), .int (xs (nI k + (2 : Int32)).toNatClampNeg)] [] (mX3_firsts (eL E) X.wf gx.1 e1) gL_law_X3_firsts rfl ⟨rfl, rfl⟩ (by decide +kernel) ⟨Nat.le_of_ble_eq_true rfl, Nat.le_of_ble_eq_true rfl⟩ (by decide) rfl gx.1 rfl rfl (Nat.le_of_ble_eq_true rfl) dL_law_970 ?_
  refine at_aload_n (pc := 973) X 2 1 dL_law_973 rfl rfl ?_
  refine at_aload_n (pc := 974) X 0 3 dL_law_974 rfl rfl ?_
  refine at_iload_n (pc := 975) X 3 0 dL_law_975 rfl rfl ?_
  refine at_iconst (pc := 976) X (1 : Int32) dL_law_976 ic_1 ?_
  refine at_iadd (pc := 977) X dL_law_977 ?_
  refine at_sld (pc := 978) X hX hbl hbL (lw_in (j := 1) hL hk6 (by decide)) dL_law_978 ?_
  refine at_aload_n (pc := 979) X 0 3 dL_law_979 rfl rfl ?_
  refine at_iload_n (pc := 980) X 3 0 dL_law_980 rfl rfl ?_
  refine at_iconst (pc := 981) X (2 : Int32) dL_law_981 ic_2 ?_
  refine at_iadd (pc := 982) X dL_law_982 ?_
  refine at_sld (pc := 983) X hX hbl hbL (lw_in (j := 2) hL hk6 (by decide)) dL_law_983 ?_
  refine at_calli (n := 2) (pc := 984) X 4 [.int (xs (nI k + (1 : Int32)).toNatClampNeg), .int (xs (nI k + (2 : Int32)).toNatClampNeg)] [.int v] (mX4_firsts (eL E) X.wf gm.1 e2) gL_law_X4_firsts rfl ⟨rfl, rfl⟩ (by decide +kernel) ⟨Nat.le_of_ble_eq_true rfl, Nat.le_of_ble_eq_true rfl⟩ (by decide) rfl gm.1 rfl rfl (Nat.le_of_ble_eq_true rfl) dL_law_984 ?_
  refine at_icmp_eq (pc := 987) X 1261 dL_law_987 (by decide) (fun c => ?_) (fun c => absurd rfl c)
  exact hk σ2 Y' ok' c' m'
set_option maxHeartbeats 4000000 in
set_option maxRecDepth 100000 in
theorem lc_28 (X : mm_Cx E G cL_law 4 RL wsL_law room_1 ret) (gx : gX G x cd) (gm : gM G m cd) (hX : va_X b L xs (eS E) (eS E).heap) (hbl : b < (eS E).heap.size) (hbL : b ∉ mm_L G) (hL : L ≤ 3072) (hk6 : k + 6 ≤ L) (ok : okP Y) (hc : CR G x σ Y) (hm : MR G m σ Y) (hk : ∀ σ' Y', okP Y' → CR G x σ' Y' → MR G m σ' Y' → mm_At E G 4 Q σ' 1261 [(3, .int (nI k)), (2, .ref m), (1, .ref x), (0, .ref b)] []) : mm_At E G 4 Q σ 992 [(3, .int (nI k)), (2, .ref m), (1, .ref x), (0, .ref b)] [] := by
  obtain ⟨v, σ1, σ2, Y', e1, e2, ok', c', m'⟩ := Jc_use gx gm (J_test gx gm ok (xs (nI k + (1 : Int32)).toNatClampNeg) (xs (nI k + (2 : Int32)).toNatClampNeg)) hc hm
  refine at_aload_n (pc := 992) X 1 2 dL_law_992 rfl rfl ?_
  refine at_aload_n (pc := 993) X 0 3 dL_law_993 rfl rfl ?_
  refine at_iload_n (pc := 994) X 3 0 dL_law_994 rfl rfl ?_
  refine at_iconst (pc := 995) X (1 : Int32) dL_law_995 ic_1 ?_
  refine at_iadd (pc := 996) X dL_law_996 ?_
  refine at_sld (pc := 997) X hX hbl hbL (lw_in (j := 1) hL hk6 (by decide)) dL_law_997 ?_
  refine at_aload_n (pc := 998) X 0 3 dL_law_998 rfl rfl ?_
  refine at_iload_n (pc := 999) X 3 0 dL_law_999 rfl rfl ?_
  refine at_iconst (pc := 1000) X (2 : Int32) dL_law_1000 ic_2 ?_
  refine at_iadd (pc := 1001) X dL_law_1001 ?_
  refine at_sld (pc := 1002) X hX hbl hbL (lw_in (j := 2) hL hk6 (by decide)) dL_law_1002 ?_
  refine at_calli (n := 2) (pc := 1003) X 3 [.int (xs (nI k + (1 : Int32)).toNatClampNeg), .int (xs (nI k + (2 : Int32)).toNatClampNeg)] [] (mX3_test (eL E) X.wf gx.1 e1) gL_law_X3_test rfl ⟨rfl, rfl⟩ (by decide +kernel) ⟨Nat.le_of_ble_eq_true rfl, Nat.le_of_ble_eq_true rfl⟩ (by decide) rfl gx.1 rfl rfl (Nat.le_of_ble_eq_true rfl) dL_law_1003 ?_
  refine at_aload_n (pc := 1006) X 2 1 dL_law_1006 rfl rfl ?_
  refine at_aload_n (pc := 1007) X 0 3 dL_law_1007 rfl rfl ?_
  refine at_iload_n (pc := 1008) X 3 0 dL_law_1008 rfl rfl ?_
  refine at_iconst (pc := 1009) X (1 : Int32) dL_law_1009 ic_1 ?_
  refine at_iadd (pc := 1010) X dL_law_1010 ?_
  refine at_sld (pc := 1011) X hX hbl hbL (lw_in (j := 1) hL hk6 (by decide)) dL_law_1011 ?_
  refine at_aload_n (pc := 1012) X 0 3 dL_law_1012 rfl rfl ?_
  refine at_iload_n (pc := 1013) X 3 0 dL_law_1013 rfl rfl ?_
  refine at_iconst (pc := 1014) X (2 : Int32) dL_law_1014 ic_2 ?_
  refine at_iadd (pc := 1015) X dL_law_1015 ?_
  refine at_sld (pc := 1016) X hX hbl hbL (lw_in (j := 2) hL hk6 (by decide)) dL_law_1016 ?_
  refine at_calli (n := 2) (pc := 1017) X 4 [.int (xs (nI k + (1 : Int32)).toNatClampNeg), .int (xs (nI k + (2 : Int32)).toNatClampNeg)] [.int v] (mX4_test (eL E) X.wf gm.1 e2) gL_law_X4_test rfl ⟨rfl, rfl⟩ (by decide +kernel) ⟨Nat.le_of_ble_eq_true rfl, Nat.le_of_ble_eq_true rfl⟩ (by decide) rfl gm.1 rfl rfl (Nat.le_of_ble_eq_true rfl) dL_law_1017 ?_
  refine at_icmp_eq (pc := 1020) X 1261 dL_law_1020 (by decide) (fun c => ?_) (fun c => absurd rfl c)
  exact hk σ2 Y' ok' c' m'
set_option maxHeartbeats 4000000 in
set_option maxRecDepth 100000 in
theorem lc_29 (X : mm_Cx E G cL_law 4 RL wsL_law room_1 ret) (gx : gX G x cd) (gm : gM G m cd) (hX : va_X b L xs (eS E) (eS E).heap) (hbl : b < (eS E).heap.size) (hbL : b ∉ mm_L G) (hL : L ≤ 3072) (hk6 : k + 6 ≤ L) (ok : okP Y) (hc : CR G x σ Y) (hm : MR G m σ Y) (hk : ∀ σ' Y', okP Y' → CR G x σ' Y' → MR G m σ' Y' → mm_At E G 4 Q σ' 1261 [(3, .int (nI k)), (2, .ref m), (1, .ref x), (0, .ref b)] []) : mm_At E G 4 Q σ 1025 [(3, .int (nI k)), (2, .ref m), (1, .ref x), (0, .ref b)] [] := by
  obtain ⟨v, σ1, σ2, Y', e1, e2, ok', c', m'⟩ := Jc_use gx gm (J_duel gx gm ok (xs (nI k + (1 : Int32)).toNatClampNeg)) hc hm
  refine at_aload_n (pc := 1025) X 1 2 dL_law_1025 rfl rfl ?_
  refine at_aload_n (pc := 1026) X 0 3 dL_law_1026 rfl rfl ?_
  refine at_iload_n (pc := 1027) X 3 0 dL_law_1027 rfl rfl ?_
  refine at_iconst (pc := 1028) X (1 : Int32) dL_law_1028 ic_1 ?_
  refine at_iadd (pc := 1029) X dL_law_1029 ?_
  refine at_sld (pc := 1030) X hX hbl hbL (lw_in (j := 1) hL hk6 (by decide)) dL_law_1030 ?_
  refine at_calli (n := 1) (pc := 1031) X 3 [.int (xs (nI k + (1 : Int32)).toNatClampNeg)] [] (mX3_duel (eL E) X.wf gx.1 e1) gL_law_X3_duel rfl ⟨rfl, rfl⟩ (by decide +kernel) ⟨Nat.le_of_ble_eq_true rfl, Nat.le_of_ble_eq_true rfl⟩ (by decide) rfl gx.1 rfl rfl (Nat.le_of_ble_eq_true rfl) dL_law_1031 ?_
  refine at_aload_n (pc := 1034) X 2 1 dL_law_1034 rfl rfl ?_
  refine at_aload_n (pc := 1035) X 0 3 dL_law_1035 rfl rfl ?_
  refine at_iload_n (pc := 1036) X 3 0 dL_law_1036 rfl rfl ?_
  refine at_iconst (pc := 1037) X (1 : Int32) dL_law_1037 ic_1 ?_
  refine at_iadd (pc := 1038) X dL_law_1038 ?_
  refine at_sld (pc := 1039) X hX hbl hbL (lw_in (j := 1) hL hk6 (by decide)) dL_law_1039 ?_
  refine at_calli (n := 1) (pc := 1040) X 4 [.int (xs (nI k + (1 : Int32)).toNatClampNeg)] [.int v] (mX4_duel (eL E) X.wf gm.1 e2) gL_law_X4_duel rfl ⟨rfl, rfl⟩ (by decide +kernel) ⟨Nat.le_of_ble_eq_true rfl, Nat.le_of_ble_eq_true rfl⟩ (by decide) rfl gm.1 rfl rfl (Nat.le_of_ble_eq_true rfl) dL_law_1040 ?_
  refine at_icmp_eq (pc := 1043) X 1261 dL_law_1043 (by decide) (fun c => ?_) (fun c => absurd rfl c)
  exact hk σ2 Y' ok' c' m'
end LC
