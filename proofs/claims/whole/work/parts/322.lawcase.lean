section LC
variable {E : mm_E} {G : mm_G} {Q : State → Prop} {x m b L k : Nat} {cd : Nat → Nat} {xs : Nat → Int32} {σ : mm_M} {Y : Ps}
set_option maxHeartbeats 4000000 in
set_option maxRecDepth 100000 in
theorem lc_10 (X : mm_Cx E G cL_law 4 RL wsL_law room_1 ret) (gx : gX G x cd) (gm : gM G m cd) (hX : va_X b L xs (eS E) (eS E).heap) (hbl : b < (eS E).heap.size) (hbL : b ∉ mm_L G) (hL : L ≤ 3072) (hk6 : k + 6 ≤ L) (ok : okP Y) (hc : CR G x σ Y) (hm : MR G m σ Y) (hk : ∀ σ' Y', okP Y' → CR G x σ' Y' → MR G m σ' Y' → mm_At E G 4 Q σ' 1261 [(3, .int (nI k)), (2, .ref m), (1, .ref x), (0, .ref b)] []) : mm_At E G 4 Q σ 548 [(3, .int (nI k)), (2, .ref m), (1, .ref x), (0, .ref b)] [] := by
  obtain ⟨v, σ1, σ2, Y', e1, e2, ok', c', m'⟩ := Jc_use gx gm (J_station gx gm ok (xs (nI k + (1 : Int32)).toNatClampNeg) (xs (nI k + (2 : Int32)).toNatClampNeg)) hc hm
  refine at_aload_n (pc := 548) X 1 2 dL_law_548 rfl rfl ?_
  refine at_aload_n (pc := 549) X 0 3 dL_law_549 rfl rfl ?_
  refine at_iload_n (pc := 550) X 3 0 dL_law_550 rfl rfl ?_
  refine at_iconst (pc := 551) X (1 : Int32) dL_law_551 ic_1 ?_
  refine at_iadd (pc := 552) X dL_law_552 ?_
  refine at_sld (pc := 553) X hX hbl hbL (lw_in (j := 1) hL hk6 (by decide)) dL_law_553 ?_
  refine at_aload_n (pc := 554) X 0 3 dL_law_554 rfl rfl ?_
  refine at_iload_n (pc := 555) X 3 0 dL_law_555 rfl rfl ?_
  refine at_iconst (pc := 556) X (2 : Int32) dL_law_556 ic_2 ?_
  refine at_iadd (pc := 557) X dL_law_557 ?_
  refine at_sld (pc := 558) X hX hbl hbL (lw_in (j := 2) hL hk6 (by decide)) dL_law_558 ?_
  refine at_calli (n := 2) (pc := 559) X 3 [.int (xs (nI k + (1 : Int32)).toNatClampNeg), .int (xs (nI k + (2 : Int32)).toNatClampNeg)] [] (mX3_station (eL E) X.wf gx.1 e1) gL_law_X3_station rfl ⟨rfl, rfl⟩ (by decide +kernel) ⟨Nat.le_of_ble_eq_true rfl, Nat.le_of_ble_eq_true rfl⟩ (by decide) rfl gx.1 rfl rfl (Nat.le_of_ble_eq_true rfl) dL_law_559 ?_
  refine at_aload_n (pc := 562) X 2 1 dL_law_562 rfl rfl ?_
  refine at_aload_n (pc := 563) X 0 3 dL_law_563 rfl rfl ?_
  refine at_iload_n (pc := 564) X 3 0 dL_law_564 rfl rfl ?_
  refine at_iconst (pc := 565) X (1 : Int32) dL_law_565 ic_1 ?_
  refine at_iadd (pc := 566) X dL_law_566 ?_
  refine at_sld (pc := 567) X hX hbl hbL (lw_in (j := 1) hL hk6 (by decide)) dL_law_567 ?_
  refine at_aload_n (pc := 568) X 0 3 dL_law_568 rfl rfl ?_
  refine at_iload_n (pc := 569) X 3 0 dL_law_569 rfl rfl ?_
  refine at_iconst (pc := 570) X (2 : Int32) dL_law_570 ic_2 ?_
  refine at_iadd (pc := 571) X dL_law_571 ?_
  refine at_sld (pc := 572) X hX hbl hbL (lw_in (j := 2) hL hk6 (by decide)) dL_law_572 ?_
  refine at_calli (n := 2) (pc := 573) X 4 [.int (xs (nI k + (1 : Int32)).toNatClampNeg), .int (xs (nI k + (2 : Int32)).toNatClampNeg)] [.int v] (mX4_station (eL E) X.wf gm.1 e2) gL_law_X4_station rfl ⟨rfl, rfl⟩ (by decide +kernel) ⟨Nat.le_of_ble_eq_true rfl, Nat.le_of_ble_eq_true rfl⟩ (by decide) rfl gm.1 rfl rfl (Nat.le_of_ble_eq_true rfl) dL_law_573 ?_
  refine at_icmp_eq (pc := 576) X 1261 dL_law_576 (by decide) (fun c => ?_) (fun c => absurd rfl c)
  exact hk σ2 Y' ok' c' m'
set_option maxHeartbeats 4000000 in
set_option maxRecDepth 100000 in
theorem lc_11 (X : mm_Cx E G cL_law 4 RL wsL_law room_1 ret) (gx : gX G x cd) (gm : gM G m cd) (hX : va_X b L xs (eS E) (eS E).heap) (hbl : b < (eS E).heap.size) (hbL : b ∉ mm_L G) (hL : L ≤ 3072) (hk6 : k + 6 ≤ L) (ok : okP Y) (hc : CR G x σ Y) (hm : MR G m σ Y) (hk : ∀ σ' Y', okP Y' → CR G x σ' Y' → MR G m σ' Y' → mm_At E G 4 Q σ' 1261 [(3, .int (nI k)), (2, .ref m), (1, .ref x), (0, .ref b)] []) : mm_At E G 4 Q σ 581 [(3, .int (nI k)), (2, .ref m), (1, .ref x), (0, .ref b)] [] := by
  obtain ⟨v, σ1, σ2, Y', e1, e2, ok', c', m'⟩ := Jc_use gx gm (J_mark gx gm ok (xs (nI k + (1 : Int32)).toNatClampNeg) (xs (nI k + (2 : Int32)).toNatClampNeg)) hc hm
  refine at_aload_n (pc := 581) X 1 2 dL_law_581 rfl rfl ?_
  refine at_aload_n (pc := 582) X 0 3 dL_law_582 rfl rfl ?_
  refine at_iload_n (pc := 583) X 3 0 dL_law_583 rfl rfl ?_
  refine at_iconst (pc := 584) X (1 : Int32) dL_law_584 ic_1 ?_
  refine at_iadd (pc := 585) X dL_law_585 ?_
  refine at_sld (pc := 586) X hX hbl hbL (lw_in (j := 1) hL hk6 (by decide)) dL_law_586 ?_
  refine at_aload_n (pc := 587) X 0 3 dL_law_587 rfl rfl ?_
  refine at_iload_n (pc := 588) X 3 0 dL_law_588 rfl rfl ?_
  refine at_iconst (pc := 589) X (2 : Int32) dL_law_589 ic_2 ?_
  refine at_iadd (pc := 590) X dL_law_590 ?_
  refine at_sld (pc := 591) X hX hbl hbL (lw_in (j := 2) hL hk6 (by decide)) dL_law_591 ?_
  refine at_calli (n := 2) (pc := 592) X 3 [.int (xs (nI k + (1 : Int32)).toNatClampNeg), .int (xs (nI k + (2 : Int32)).toNatClampNeg)] [] (mX3_mark (eL E) X.wf gx.1 e1) gL_law_X3_mark rfl ⟨rfl, rfl⟩ (by decide +kernel) ⟨Nat.le_of_ble_eq_true rfl, Nat.le_of_ble_eq_true rfl⟩ (by decide) rfl gx.1 rfl rfl (Nat.le_of_ble_eq_true rfl) dL_law_592 ?_
  refine at_aload_n (pc := 595) X 2 1 dL_law_595 rfl rfl ?_
  refine at_aload_n (pc := 596) X 0 3 dL_law_596 rfl rfl ?_
  refine at_iload_n (pc := 597) X 3 0 dL_law_597 rfl rfl ?_
  refine at_iconst (pc := 598) X (1 : Int32) dL_law_598 ic_1 ?_
  refine at_iadd (pc := 599) X dL_law_599 ?_
  refine at_sld (pc := 600) X hX hbl hbL (lw_in (j := 1) hL hk6 (by decide)) dL_law_600 ?_
  refine at_aload_n (pc := 601) X 0 3 dL_law_601 rfl rfl ?_
  refine at_iload_n (pc := 602) X 3 0 dL_law_602 rfl rfl ?_
  refine at_iconst (pc := 603) X (2 : Int32) dL_law_603 ic_2 ?_
  refine at_iadd (pc := 604) X dL_law_604 ?_
  refine at_sld (pc := 605) X hX hbl hbL (lw_in (j := 2) hL hk6 (by decide)) dL_law_605 ?_
  refine at_calli (n := 2) (pc := 606) X 4 [.int (xs (nI k + (1 : Int32)).toNatClampNeg), .int (xs (nI k + (2 : Int32)).toNatClampNeg)] [.int v] (mX4_mark (eL E) X.wf gm.1 e2) gL_law_X4_mark rfl ⟨rfl, rfl⟩ (by decide +kernel) ⟨Nat.le_of_ble_eq_true rfl, Nat.le_of_ble_eq_true rfl⟩ (by decide) rfl gm.1 rfl rfl (Nat.le_of_ble_eq_true rfl) dL_law_606 ?_
  refine at_icmp_eq (pc := 609) X 1261 dL_law_609 (by decide) (fun c => ?_) (fun c => absurd rfl c)
  exact hk σ2 Y' ok' c' m'
set_option maxHeartbeats 4000000 in
set_option maxRecDepth 100000 in
theorem lc_12 (X : mm_Cx E G cL_law 4 RL wsL_law room_1 ret) (gx : gX G x cd) (gm : gM G m cd) (hX : va_X b L xs (eS E) (eS E).heap) (hbl : b < (eS E).heap.size) (hbL : b ∉ mm_L G) (hL : L ≤ 3072) (hk6 : k + 6 ≤ L) (ok : okP Y) (hc : CR G x σ Y) (hm : MR G m σ Y) (hk : ∀ σ' Y', okP Y' → CR G x σ' Y' → MR G m σ' Y' → mm_At E G 4 Q σ' 1261 [(3, .int (nI k)), (2, .ref m), (1, .ref x), (0, .ref b)] []) : mm_At E G 4 Q σ 614 [(3, .int (nI k)), (2, .ref m), (1, .ref x), (0, .ref b)] [] := by
  obtain ⟨v, σ1, σ2, Y', e1, e2, ok', c', m'⟩ := Jc_use gx gm (J_slot gx gm ok) hc hm
  refine at_aload_n (pc := 614) X 1 2 dL_law_614 rfl rfl ?_
  refine at_calli (n := 0) (pc := 615) X 3 [] [] (mX3_slot (eL E) X.wf gx.1 e1) gL_law_X3_slot rfl ⟨rfl, rfl⟩ (by decide +kernel) ⟨Nat.le_of_ble_eq_true rfl, Nat.le_of_ble_eq_true rfl⟩ (by decide) rfl gx.1 rfl rfl (Nat.le_of_ble_eq_true rfl) dL_law_615 ?_
  refine at_aload_n (pc := 618) X 2 1 dL_law_618 rfl rfl ?_
  refine at_calli (n := 0) (pc := 619) X 4 [] [.int v] (mX4_slot (eL E) X.wf gm.1 e2) gL_law_X4_slot rfl ⟨rfl, rfl⟩ (by decide +kernel) ⟨Nat.le_of_ble_eq_true rfl, Nat.le_of_ble_eq_true rfl⟩ (by decide) rfl gm.1 rfl rfl (Nat.le_of_ble_eq_true rfl) dL_law_619 ?_
  refine at_icmp_eq (pc := 622) X 1261 dL_law_622 (by decide) (fun c => ?_) (fun c => absurd rfl c)
  exact hk σ2 Y' ok' c' m'
set_option maxHeartbeats 4000000 in
set_option maxRecDepth 100000 in
theorem lc_13 (X : mm_Cx E G cL_law 4 RL wsL_law room_1 ret) (gx : gX G x cd) (gm : gM G m cd) (hX : va_X b L xs (eS E) (eS E).heap) (hbl : b < (eS E).heap.size) (hbL : b ∉ mm_L G) (hL : L ≤ 3072) (hk6 : k + 6 ≤ L) (ok : okP Y) (hc : CR G x σ Y) (hm : MR G m σ Y) (hk : ∀ σ' Y', okP Y' → CR G x σ' Y' → MR G m σ' Y' → mm_At E G 4 Q σ' 1261 [(3, .int (nI k)), (2, .ref m), (1, .ref x), (0, .ref b)] []) : mm_At E G 4 Q σ 627 [(3, .int (nI k)), (2, .ref m), (1, .ref x), (0, .ref b)] [] := by
  obtain ⟨v, σ1, σ2, Y', e1, e2, ok', c', m'⟩ := Jc_use gx gm (J_give gx gm ok (xs (nI k + (1 : Int32)).toNatClampNeg) (xs (nI k + (2 : Int32)).toNatClampNeg)) hc hm
  refine at_aload_n (pc := 627) X 1 2 dL_law_627 rfl rfl ?_
  refine at_aload_n (pc := 628) X 0 3 dL_law_628 rfl rfl ?_
  refine at_iload_n (pc := 629) X 3 0 dL_law_629 rfl rfl ?_
  refine at_iconst (pc := 630) X (1 : Int32) dL_law_630 ic_1 ?_
  refine at_iadd (pc := 631) X dL_law_631 ?_
  refine at_sld (pc := 632) X hX hbl hbL (lw_in (j := 1) hL hk6 (by decide)) dL_law_632 ?_
  refine at_aload_n (pc := 633) X 0 3 dL_law_633 rfl rfl ?_
  refine at_iload_n (pc := 634) X 3 0 dL_law_634 rfl rfl ?_
  refine at_iconst (pc := 635) X (2 : Int32) dL_law_635 ic_2 ?_
  refine at_iadd (pc := 636) X dL_law_636 ?_
  refine at_sld (pc := 637) X hX hbl hbL (lw_in (j := 2) hL hk6 (by decide)) dL_law_637 ?_
  refine at_calli (n := 2) (pc := 638) X 3 [.int (xs (nI k + (1 : Int32)).toNatClampNeg), .int (xs (nI k + (2 : Int32)).toNatClampNeg)] [] (mX3_give (eL E) X.wf gx.1 e1) gL_law_X3_give rfl ⟨rfl, rfl⟩ (by decide +kernel) ⟨Nat.le_of_ble_eq_true rfl, Nat.le_of_ble_eq_true rfl⟩ (by decide) rfl gx.1 rfl rfl (Nat.le_of_ble_eq_true rfl) dL_law_638 ?_
  refine at_aload_n (pc := 641) X 2 1 dL_law_641 rfl rfl ?_
  refine at_aload_n (pc := 642) X 0 3 dL_law_642 rfl rfl ?_
  refine at_iload_n (pc := 643) X 3 0 dL_law_643 rfl rfl ?_
  refine at_iconst (pc := 644) X (1 : Int32) dL_law_644 ic_1 ?_
  refine at_iadd (pc := 645) X dL_law_645 ?_
  refine at_sld (pc := 646) X hX hbl hbL (lw_in (j := 1) hL hk6 (by decide)) dL_law_646 ?_
  refine at_aload_n (pc := 647) X 0 3 dL_law_647 rfl rfl ?_
  refine at_iload_n (pc := 648) X 3 0 dL_law_648 rfl rfl ?_
  refine at_iconst (pc := 649) X (2 : Int32) dL_law_649 ic_2 ?_
  refine at_iadd (pc := 650) X dL_law_650 ?_
  refine at_sld (pc := 651) X hX hbl hbL (lw_in (j := 2) hL hk6 (by decide)) dL_law_651 ?_
  refine at_calli (n := 2) (pc := 652) X 4 [.int (xs (nI k + (1 : Int32)).toNatClampNeg), .int (xs (nI k + (2 : Int32)).toNatClampNeg)] [.int v] (mX4_give (eL E) X.wf gm.1 e2) gL_law_X4_give rfl ⟨rfl, rfl⟩ (by decide +kernel) ⟨Nat.le_of_ble_eq_true rfl, Nat.le_of_ble_eq_true rfl⟩ (by decide) rfl gm.1 rfl rfl (Nat.le_of_ble_eq_true rfl) dL_law_652 ?_
  refine at_icmp_eq (pc := 655) X 1261 dL_law_655 (by decide) (fun c => ?_) (fun c => absurd rfl c)
  exact hk σ2 Y' ok' c' m'
set_option maxHeartbeats 4000000 in
set_option maxRecDepth 100000 in
theorem lc_14 (X : mm_Cx E G cL_law 4 RL wsL_law room_1 ret) (gx : gX G x cd) (gm : gM G m cd) (hX : va_X b L xs (eS E) (eS E).heap) (hbl : b < (eS E).heap.size) (hbL : b ∉ mm_L G) (hL : L ≤ 3072) (hk6 : k + 6 ≤ L) (ok : okP Y) (hc : CR G x σ Y) (hm : MR G m σ Y) (hk : ∀ σ' Y', okP Y' → CR G x σ' Y' → MR G m σ' Y' → mm_At E G 4 Q σ' 1261 [(3, .int (nI k)), (2, .ref m), (1, .ref x), (0, .ref b)] []) : mm_At E G 4 Q σ 660 [(3, .int (nI k)), (2, .ref m), (1, .ref x), (0, .ref b)] [] := by
  obtain ⟨v, σ1, σ2, Y', e1, e2, ok', c', m'⟩ := Jc_use gx gm (J_drop gx gm ok (xs (nI k + (1 : Int32)).toNatClampNeg)) hc hm
  refine at_aload_n (pc := 660) X 1 2 dL_law_660 rfl rfl ?_
  refine at_aload_n (pc := 661) X 0 3 dL_law_661 rfl rfl ?_
  refine at_iload_n (pc := 662) X 3 0 dL_law_662 rfl rfl ?_
  refine at_iconst (pc := 663) X (1 : Int32) dL_law_663 ic_1 ?_
  refine at_iadd (pc := 664) X dL_law_664 ?_
  refine at_sld (pc := 665) X hX hbl hbL (lw_in (j := 1) hL hk6 (by decide)) dL_law_665 ?_
  refine at_calli (n := 1) (pc := 666) X 3 [.int (xs (nI k + (1 : Int32)).toNatClampNeg)] [] (mX3_drop (eL E) X.wf gx.1 e1) gL_law_X3_drop rfl ⟨rfl, rfl⟩ (by decide +kernel) ⟨Nat.le_of_ble_eq_true rfl, Nat.le_of_ble_eq_true rfl⟩ (by decide) rfl gx.1 rfl rfl (Nat.le_of_ble_eq_true rfl) dL_law_666 ?_
  refine at_aload_n (pc := 669) X 2 1 dL_law_669 rfl rfl ?_
  refine at_aload_n (pc := 670) X 0 3 dL_law_670 rfl rfl ?_
  refine at_iload_n (pc := 671) X 3 0 dL_law_671 rfl rfl ?_
  refine at_iconst (pc := 672) X (1 : Int32) dL_law_672 ic_1 ?_
  refine at_iadd (pc := 673) X dL_law_673 ?_
  refine at_sld (pc := 674) X hX hbl hbL (lw_in (j := 1) hL hk6 (by decide)) dL_law_674 ?_
  refine at_calli (n := 1) (pc := 675) X 4 [.int (xs (nI k + (1 : Int32)).toNatClampNeg)] [.int v] (mX4_drop (eL E) X.wf gm.1 e2) gL_law_X4_drop rfl ⟨rfl, rfl⟩ (by decide +kernel) ⟨Nat.le_of_ble_eq_true rfl, Nat.le_of_ble_eq_true rfl⟩ (by decide) rfl gm.1 rfl rfl (Nat.le_of_ble_eq_true rfl) dL_law_675 ?_
  refine at_icmp_eq (pc := 678) X 1261 dL_law_678 (by decide) (fun c => ?_) (fun c => absurd rfl c)
  exact hk σ2 Y' ok' c' m'
set_option maxHeartbeats 4000000 in
set_option maxRecDepth 100000 in
theorem lc_15 (X : mm_Cx E G cL_law 4 RL wsL_law room_1 ret) (gx : gX G x cd) (gm : gM G m cd) (hX : va_X b L xs (eS E) (eS E).heap) (hbl : b < (eS E).heap.size) (hbL : b ∉ mm_L G) (hL : L ≤ 3072) (hk6 : k + 6 ≤ L) (ok : okP Y) (hc : CR G x σ Y) (hm : MR G m σ Y) (hk : ∀ σ' Y', okP Y' → CR G x σ' Y' → MR G m σ' Y' → mm_At E G 4 Q σ' 1261 [(3, .int (nI k)), (2, .ref m), (1, .ref x), (0, .ref b)] []) : mm_At E G 4 Q σ 683 [(3, .int (nI k)), (2, .ref m), (1, .ref x), (0, .ref b)] [] := by
  obtain ⟨v, σ1, σ2, Y', e1, e2, ok', c', m'⟩ := Jc_use gx gm (J_first gx gm ok (xs (nI k + (1 : Int32)).toNatClampNeg) (xs (nI k + (2 : Int32)).toNatClampNeg)) hc hm
  refine at_aload_n (pc := 683) X 1 2 dL_law_683 rfl rfl ?_
  refine at_aload_n (pc := 684) X 0 3 dL_law_684 rfl rfl ?_
  refine at_iload_n (pc := 685) X 3 0 dL_law_685 rfl rfl ?_
  refine at_iconst (pc := 686) X (1 : Int32) dL_law_686 ic_1 ?_
  refine at_iadd (pc := 687) X dL_law_687 ?_
  refine at_sld (pc := 688) X hX hbl hbL (lw_in (j := 1) hL hk6 (by decide)) dL_law_688 ?_
  refine at_aload_n (pc := 689) X 0 3 dL_law_689 rfl rfl ?_
  refine at_iload_n (pc := 690) X 3 0 dL_law_690 rfl rfl ?_
  refine at_iconst (pc := 691) X (2 : Int32) dL_law_691 ic_2 ?_
  refine at_iadd (pc := 692) X dL_law_692 ?_
  refine at_sld (pc := 693) X hX hbl hbL (lw_in (j := 2) hL hk6 (by decide)) dL_law_693 ?_
  refine at_calli (n := 2) (pc := 694) X 3 [.int (xs (nI k + (1 : Int32)).toNatClampNeg), .int (xs (nI k + (2 : Int32)).toNatClampNeg)] [] (mX3_first (eL E) X.wf gx.1 e1) gL_law_X3_first rfl ⟨rfl, rfl⟩ (by decide +kernel) ⟨Nat.le_of_ble_eq_true rfl, Nat.le_of_ble_eq_true rfl⟩ (by decide) rfl gx.1 rfl rfl (Nat.le_of_ble_eq_true rfl) dL_law_694 ?_
  refine at_aload_n (pc := 697) X 2 1 dL_law_697 rfl rfl ?_
  refine at_aload_n (pc := 698) X 0 3 dL_law_698 rfl rfl ?_
  refine at_iload_n (pc := 699) X 3 0 dL_law_699 rfl rfl ?_
  refine at_iconst (pc := 700) X (1 : Int32) dL_law_700 ic_1 ?_
  refine at_iadd (pc := 701) X dL_law_701 ?_
  refine at_sld (pc := 702) X hX hbl hbL (lw_in (j := 1) hL hk6 (by decide)) dL_law_702 ?_
  refine at_aload_n (pc := 703) X 0 3 dL_law_703 rfl rfl ?_
  refine at_iload_n (pc := 704) X 3 0 dL_law_704 rfl rfl ?_
  refine at_iconst (pc := 705) X (2 : Int32) dL_law_705 ic_2 ?_
  refine at_iadd (pc := 706) X dL_law_706 ?_
  refine at_sld (pc := 707) X hX hbl hbL (lw_in (j := 2) hL hk6 (by decide)) dL_law_707 ?_
  refine at_calli (n := 2) (pc := 708) X 4 [.int (xs (nI k + (1 : Int32)).toNatClampNeg), .int (xs (nI k + (2 : Int32)).toNatClampNeg)] [.int v] (mX4_first (eL E) X.wf gm.1 e2) gL_law_X4_first rfl ⟨rfl, rfl⟩ (by decide +kernel) ⟨Nat.le_of_ble_eq_true rfl, Nat.le_of_ble_eq_true rfl⟩ (by decide) rfl gm.1 rfl rfl (Nat.le_of_ble_eq_true rfl) dL_law_708 ?_
  refine at_icmp_eq (pc := 711) X 1261 dL_law_711 (by decide) (fun c => ?_) (fun c => absurd rfl c)
  exact hk σ2 Y' ok' c' m'
set_option maxHeartbeats 4000000 in
set_option maxRecDepth 100000 in
theorem lc_16 (X : mm_Cx E G cL_law 4 RL wsL_law room_1 ret) (gx : gX G x cd) (gm : gM G m cd) (hX : va_X b L xs (eS E) (eS E).heap) (hbl : b < (eS E).heap.size) (hbL : b ∉ mm_L G) (hL : L ≤ 3072) (hk6 : k + 6 ≤ L) (ok : okP Y) (hc : CR G x σ Y) (hm : MR G m σ Y) (hk : ∀ σ' Y', okP Y' → CR G x σ' Y' → MR G m σ' Y' → mm_At E G 4 Q σ' 1261 [(3, .int (nI k)), (2, .ref m), (1, .ref x), (0, .ref b)] []) : mm_At E G 4 Q σ 716 [(3, .int (nI k)), (2, .ref m), (1, .ref x), (0, .ref b)] [] := by
  obtain ⟨v, σ1, σ2, Y', e1, e2, ok', c', m'⟩ := Jc_use gx gm (J_undo gx gm ok (xs (nI k + (1 : Int32)).toNatClampNeg)) hc hm
  refine at_aload_n (pc := 716) X 1 2 dL_law_716 rfl rfl ?_
  refine at_aload_n (pc := 717) X 0 3 dL_law_717 rfl rfl ?_
  refine at_iload_n (pc := 718) X 3 0 dL_law_718 rfl rfl ?_
  refine at_iconst (pc := 719) X (1 : Int32) dL_law_719 ic_1 ?_
  refine at_iadd (pc := 720) X dL_law_720 ?_
  refine at_sld (pc := 721) X hX hbl hbL (lw_in (j := 1) hL hk6 (by decide)) dL_law_721 ?_
  refine at_calli (n := 1) (pc := 722) X 3 [.int (xs (nI k + (1 : Int32)).toNatClampNeg)] [] (mX3_undo (eL E) X.wf gx.1 e1) gL_law_X3_undo rfl ⟨rfl, rfl⟩ (by decide +kernel) ⟨Nat.le_of_ble_eq_true rfl, Nat.le_of_ble_eq_true rfl⟩ (by decide) rfl gx.1 rfl rfl (Nat.le_of_ble_eq_true rfl) dL_law_722 ?_
  refine at_aload_n (pc := 725) X 2 1 dL_law_725 rfl rfl ?_
  refine at_aload_n (pc := 726) X 0 3 dL_law_726 rfl rfl ?_
  refine at_iload_n (pc := 727) X 3 0 dL_law_727 rfl rfl ?_
  refine at_iconst (pc := 728) X (1 : Int32) dL_law_728 ic_1 ?_
  refine at_iadd (pc := 729) X dL_law_729 ?_
  refine at_sld (pc := 730) X hX hbl hbL (lw_in (j := 1) hL hk6 (by decide)) dL_law_730 ?_
  refine at_calli (n := 1) (pc := 731) X 4 [.int (xs (nI k + (1 : Int32)).toNatClampNeg)] [.int v] (mX4_undo (eL E) X.wf gm.1 e2) gL_law_X4_undo rfl ⟨rfl, rfl⟩ (by decide +kernel) ⟨Nat.le_of_ble_eq_true rfl, Nat.le_of_ble_eq_true rfl⟩ (by decide) rfl gm.1 rfl rfl (Nat.le_of_ble_eq_true rfl) dL_law_731 ?_
  refine at_icmp_eq (pc := 734) X 1261 dL_law_734 (by decide) (fun c => ?_) (fun c => absurd rfl c)
  exact hk σ2 Y' ok' c' m'
set_option maxHeartbeats 4000000 in
set_option maxRecDepth 100000 in
theorem lc_17 (X : mm_Cx E G cL_law 4 RL wsL_law room_1 ret) (gx : gX G x cd) (gm : gM G m cd) (hX : va_X b L xs (eS E) (eS E).heap) (hbl : b < (eS E).heap.size) (hbL : b ∉ mm_L G) (hL : L ≤ 3072) (hk6 : k + 6 ≤ L) (ok : okP Y) (hc : CR G x σ Y) (hm : MR G m σ Y) (hk : ∀ σ' Y', okP Y' → CR G x σ' Y' → MR G m σ' Y' → mm_At E G 4 Q σ' 1261 [(3, .int (nI k)), (2, .ref m), (1, .ref x), (0, .ref b)] []) : mm_At E G 4 Q σ 739 [(3, .int (nI k)), (2, .ref m), (1, .ref x), (0, .ref b)] [] := by
  obtain ⟨v, σ1, σ2, Y', e1, e2, ok', c', m'⟩ := Jc_use gx gm (J_keep gx gm ok (xs (nI k + (1 : Int32)).toNatClampNeg)) hc hm
  refine at_aload_n (pc := 739) X 1 2 dL_law_739 rfl rfl ?_
  refine at_aload_n (pc := 740) X 0 3 dL_law_740 rfl rfl ?_
  refine at_iload_n (pc := 741) X 3 0 dL_law_741 rfl rfl ?_
  refine at_iconst (pc := 742) X (1 : Int32) dL_law_742 ic_1 ?_
  refine at_iadd (pc := 743) X dL_law_743 ?_
  refine at_sld (pc := 744) X hX hbl hbL (lw_in (j := 1) hL hk6 (by decide)) dL_law_744 ?_
  refine at_calli (n := 1) (pc := 745) X 3 [.int (xs (nI k + (1 : Int32)).toNatClampNeg)] [] (mX3_keep (eL E) X.wf gx.1 e1) gL_law_X3_keep rfl ⟨rfl, rfl⟩ (by decide +kernel) ⟨Nat.le_of_ble_eq_true rfl, Nat.le_of_ble_eq_true rfl⟩ (by decide) rfl gx.1 rfl rfl (Nat.le_of_ble_eq_true rfl) dL_law_745 ?_
  refine at_aload_n (pc := 748) X 2 1 dL_law_748 rfl rfl ?_
  refine at_aload_n (pc := 749) X 0 3 dL_law_749 rfl rfl ?_
  refine at_iload_n (pc := 750) X 3 0 dL_law_750 rfl rfl ?_
  refine at_iconst (pc := 751) X (1 : Int32) dL_law_751 ic_1 ?_
  refine at_iadd (pc := 752) X dL_law_752 ?_
  refine at_sld (pc := 753) X hX hbl hbL (lw_in (j := 1) hL hk6 (by decide)) dL_law_753 ?_
  refine at_calli (n := 1) (pc := 754) X 4 [.int (xs (nI k + (1 : Int32)).toNatClampNeg)] [.int v] (mX4_keep (eL E) X.wf gm.1 e2) gL_law_X4_keep rfl ⟨rfl, rfl⟩ (by decide +kernel) ⟨Nat.le_of_ble_eq_true rfl, Nat.le_of_ble_eq_true rfl⟩ (by decide) rfl gm.1 rfl rfl (Nat.le_of_ble_eq_true rfl) dL_law_754 ?_
  refine at_icmp_eq (pc := 757) X 1261 dL_law_757 (by decide) (fun c => ?_) (fun c => absurd rfl c)
  exact hk σ2 Y' ok' c' m'
set_option maxHeartbeats 4000000 in
set_option maxRecDepth 100000 in
theorem lc_18 (X : mm_Cx E G cL_law 4 RL wsL_law room_1 ret) (gx : gX G x cd) (gm : gM G m cd) (hX : va_X b L xs (eS E) (eS E).heap) (hbl : b < (eS E).heap.size) (hbL : b ∉ mm_L G) (hL : L ≤ 3072) (hk6 : k + 6 ≤ L) (ok : okP Y) (hc : CR G x σ Y) (hm : MR G m σ Y) (hk : ∀ σ' Y', okP Y' → CR G x σ' Y' → MR G m σ' Y' → mm_At E G 4 Q σ' 1261 [(3, .int (nI k)), (2, .ref m), (1, .ref x), (0, .ref b)] []) : mm_At E G 4 Q σ 762 [(3, .int (nI k)), (2, .ref m), (1, .ref x), (0, .ref b)] [] := by
  obtain ⟨v, σ1, σ2, Y', e1, e2, ok', c', m'⟩ := Jc_use gx gm (J_on gx gm ok (xs (nI k + (1 : Int32)).toNatClampNeg)) hc hm
  refine at_aload_n (pc := 762) X 1 2 dL_law_762 rfl rfl ?_
  refine at_aload_n (pc := 763) X 0 3 dL_law_763 rfl rfl ?_
  refine at_iload_n (pc := 764) X 3 0 dL_law_764 rfl rfl ?_
  refine at_iconst (pc := 765) X (1 : Int32) dL_law_765 ic_1 ?_
  refine at_iadd (pc := 766) X dL_law_766 ?_
  refine at_sld (pc := 767) X hX hbl hbL (lw_in (j := 1) hL hk6 (by decide)) dL_law_767 ?_
  refine at_calli (n := 1) (pc := 768) X 3 [.int (xs (nI k + (1 : Int32)).toNatClampNeg)] [] (mX3_on (eL E) X.wf gx.1 e1) gL_law_X3_on rfl ⟨rfl, rfl⟩ (by decide +kernel) ⟨Nat.le_of_ble_eq_true rfl, Nat.le_of_ble_eq_true rfl⟩ (by decide) rfl gx.1 rfl rfl (Nat.le_of_ble_eq_true rfl) dL_law_768 ?_
  refine at_aload_n (pc := 771) X 2 1 dL_law_771 rfl rfl ?_
  refine at_aload_n (pc := 772) X 0 3 dL_law_772 rfl rfl ?_
  refine at_iload_n (pc := 773) X 3 0 dL_law_773 rfl rfl ?_
  refine at_iconst (pc := 774) X (1 : Int32) dL_law_774 ic_1 ?_
  refine at_iadd (pc := 775) X dL_law_775 ?_
  refine at_sld (pc := 776) X hX hbl hbL (lw_in (j := 1) hL hk6 (by decide)) dL_law_776 ?_
  refine at_calli (n := 1) (pc := 777) X 4 [.int (xs (nI k + (1 : Int32)).toNatClampNeg)] [.int v] (mX4_on (eL E) X.wf gm.1 e2) gL_law_X4_on rfl ⟨rfl, rfl⟩ (by decide +kernel) ⟨Nat.le_of_ble_eq_true rfl, Nat.le_of_ble_eq_true rfl⟩ (by decide) rfl gm.1 rfl rfl (Nat.le_of_ble_eq_true rfl) dL_law_777 ?_
  refine at_icmp_eq (pc := 780) X 1261 dL_law_780 (by decide) (fun c => ?_) (fun c => absurd rfl c)
  exact hk σ2 Y' ok' c' m'
set_option maxHeartbeats 4000000 in
set_option maxRecDepth 100000 in
theorem lc_19 (X : mm_Cx E G cL_law 4 RL wsL_law room_1 ret) (gx : gX G x cd) (gm : gM G m cd) (hX : va_X b L xs (eS E) (eS E).heap) (hbl : b < (eS E).heap.size) (hbL : b ∉ mm_L G) (hL : L ≤ 3072) (hk6 : k + 6 ≤ L) (ok : okP Y) (hc : CR G x σ Y) (hm : MR G m σ Y) (hk : ∀ σ' Y', okP Y' → CR G x σ' Y' → MR G m σ' Y' → mm_At E G 4 Q σ' 1261 [(3, .int (nI k)), (2, .ref m), (1, .ref x), (0, .ref b)] []) : mm_At E G 4 Q σ 785 [(3, .int (nI k)), (2, .ref m), (1, .ref x), (0, .ref b)] [] := by
  obtain ⟨v, σ1, σ2, Y', e1, e2, ok', c', m'⟩ := Jc_use gx gm (J_talks gx gm ok) hc hm
  refine at_aload_n (pc := 785) X 1 2 dL_law_785 rfl rfl ?_
  refine at_calli (n := 0) (pc := 786) X 3 [] [] (mX3_talks (eL E) X.wf gx.1 e1) gL_law_X3_talks rfl ⟨rfl, rfl⟩ (by decide +kernel) ⟨Nat.le_of_ble_eq_true rfl, Nat.le_of_ble_eq_true rfl⟩ (by decide) rfl gx.1 rfl rfl (Nat.le_of_ble_eq_true rfl) dL_law_786 ?_
  refine at_aload_n (pc := 789) X 2 1 dL_law_789 rfl rfl ?_
  refine at_calli (n := 0) (pc := 790) X 4 [] [.int v] (mX4_talks (eL E) X.wf gm.1 e2) gL_law_X4_talks rfl ⟨rfl, rfl⟩ (by decide +kernel) ⟨Nat.le_of_ble_eq_true rfl, Nat.le_of_ble_eq_true rfl⟩ (by decide) rfl gm.1 rfl rfl (Nat.le_of_ble_eq_true rfl) dL_law_790 ?_
  refine at_icmp_eq (pc := 793) X 1261 dL_law_793 (by decide) (fun c => ?_) (fun c => absurd rfl c)
  exact hk σ2 Y' ok' c' m'
end LC
