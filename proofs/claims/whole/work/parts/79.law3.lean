
-- the law's cases 15 to 21
section VLC2
variable {l : Launch} {D : va_G} {cy : CY} {B n b L : Nat} {xs : Nat → Int32} {h : Hp} {lg : Lg} {π : Nat → Nat} {σ : Sg}
theorem case15 {i : Nat} (hi : i + 4 ≤ L) (hL : L ≤ 256) (X : XI h π σ) (M : MI h σ) (K : ∀ π h lg σ, XI h π σ → MI h σ → WP l D cy B cL_law 4 RL wsL_law room_1 ret lw_Z (EXL B b L xs) 105 (rf0 π) h lg 105 2207 871 [some (.ref b), some (.ref (B + 0)), some (.ref (B + 89)), some (.int (nI (i)))] []) : WP l D cy B cL_law 4 RL wsL_law room_1 ret lw_Z (EXL B b L xs) 105 (rf0 π) h lg 105 2207 519 [some (.ref b), some (.ref (B + 0)), some (.ref (B + 89)), some (.int (nI (i)))] [] := by
  refine wp_aload_n_1 (pc' := 520) dL_law_519 rfl ?_
  refine wp_callVX (pc' := 523) (c_X7_nobody (by omega) X ) gL_law_X7_nobody rfl rfl hy_X7_nobody ⟨Nat.le_of_ble_eq_true rfl, Nat.le_of_ble_eq_true rfl⟩ ⟨rfl, rfl⟩ (Nat.le_of_ble_eq_true rfl) ⟨Nat.le_of_ble_eq_true rfl, Nat.le_of_ble_eq_true rfl⟩ (by omega) (ce7 rfl) rfl rfl dL_law_520 rfl (fun π520 h520 X520 f520 => ?_)
  refine wp_aload_n_2 (pc' := 524) dL_law_523 rfl ?_
  refine wp_callVZ (pc' := 527) (c_X8_nobody (by omega) (M.up f520) ) gL_law_X8_nobody rfl rfl hy_X8_nobody ⟨Nat.le_of_ble_eq_true rfl, Nat.le_of_ble_eq_true rfl⟩ ⟨rfl, rfl⟩ (Nat.le_of_ble_eq_true rfl) ⟨Nat.le_of_ble_eq_true rfl, Nat.le_of_ble_eq_true rfl⟩ (by omega) (ce8 rfl) rfl rfl dL_law_524 rfl (fun h524 l524 M524 f524 => ?_)
  refine wp_icmp_eq (pc' := 530) (tgt := 871) dL_law_527 rfl rfl (fun c527 => ?_) (fun c527 => by exfalso; exact c527 rfl)
  exact K _ _ _ _ (X520.lo f524) M524
theorem case16 {i : Nat} (hi : i + 4 ≤ L) (hL : L ≤ 256) (X : XI h π σ) (M : MI h σ) (K : ∀ π h lg σ, XI h π σ → MI h σ → WP l D cy B cL_law 4 RL wsL_law room_1 ret lw_Z (EXL B b L xs) 105 (rf0 π) h lg 105 2207 871 [some (.ref b), some (.ref (B + 0)), some (.ref (B + 89)), some (.int (nI (i)))] []) : WP l D cy B cL_law 4 RL wsL_law room_1 ret lw_Z (EXL B b L xs) 105 (rf0 π) h lg 105 2207 532 [some (.ref b), some (.ref (B + 0)), some (.ref (B + 89)), some (.int (nI (i)))] [] := by
  refine wp_aload_n_1 (pc' := 533) dL_law_532 rfl ?_
  refine wp_aload_n_0 (pc' := 534) dL_law_533 rfl ?_
  refine wp_iload_n_3 (pc' := 535) dL_law_534 rfl ?_
  refine wp_iconst (pc' := 536) (1) dL_law_535 rfl (by decide) ?_
  refine wp_iadd (pc' := 537) dL_law_536 rfl ?_
  rw [nI_1]
  refine wp_sld (pc' := 538) (fun _ _ _ q => q.2.2) (vp_in_nI (by omega) (by omega)) dL_law_537 rfl ?_
  rw [nI_clamp (by omega)]
  refine wp_callVX (pc' := 541) (c_X7_may (by omega) X (xs (i + 1))) gL_law_X7_may rfl rfl hy_X7_may ⟨Nat.le_of_ble_eq_true rfl, Nat.le_of_ble_eq_true rfl⟩ ⟨rfl, rfl⟩ (Nat.le_of_ble_eq_true rfl) ⟨Nat.le_of_ble_eq_true rfl, Nat.le_of_ble_eq_true rfl⟩ (by omega) (ce7 rfl) rfl rfl dL_law_538 rfl (fun π538 h538 X538 f538 => ?_)
  refine wp_aload_n_2 (pc' := 542) dL_law_541 rfl ?_
  refine wp_aload_n_0 (pc' := 543) dL_law_542 rfl ?_
  refine wp_iload_n_3 (pc' := 544) dL_law_543 rfl ?_
  refine wp_iconst (pc' := 545) (1) dL_law_544 rfl (by decide) ?_
  refine wp_iadd (pc' := 546) dL_law_545 rfl ?_
  rw [nI_1]
  refine wp_sld (pc' := 547) (fun _ _ _ q => q.2.2) (vp_in_nI (by omega) (by omega)) dL_law_546 rfl ?_
  rw [nI_clamp (by omega)]
  refine wp_callVZ (pc' := 550) (c_X8_may (by omega) (M.up f538) (xs (i + 1))) gL_law_X8_may rfl rfl hy_X8_may ⟨Nat.le_of_ble_eq_true rfl, Nat.le_of_ble_eq_true rfl⟩ ⟨rfl, rfl⟩ (Nat.le_of_ble_eq_true rfl) ⟨Nat.le_of_ble_eq_true rfl, Nat.le_of_ble_eq_true rfl⟩ (by omega) (ce8 rfl) rfl rfl dL_law_547 rfl (fun h547 l547 M547 f547 => ?_)
  refine wp_icmp_eq (pc' := 553) (tgt := 871) dL_law_550 rfl rfl (fun c550 => ?_) (fun c550 => by exfalso; exact c550 rfl)
  exact K _ _ _ _ (X538.lo f547) M547
theorem case17 {i : Nat} (hi : i + 4 ≤ L) (hL : L ≤ 256) (X : XI h π σ) (M : MI h σ) (K : ∀ π h lg σ, XI h π σ → MI h σ → WP l D cy B cL_law 4 RL wsL_law room_1 ret lw_Z (EXL B b L xs) 105 (rf0 π) h lg 105 2207 871 [some (.ref b), some (.ref (B + 0)), some (.ref (B + 89)), some (.int (nI (i)))] []) : WP l D cy B cL_law 4 RL wsL_law room_1 ret lw_Z (EXL B b L xs) 105 (rf0 π) h lg 105 2207 555 [some (.ref b), some (.ref (B + 0)), some (.ref (B + 89)), some (.int (nI (i)))] [] := by
  refine wp_aload_n_1 (pc' := 556) dL_law_555 rfl ?_
  refine wp_aload_n_0 (pc' := 557) dL_law_556 rfl ?_
  refine wp_iload_n_3 (pc' := 558) dL_law_557 rfl ?_
  refine wp_iconst (pc' := 559) (1) dL_law_558 rfl (by decide) ?_
  refine wp_iadd (pc' := 560) dL_law_559 rfl ?_
  rw [nI_1]
  refine wp_sld (pc' := 561) (fun _ _ _ q => q.2.2) (vp_in_nI (by omega) (by omega)) dL_law_560 rfl ?_
  rw [nI_clamp (by omega)]
  refine wp_callVX (pc' := 564) (c_X7_moved (by omega) X (xs (i + 1))) gL_law_X7_moved rfl rfl hy_X7_moved ⟨Nat.le_of_ble_eq_true rfl, Nat.le_of_ble_eq_true rfl⟩ ⟨rfl, rfl⟩ (Nat.le_of_ble_eq_true rfl) ⟨Nat.le_of_ble_eq_true rfl, Nat.le_of_ble_eq_true rfl⟩ (by omega) (ce7 rfl) rfl rfl dL_law_561 rfl (fun π561 h561 X561 f561 => ?_)
  refine wp_aload_n_2 (pc' := 565) dL_law_564 rfl ?_
  refine wp_aload_n_0 (pc' := 566) dL_law_565 rfl ?_
  refine wp_iload_n_3 (pc' := 567) dL_law_566 rfl ?_
  refine wp_iconst (pc' := 568) (1) dL_law_567 rfl (by decide) ?_
  refine wp_iadd (pc' := 569) dL_law_568 rfl ?_
  rw [nI_1]
  refine wp_sld (pc' := 570) (fun _ _ _ q => q.2.2) (vp_in_nI (by omega) (by omega)) dL_law_569 rfl ?_
  rw [nI_clamp (by omega)]
  refine wp_callVZ (pc' := 573) (c_X8_moved (by omega) (M.up f561) (xs (i + 1))) gL_law_X8_moved rfl rfl hy_X8_moved ⟨Nat.le_of_ble_eq_true rfl, Nat.le_of_ble_eq_true rfl⟩ ⟨rfl, rfl⟩ (Nat.le_of_ble_eq_true rfl) ⟨Nat.le_of_ble_eq_true rfl, Nat.le_of_ble_eq_true rfl⟩ (by omega) (ce8 rfl) rfl rfl dL_law_570 rfl (fun h570 l570 M570 f570 => ?_)
  refine wp_icmp_eq (pc' := 576) (tgt := 871) dL_law_573 rfl rfl (fun c573 => ?_) (fun c573 => by exfalso; exact c573 rfl)
  exact K _ _ _ _ (X561.lo f570) M570
theorem case18 {i : Nat} (hi : i + 4 ≤ L) (hL : L ≤ 256) (X : XI h π σ) (M : MI h σ) (K : ∀ π h lg σ, XI h π σ → MI h σ → WP l D cy B cL_law 4 RL wsL_law room_1 ret lw_Z (EXL B b L xs) 105 (rf0 π) h lg 105 2207 871 [some (.ref b), some (.ref (B + 0)), some (.ref (B + 89)), some (.int (nI (i)))] []) : WP l D cy B cL_law 4 RL wsL_law room_1 ret lw_Z (EXL B b L xs) 105 (rf0 π) h lg 105 2207 578 [some (.ref b), some (.ref (B + 0)), some (.ref (B + 89)), some (.int (nI (i)))] [] := by
  refine wp_aload_n_1 (pc' := 579) dL_law_578 rfl ?_
  refine wp_aload_n_0 (pc' := 580) dL_law_579 rfl ?_
  refine wp_iload_n_3 (pc' := 581) dL_law_580 rfl ?_
  refine wp_iconst (pc' := 582) (1) dL_law_581 rfl (by decide) ?_
  refine wp_iadd (pc' := 583) dL_law_582 rfl ?_
  rw [nI_1]
  refine wp_sld (pc' := 584) (fun _ _ _ q => q.2.2) (vp_in_nI (by omega) (by omega)) dL_law_583 rfl ?_
  rw [nI_clamp (by omega)]
  refine wp_aload_n_0 (pc' := 585) dL_law_584 rfl ?_
  refine wp_iload_n_3 (pc' := 586) dL_law_585 rfl ?_
  refine wp_iconst (pc' := 587) (2) dL_law_586 rfl (by decide) ?_
  refine wp_iadd (pc' := 588) dL_law_587 rfl ?_
  rw [show (2 : Int32) = nI 2 from rfl, nI_add]
  refine wp_sld (pc' := 589) (fun _ _ _ q => q.2.2) (vp_in_nI (by omega) (by omega)) dL_law_588 rfl ?_
  rw [nI_clamp (by omega)]
  refine wp_callVX (pc' := 592) (c_X7_known (by omega) X (xs (i + 1)) (xs (i + 2))) gL_law_X7_known rfl rfl hy_X7_known ⟨Nat.le_of_ble_eq_true rfl, Nat.le_of_ble_eq_true rfl⟩ ⟨rfl, rfl⟩ (Nat.le_of_ble_eq_true rfl) ⟨Nat.le_of_ble_eq_true rfl, Nat.le_of_ble_eq_true rfl⟩ (by omega) (ce7 rfl) rfl rfl dL_law_589 rfl (fun π589 h589 X589 f589 => ?_)
  refine wp_aload_n_2 (pc' := 593) dL_law_592 rfl ?_
  refine wp_aload_n_0 (pc' := 594) dL_law_593 rfl ?_
  refine wp_iload_n_3 (pc' := 595) dL_law_594 rfl ?_
  refine wp_iconst (pc' := 596) (1) dL_law_595 rfl (by decide) ?_
  refine wp_iadd (pc' := 597) dL_law_596 rfl ?_
  rw [nI_1]
  refine wp_sld (pc' := 598) (fun _ _ _ q => q.2.2) (vp_in_nI (by omega) (by omega)) dL_law_597 rfl ?_
  rw [nI_clamp (by omega)]
  refine wp_aload_n_0 (pc' := 599) dL_law_598 rfl ?_
  refine wp_iload_n_3 (pc' := 600) dL_law_599 rfl ?_
  refine wp_iconst (pc' := 601) (2) dL_law_600 rfl (by decide) ?_
  refine wp_iadd (pc' := 602) dL_law_601 rfl ?_
  rw [show (2 : Int32) = nI 2 from rfl, nI_add]
  refine wp_sld (pc' := 603) (fun _ _ _ q => q.2.2) (vp_in_nI (by omega) (by omega)) dL_law_602 rfl ?_
  rw [nI_clamp (by omega)]
  refine wp_callVZ (pc' := 606) (c_X8_known (by omega) (M.up f589) (xs (i + 1)) (xs (i + 2))) gL_law_X8_known rfl rfl hy_X8_known ⟨Nat.le_of_ble_eq_true rfl, Nat.le_of_ble_eq_true rfl⟩ ⟨rfl, rfl⟩ (Nat.le_of_ble_eq_true rfl) ⟨Nat.le_of_ble_eq_true rfl, Nat.le_of_ble_eq_true rfl⟩ (by omega) (ce8 rfl) rfl rfl dL_law_603 rfl (fun h603 l603 M603 f603 => ?_)
  refine wp_icmp_eq (pc' := 609) (tgt := 871) dL_law_606 rfl rfl (fun c606 => ?_) (fun c606 => by exfalso; exact c606 rfl)
  exact K _ _ _ _ (X589.lo f603) M603
theorem case19 {i : Nat} (hi : i + 4 ≤ L) (hL : L ≤ 256) (X : XI h π σ) (M : MI h σ) (K : ∀ π h lg σ, XI h π σ → MI h σ → WP l D cy B cL_law 4 RL wsL_law room_1 ret lw_Z (EXL B b L xs) 105 (rf0 π) h lg 105 2207 871 [some (.ref b), some (.ref (B + 0)), some (.ref (B + 89)), some (.int (nI (i)))] []) : WP l D cy B cL_law 4 RL wsL_law room_1 ret lw_Z (EXL B b L xs) 105 (rf0 π) h lg 105 2207 611 [some (.ref b), some (.ref (B + 0)), some (.ref (B + 89)), some (.int (nI (i)))] [] := by
  refine wp_aload_n_1 (pc' := 612) dL_law_611 rfl ?_
  refine wp_aload_n_0 (pc' := 613) dL_law_612 rfl ?_
  refine wp_iload_n_3 (pc' := 614) dL_law_613 rfl ?_
  refine wp_iconst (pc' := 615) (1) dL_law_614 rfl (by decide) ?_
  refine wp_iadd (pc' := 616) dL_law_615 rfl ?_
  rw [nI_1]
  refine wp_sld (pc' := 617) (fun _ _ _ q => q.2.2) (vp_in_nI (by omega) (by omega)) dL_law_616 rfl ?_
  rw [nI_clamp (by omega)]
  refine wp_callVX (pc' := 620) (c_X7_round (by omega) X (xs (i + 1))) gL_law_X7_round rfl rfl hy_X7_round ⟨Nat.le_of_ble_eq_true rfl, Nat.le_of_ble_eq_true rfl⟩ ⟨rfl, rfl⟩ (Nat.le_of_ble_eq_true rfl) ⟨Nat.le_of_ble_eq_true rfl, Nat.le_of_ble_eq_true rfl⟩ (by omega) (ce7 rfl) rfl rfl dL_law_617 rfl (fun π617 h617 X617 f617 => ?_)
  refine wp_aload_n_2 (pc' := 621) dL_law_620 rfl ?_
  refine wp_aload_n_0 (pc' := 622) dL_law_621 rfl ?_
  refine wp_iload_n_3 (pc' := 623) dL_law_622 rfl ?_
  refine wp_iconst (pc' := 624) (1) dL_law_623 rfl (by decide) ?_
  refine wp_iadd (pc' := 625) dL_law_624 rfl ?_
  rw [nI_1]
  refine wp_sld (pc' := 626) (fun _ _ _ q => q.2.2) (vp_in_nI (by omega) (by omega)) dL_law_625 rfl ?_
  rw [nI_clamp (by omega)]
  refine wp_callVZ (pc' := 629) (c_X8_round (by omega) (M.up f617) (xs (i + 1))) gL_law_X8_round rfl rfl hy_X8_round ⟨Nat.le_of_ble_eq_true rfl, Nat.le_of_ble_eq_true rfl⟩ ⟨rfl, rfl⟩ (Nat.le_of_ble_eq_true rfl) ⟨Nat.le_of_ble_eq_true rfl, Nat.le_of_ble_eq_true rfl⟩ (by omega) (ce8 rfl) rfl rfl dL_law_626 rfl (fun h626 l626 M626 f626 => ?_)
  refine wp_icmp_eq (pc' := 632) (tgt := 871) dL_law_629 rfl rfl (fun c629 => ?_) (fun c629 => by exfalso; exact c629 rfl)
  exact K _ _ _ _ (X617.lo f626) M626
theorem case20 {i : Nat} (hi : i + 4 ≤ L) (hL : L ≤ 256) (X : XI h π σ) (M : MI h σ) (K : ∀ π h lg σ, XI h π σ → MI h σ → WP l D cy B cL_law 4 RL wsL_law room_1 ret lw_Z (EXL B b L xs) 105 (rf0 π) h lg 105 2207 871 [some (.ref b), some (.ref (B + 0)), some (.ref (B + 89)), some (.int (nI (i)))] []) : WP l D cy B cL_law 4 RL wsL_law room_1 ret lw_Z (EXL B b L xs) 105 (rf0 π) h lg 105 2207 634 [some (.ref b), some (.ref (B + 0)), some (.ref (B + 89)), some (.int (nI (i)))] [] := by
  refine wp_aload_n_1 (pc' := 635) dL_law_634 rfl ?_
  refine wp_aload_n_0 (pc' := 636) dL_law_635 rfl ?_
  refine wp_iload_n_3 (pc' := 637) dL_law_636 rfl ?_
  refine wp_iconst (pc' := 638) (1) dL_law_637 rfl (by decide) ?_
  refine wp_iadd (pc' := 639) dL_law_638 rfl ?_
  rw [nI_1]
  refine wp_sld (pc' := 640) (fun _ _ _ q => q.2.2) (vp_in_nI (by omega) (by omega)) dL_law_639 rfl ?_
  rw [nI_clamp (by omega)]
  refine wp_aload_n_0 (pc' := 641) dL_law_640 rfl ?_
  refine wp_iload_n_3 (pc' := 642) dL_law_641 rfl ?_
  refine wp_iconst (pc' := 643) (2) dL_law_642 rfl (by decide) ?_
  refine wp_iadd (pc' := 644) dL_law_643 rfl ?_
  rw [show (2 : Int32) = nI 2 from rfl, nI_add]
  refine wp_sld (pc' := 645) (fun _ _ _ q => q.2.2) (vp_in_nI (by omega) (by omega)) dL_law_644 rfl ?_
  rw [nI_clamp (by omega)]
  refine wp_callVX (pc' := 648) (c_X7_meet (by omega) X (xs (i + 1)) (xs (i + 2))) gL_law_X7_meet rfl rfl hy_X7_meet ⟨Nat.le_of_ble_eq_true rfl, Nat.le_of_ble_eq_true rfl⟩ ⟨rfl, rfl⟩ (Nat.le_of_ble_eq_true rfl) ⟨Nat.le_of_ble_eq_true rfl, Nat.le_of_ble_eq_true rfl⟩ (by omega) (ce7 rfl) rfl rfl dL_law_645 rfl (fun π645 h645 X645 f645 => ?_)
  refine wp_aload_n_2 (pc' := 649) dL_law_648 rfl ?_
  refine wp_aload_n_0 (pc' := 650) dL_law_649 rfl ?_
  refine wp_iload_n_3 (pc' := 651) dL_law_650 rfl ?_
  refine wp_iconst (pc' := 652) (1) dL_law_651 rfl (by decide) ?_
  refine wp_iadd (pc' := 653) dL_law_652 rfl ?_
  rw [nI_1]
  refine wp_sld (pc' := 654) (fun _ _ _ q => q.2.2) (vp_in_nI (by omega) (by omega)) dL_law_653 rfl ?_
  rw [nI_clamp (by omega)]
  refine wp_aload_n_0 (pc' := 655) dL_law_654 rfl ?_
  refine wp_iload_n_3 (pc' := 656) dL_law_655 rfl ?_
  refine wp_iconst (pc' := 657) (2) dL_law_656 rfl (by decide) ?_
  refine wp_iadd (pc' := 658) dL_law_657 rfl ?_
  rw [show (2 : Int32) = nI 2 from rfl, nI_add]
  refine wp_sld (pc' := 659) (fun _ _ _ q => q.2.2) (vp_in_nI (by omega) (by omega)) dL_law_658 rfl ?_
  rw [nI_clamp (by omega)]
  refine wp_callVZ (pc' := 662) (c_X8_meet (by omega) (M.up f645) (xs (i + 1)) (xs (i + 2))) gL_law_X8_meet rfl rfl hy_X8_meet ⟨Nat.le_of_ble_eq_true rfl, Nat.le_of_ble_eq_true rfl⟩ ⟨rfl, rfl⟩ (Nat.le_of_ble_eq_true rfl) ⟨Nat.le_of_ble_eq_true rfl, Nat.le_of_ble_eq_true rfl⟩ (by omega) (ce8 rfl) rfl rfl dL_law_659 rfl (fun h659 l659 M659 f659 => ?_)
  refine wp_icmp_eq (pc' := 665) (tgt := 871) dL_law_662 rfl rfl (fun c662 => ?_) (fun c662 => by exfalso; exact c662 rfl)
  exact K _ _ _ _ (X645.lo f659) M659
theorem case21 {i : Nat} (hi : i + 4 ≤ L) (hL : L ≤ 256) (X : XI h π σ) (M : MI h σ) (K : ∀ π h lg σ, XI h π σ → MI h σ → WP l D cy B cL_law 4 RL wsL_law room_1 ret lw_Z (EXL B b L xs) 105 (rf0 π) h lg 105 2207 871 [some (.ref b), some (.ref (B + 0)), some (.ref (B + 89)), some (.int (nI (i)))] []) : WP l D cy B cL_law 4 RL wsL_law room_1 ret lw_Z (EXL B b L xs) 105 (rf0 π) h lg 105 2207 667 [some (.ref b), some (.ref (B + 0)), some (.ref (B + 89)), some (.int (nI (i)))] [] := by
  refine wp_aload_n_1 (pc' := 668) dL_law_667 rfl ?_
  refine wp_aload_n_0 (pc' := 669) dL_law_668 rfl ?_
  refine wp_iload_n_3 (pc' := 670) dL_law_669 rfl ?_
  refine wp_iconst (pc' := 671) (1) dL_law_670 rfl (by decide) ?_
  refine wp_iadd (pc' := 672) dL_law_671 rfl ?_
  rw [nI_1]
  refine wp_sld (pc' := 673) (fun _ _ _ q => q.2.2) (vp_in_nI (by omega) (by omega)) dL_law_672 rfl ?_
  rw [nI_clamp (by omega)]
  refine wp_aload_n_0 (pc' := 674) dL_law_673 rfl ?_
  refine wp_iload_n_3 (pc' := 675) dL_law_674 rfl ?_
  refine wp_iconst (pc' := 676) (2) dL_law_675 rfl (by decide) ?_
  refine wp_iadd (pc' := 677) dL_law_676 rfl ?_
  rw [show (2 : Int32) = nI 2 from rfl, nI_add]
  refine wp_sld (pc' := 678) (fun _ _ _ q => q.2.2) (vp_in_nI (by omega) (by omega)) dL_law_677 rfl ?_
  rw [nI_clamp (by omega)]
  refine wp_aload_n_0 (pc' := 679) dL_law_678 rfl ?_
  refine wp_iload_n_3 (pc' := 680) dL_law_679 rfl ?_
  refine wp_iconst (pc' := 681) (3) dL_law_680 rfl (by decide) ?_
  refine wp_iadd (pc' := 682) dL_law_681 rfl ?_
  rw [show (3 : Int32) = nI 3 from rfl, nI_add]
  refine wp_sld (pc' := 683) (fun _ _ _ q => q.2.2) (vp_in_nI (by omega) (by omega)) dL_law_682 rfl ?_
  rw [nI_clamp (by omega)]
  refine wp_callVX (pc' := 686) (c_X7_road (by omega) X (xs (i + 1)) (xs (i + 2)) (xs (i + 3))) gL_law_X7_road rfl rfl hy_X7_road ⟨Nat.le_of_ble_eq_true rfl, Nat.le_of_ble_eq_true rfl⟩ ⟨rfl, rfl⟩ (Nat.le_of_ble_eq_true rfl) ⟨Nat.le_of_ble_eq_true rfl, Nat.le_of_ble_eq_true rfl⟩ (by omega) (ce7 rfl) rfl rfl dL_law_683 rfl (fun π683 h683 X683 f683 => ?_)
  refine wp_aload_n_2 (pc' := 687) dL_law_686 rfl ?_
  refine wp_aload_n_0 (pc' := 688) dL_law_687 rfl ?_
  refine wp_iload_n_3 (pc' := 689) dL_law_688 rfl ?_
  refine wp_iconst (pc' := 690) (1) dL_law_689 rfl (by decide) ?_
  refine wp_iadd (pc' := 691) dL_law_690 rfl ?_
  rw [nI_1]
  refine wp_sld (pc' := 692) (fun _ _ _ q => q.2.2) (vp_in_nI (by omega) (by omega)) dL_law_691 rfl ?_
  rw [nI_clamp (by omega)]
  refine wp_aload_n_0 (pc' := 693) dL_law_692 rfl ?_
  refine wp_iload_n_3 (pc' := 694) dL_law_693 rfl ?_
  refine wp_iconst (pc' := 695) (2) dL_law_694 rfl (by decide) ?_
  refine wp_iadd (pc' := 696) dL_law_695 rfl ?_
  rw [show (2 : Int32) = nI 2 from rfl, nI_add]
  refine wp_sld (pc' := 697) (fun _ _ _ q => q.2.2) (vp_in_nI (by omega) (by omega)) dL_law_696 rfl ?_
  rw [nI_clamp (by omega)]
  refine wp_aload_n_0 (pc' := 698) dL_law_697 rfl ?_
  refine wp_iload_n_3 (pc' := 699) dL_law_698 rfl ?_
  refine wp_iconst (pc' := 700) (3) dL_law_699 rfl (by decide) ?_
  refine wp_iadd (pc' := 701) dL_law_700 rfl ?_
  rw [show (3 : Int32) = nI 3 from rfl, nI_add]
  refine wp_sld (pc' := 702) (fun _ _ _ q => q.2.2) (vp_in_nI (by omega) (by omega)) dL_law_701 rfl ?_
  rw [nI_clamp (by omega)]
  refine wp_callVZ (pc' := 705) (c_X8_road (by omega) (M.up f683) (xs (i + 1)) (xs (i + 2)) (xs (i + 3))) gL_law_X8_road rfl rfl hy_X8_road ⟨Nat.le_of_ble_eq_true rfl, Nat.le_of_ble_eq_true rfl⟩ ⟨rfl, rfl⟩ (Nat.le_of_ble_eq_true rfl) ⟨Nat.le_of_ble_eq_true rfl, Nat.le_of_ble_eq_true rfl⟩ (by omega) (ce8 rfl) rfl rfl dL_law_702 rfl (fun h702 l702 M702 f702 => ?_)
  refine wp_icmp_eq (pc' := 708) (tgt := 871) dL_law_705 rfl rfl (fun c705 => ?_) (fun c705 => by exfalso; exact c705 rfl)
  exact K _ _ _ _ (X683.lo f702) M702
end VLC2

