
-- the law's cases 22 to 28
section VLC3
variable {l : Launch} {D : va_G} {cy : CY} {B n b L : Nat} {xs : Nat → Int32} {h : Hp} {lg : Lg} {π : Nat → Nat} {σ : Sg}
theorem case22 {i : Nat} (hi : i + 4 ≤ L) (hL : L ≤ 256) (X : XI h π σ) (M : MI h σ) (K : ∀ π h lg σ, XI h π σ → MI h σ → WP l D cy B cL_law 4 RL wsL_law room_1 ret lw_Z (EXL B b L xs) 105 (rf0 π) h lg 105 2207 871 [some (.ref b), some (.ref (B + 0)), some (.ref (B + 89)), some (.int (nI (i)))] []) : WP l D cy B cL_law 4 RL wsL_law room_1 ret lw_Z (EXL B b L xs) 105 (rf0 π) h lg 105 2207 710 [some (.ref b), some (.ref (B + 0)), some (.ref (B + 89)), some (.int (nI (i)))] [] := by
  refine wp_aload_n_1 (pc' := 711) dL_law_710 rfl ?_
  refine wp_callVX (pc' := 714) (c_X7_fear (by omega) X ) gL_law_X7_fear rfl rfl hy_X7_fear ⟨Nat.le_of_ble_eq_true rfl, Nat.le_of_ble_eq_true rfl⟩ ⟨rfl, rfl⟩ (Nat.le_of_ble_eq_true rfl) ⟨Nat.le_of_ble_eq_true rfl, Nat.le_of_ble_eq_true rfl⟩ (by omega) (ce7 rfl) rfl rfl dL_law_711 rfl (fun π711 h711 X711 f711 => ?_)
  refine wp_aload_n_2 (pc' := 715) dL_law_714 rfl ?_
  refine wp_callVZ (pc' := 718) (c_X8_fear (by omega) (M.up f711) ) gL_law_X8_fear rfl rfl hy_X8_fear ⟨Nat.le_of_ble_eq_true rfl, Nat.le_of_ble_eq_true rfl⟩ ⟨rfl, rfl⟩ (Nat.le_of_ble_eq_true rfl) ⟨Nat.le_of_ble_eq_true rfl, Nat.le_of_ble_eq_true rfl⟩ (by omega) (ce8 rfl) rfl rfl dL_law_715 rfl (fun h715 l715 M715 f715 => ?_)
  refine wp_icmp_eq (pc' := 721) (tgt := 871) dL_law_718 rfl rfl (fun c718 => ?_) (fun c718 => by exfalso; exact c718 rfl)
  exact K _ _ _ _ (X711.lo f715) M715
theorem case23 {i : Nat} (hi : i + 4 ≤ L) (hL : L ≤ 256) (X : XI h π σ) (M : MI h σ) (K : ∀ π h lg σ, XI h π σ → MI h σ → WP l D cy B cL_law 4 RL wsL_law room_1 ret lw_Z (EXL B b L xs) 105 (rf0 π) h lg 105 2207 871 [some (.ref b), some (.ref (B + 0)), some (.ref (B + 89)), some (.int (nI (i)))] []) : WP l D cy B cL_law 4 RL wsL_law room_1 ret lw_Z (EXL B b L xs) 105 (rf0 π) h lg 105 2207 723 [some (.ref b), some (.ref (B + 0)), some (.ref (B + 89)), some (.int (nI (i)))] [] := by
  refine wp_aload_n_1 (pc' := 724) dL_law_723 rfl ?_
  refine wp_aload_n_0 (pc' := 725) dL_law_724 rfl ?_
  refine wp_iload_n_3 (pc' := 726) dL_law_725 rfl ?_
  refine wp_iconst (pc' := 727) (1) dL_law_726 rfl (by decide) ?_
  refine wp_iadd (pc' := 728) dL_law_727 rfl ?_
  rw [nI_1]
  refine wp_sld (pc' := 729) (fun _ _ _ q => q.2.2) (vp_in_nI (by omega) (by omega)) dL_law_728 rfl ?_
  rw [nI_clamp (by omega)]
  refine wp_aload_n_0 (pc' := 730) dL_law_729 rfl ?_
  refine wp_iload_n_3 (pc' := 731) dL_law_730 rfl ?_
  refine wp_iconst (pc' := 732) (2) dL_law_731 rfl (by decide) ?_
  refine wp_iadd (pc' := 733) dL_law_732 rfl ?_
  rw [show (2 : Int32) = nI 2 from rfl, nI_add]
  refine wp_sld (pc' := 734) (fun _ _ _ q => q.2.2) (vp_in_nI (by omega) (by omega)) dL_law_733 rfl ?_
  rw [nI_clamp (by omega)]
  refine wp_callVX (pc' := 737) (c_X7_lost (by omega) X (xs (i + 1)) (xs (i + 2))) gL_law_X7_lost rfl rfl hy_X7_lost ⟨Nat.le_of_ble_eq_true rfl, Nat.le_of_ble_eq_true rfl⟩ ⟨rfl, rfl⟩ (Nat.le_of_ble_eq_true rfl) ⟨Nat.le_of_ble_eq_true rfl, Nat.le_of_ble_eq_true rfl⟩ (by omega) (ce7 rfl) rfl rfl dL_law_734 rfl (fun π734 h734 X734 f734 => ?_)
  refine wp_aload_n_2 (pc' := 738) dL_law_737 rfl ?_
  refine wp_aload_n_0 (pc' := 739) dL_law_738 rfl ?_
  refine wp_iload_n_3 (pc' := 740) dL_law_739 rfl ?_
  refine wp_iconst (pc' := 741) (1) dL_law_740 rfl (by decide) ?_
  refine wp_iadd (pc' := 742) dL_law_741 rfl ?_
  rw [nI_1]
  refine wp_sld (pc' := 743) (fun _ _ _ q => q.2.2) (vp_in_nI (by omega) (by omega)) dL_law_742 rfl ?_
  rw [nI_clamp (by omega)]
  refine wp_aload_n_0 (pc' := 744) dL_law_743 rfl ?_
  refine wp_iload_n_3 (pc' := 745) dL_law_744 rfl ?_
  refine wp_iconst (pc' := 746) (2) dL_law_745 rfl (by decide) ?_
  refine wp_iadd (pc' := 747) dL_law_746 rfl ?_
  rw [show (2 : Int32) = nI 2 from rfl, nI_add]
  refine wp_sld (pc' := 748) (fun _ _ _ q => q.2.2) (vp_in_nI (by omega) (by omega)) dL_law_747 rfl ?_
  rw [nI_clamp (by omega)]
  refine wp_callVZ (pc' := 751) (c_X8_lost (by omega) (M.up f734) (xs (i + 1)) (xs (i + 2))) gL_law_X8_lost rfl rfl hy_X8_lost ⟨Nat.le_of_ble_eq_true rfl, Nat.le_of_ble_eq_true rfl⟩ ⟨rfl, rfl⟩ (Nat.le_of_ble_eq_true rfl) ⟨Nat.le_of_ble_eq_true rfl, Nat.le_of_ble_eq_true rfl⟩ (by omega) (ce8 rfl) rfl rfl dL_law_748 rfl (fun h748 l748 M748 f748 => ?_)
  refine wp_icmp_eq (pc' := 754) (tgt := 871) dL_law_751 rfl rfl (fun c751 => ?_) (fun c751 => by exfalso; exact c751 rfl)
  exact K _ _ _ _ (X734.lo f748) M748
theorem case24 {i : Nat} (hi : i + 4 ≤ L) (hL : L ≤ 256) (X : XI h π σ) (M : MI h σ) (K : ∀ π h lg σ, XI h π σ → MI h σ → WP l D cy B cL_law 4 RL wsL_law room_1 ret lw_Z (EXL B b L xs) 105 (rf0 π) h lg 105 2207 871 [some (.ref b), some (.ref (B + 0)), some (.ref (B + 89)), some (.int (nI (i)))] []) : WP l D cy B cL_law 4 RL wsL_law room_1 ret lw_Z (EXL B b L xs) 105 (rf0 π) h lg 105 2207 756 [some (.ref b), some (.ref (B + 0)), some (.ref (B + 89)), some (.int (nI (i)))] [] := by
  refine wp_aload_n_1 (pc' := 757) dL_law_756 rfl ?_
  refine wp_aload_n_0 (pc' := 758) dL_law_757 rfl ?_
  refine wp_iload_n_3 (pc' := 759) dL_law_758 rfl ?_
  refine wp_iconst (pc' := 760) (1) dL_law_759 rfl (by decide) ?_
  refine wp_iadd (pc' := 761) dL_law_760 rfl ?_
  rw [nI_1]
  refine wp_sld (pc' := 762) (fun _ _ _ q => q.2.2) (vp_in_nI (by omega) (by omega)) dL_law_761 rfl ?_
  rw [nI_clamp (by omega)]
  refine wp_callVX (pc' := 765) (c_X7_huts (by omega) X (xs (i + 1))) gL_law_X7_huts rfl rfl hy_X7_huts ⟨Nat.le_of_ble_eq_true rfl, Nat.le_of_ble_eq_true rfl⟩ ⟨rfl, rfl⟩ (Nat.le_of_ble_eq_true rfl) ⟨Nat.le_of_ble_eq_true rfl, Nat.le_of_ble_eq_true rfl⟩ (by omega) (ce7 rfl) rfl rfl dL_law_762 rfl (fun π762 h762 X762 f762 => ?_)
  refine wp_aload_n_2 (pc' := 766) dL_law_765 rfl ?_
  refine wp_aload_n_0 (pc' := 767) dL_law_766 rfl ?_
  refine wp_iload_n_3 (pc' := 768) dL_law_767 rfl ?_
  refine wp_iconst (pc' := 769) (1) dL_law_768 rfl (by decide) ?_
  refine wp_iadd (pc' := 770) dL_law_769 rfl ?_
  rw [nI_1]
  refine wp_sld (pc' := 771) (fun _ _ _ q => q.2.2) (vp_in_nI (by omega) (by omega)) dL_law_770 rfl ?_
  rw [nI_clamp (by omega)]
  refine wp_callVZ (pc' := 774) (c_X8_huts (by omega) (M.up f762) (xs (i + 1))) gL_law_X8_huts rfl rfl hy_X8_huts ⟨Nat.le_of_ble_eq_true rfl, Nat.le_of_ble_eq_true rfl⟩ ⟨rfl, rfl⟩ (Nat.le_of_ble_eq_true rfl) ⟨Nat.le_of_ble_eq_true rfl, Nat.le_of_ble_eq_true rfl⟩ (by omega) (ce8 rfl) rfl rfl dL_law_771 rfl (fun h771 l771 M771 f771 => ?_)
  refine wp_icmp_eq (pc' := 777) (tgt := 871) dL_law_774 rfl rfl (fun c774 => ?_) (fun c774 => by exfalso; exact c774 rfl)
  exact K _ _ _ _ (X762.lo f771) M771
theorem case25 {i : Nat} (hi : i + 4 ≤ L) (hL : L ≤ 256) (X : XI h π σ) (M : MI h σ) (K : ∀ π h lg σ, XI h π σ → MI h σ → WP l D cy B cL_law 4 RL wsL_law room_1 ret lw_Z (EXL B b L xs) 105 (rf0 π) h lg 105 2207 871 [some (.ref b), some (.ref (B + 0)), some (.ref (B + 89)), some (.int (nI (i)))] []) : WP l D cy B cL_law 4 RL wsL_law room_1 ret lw_Z (EXL B b L xs) 105 (rf0 π) h lg 105 2207 779 [some (.ref b), some (.ref (B + 0)), some (.ref (B + 89)), some (.int (nI (i)))] [] := by
  refine wp_aload_n_1 (pc' := 780) dL_law_779 rfl ?_
  refine wp_aload_n_0 (pc' := 781) dL_law_780 rfl ?_
  refine wp_iload_n_3 (pc' := 782) dL_law_781 rfl ?_
  refine wp_iconst (pc' := 783) (1) dL_law_782 rfl (by decide) ?_
  refine wp_iadd (pc' := 784) dL_law_783 rfl ?_
  rw [nI_1]
  refine wp_sld (pc' := 785) (fun _ _ _ q => q.2.2) (vp_in_nI (by omega) (by omega)) dL_law_784 rfl ?_
  rw [nI_clamp (by omega)]
  refine wp_aload_n_0 (pc' := 786) dL_law_785 rfl ?_
  refine wp_iload_n_3 (pc' := 787) dL_law_786 rfl ?_
  refine wp_iconst (pc' := 788) (2) dL_law_787 rfl (by decide) ?_
  refine wp_iadd (pc' := 789) dL_law_788 rfl ?_
  rw [show (2 : Int32) = nI 2 from rfl, nI_add]
  refine wp_sld (pc' := 790) (fun _ _ _ q => q.2.2) (vp_in_nI (by omega) (by omega)) dL_law_789 rfl ?_
  rw [nI_clamp (by omega)]
  refine wp_aload_n_0 (pc' := 791) dL_law_790 rfl ?_
  refine wp_iload_n_3 (pc' := 792) dL_law_791 rfl ?_
  refine wp_iconst (pc' := 793) (3) dL_law_792 rfl (by decide) ?_
  refine wp_iadd (pc' := 794) dL_law_793 rfl ?_
  rw [show (3 : Int32) = nI 3 from rfl, nI_add]
  refine wp_sld (pc' := 795) (fun _ _ _ q => q.2.2) (vp_in_nI (by omega) (by omega)) dL_law_794 rfl ?_
  rw [nI_clamp (by omega)]
  refine wp_callVX (pc' := 798) (c_X7_flood (by omega) X (xs (i + 1)) (xs (i + 2)) (xs (i + 3))) gL_law_X7_flood rfl rfl hy_X7_flood ⟨Nat.le_of_ble_eq_true rfl, Nat.le_of_ble_eq_true rfl⟩ ⟨rfl, rfl⟩ (Nat.le_of_ble_eq_true rfl) ⟨Nat.le_of_ble_eq_true rfl, Nat.le_of_ble_eq_true rfl⟩ (by omega) (ce7 rfl) rfl rfl dL_law_795 rfl (fun π795 h795 X795 f795 => ?_)
  refine wp_aload_n_2 (pc' := 799) dL_law_798 rfl ?_
  refine wp_aload_n_0 (pc' := 800) dL_law_799 rfl ?_
  refine wp_iload_n_3 (pc' := 801) dL_law_800 rfl ?_
  refine wp_iconst (pc' := 802) (1) dL_law_801 rfl (by decide) ?_
  refine wp_iadd (pc' := 803) dL_law_802 rfl ?_
  rw [nI_1]
  refine wp_sld (pc' := 804) (fun _ _ _ q => q.2.2) (vp_in_nI (by omega) (by omega)) dL_law_803 rfl ?_
  rw [nI_clamp (by omega)]
  refine wp_aload_n_0 (pc' := 805) dL_law_804 rfl ?_
  refine wp_iload_n_3 (pc' := 806) dL_law_805 rfl ?_
  refine wp_iconst (pc' := 807) (2) dL_law_806 rfl (by decide) ?_
  refine wp_iadd (pc' := 808) dL_law_807 rfl ?_
  rw [show (2 : Int32) = nI 2 from rfl, nI_add]
  refine wp_sld (pc' := 809) (fun _ _ _ q => q.2.2) (vp_in_nI (by omega) (by omega)) dL_law_808 rfl ?_
  rw [nI_clamp (by omega)]
  refine wp_aload_n_0 (pc' := 810) dL_law_809 rfl ?_
  refine wp_iload_n_3 (pc' := 811) dL_law_810 rfl ?_
  refine wp_iconst (pc' := 812) (3) dL_law_811 rfl (by decide) ?_
  refine wp_iadd (pc' := 813) dL_law_812 rfl ?_
  rw [show (3 : Int32) = nI 3 from rfl, nI_add]
  refine wp_sld (pc' := 814) (fun _ _ _ q => q.2.2) (vp_in_nI (by omega) (by omega)) dL_law_813 rfl ?_
  rw [nI_clamp (by omega)]
  refine wp_callVZ (pc' := 817) (c_X8_flood (by omega) (M.up f795) (xs (i + 1)) (xs (i + 2)) (xs (i + 3))) gL_law_X8_flood rfl rfl hy_X8_flood ⟨Nat.le_of_ble_eq_true rfl, Nat.le_of_ble_eq_true rfl⟩ ⟨rfl, rfl⟩ (Nat.le_of_ble_eq_true rfl) ⟨Nat.le_of_ble_eq_true rfl, Nat.le_of_ble_eq_true rfl⟩ (by omega) (ce8 rfl) rfl rfl dL_law_814 rfl (fun h814 l814 M814 f814 => ?_)
  refine wp_icmp_eq (pc' := 820) (tgt := 871) dL_law_817 rfl rfl (fun c817 => ?_) (fun c817 => by exfalso; exact c817 rfl)
  exact K _ _ _ _ (X795.lo f814) M814
theorem case26 {i : Nat} (hi : i + 4 ≤ L) (hL : L ≤ 256) (X : XI h π σ) (M : MI h σ) (K : ∀ π h lg σ, XI h π σ → MI h σ → WP l D cy B cL_law 4 RL wsL_law room_1 ret lw_Z (EXL B b L xs) 105 (rf0 π) h lg 105 2207 871 [some (.ref b), some (.ref (B + 0)), some (.ref (B + 89)), some (.int (nI (i)))] []) : WP l D cy B cL_law 4 RL wsL_law room_1 ret lw_Z (EXL B b L xs) 105 (rf0 π) h lg 105 2207 822 [some (.ref b), some (.ref (B + 0)), some (.ref (B + 89)), some (.int (nI (i)))] [] := by
  refine wp_aload_n_1 (pc' := 823) dL_law_822 rfl ?_
  refine wp_callVX (pc' := 826) (c_X7_keep (by omega) X ) gL_law_X7_keep rfl rfl hy_X7_keep ⟨Nat.le_of_ble_eq_true rfl, Nat.le_of_ble_eq_true rfl⟩ ⟨rfl, rfl⟩ (Nat.le_of_ble_eq_true rfl) ⟨Nat.le_of_ble_eq_true rfl, Nat.le_of_ble_eq_true rfl⟩ (by omega) (ce7 rfl) rfl rfl dL_law_823 rfl (fun π823 h823 X823 f823 => ?_)
  refine wp_aload_n_2 (pc' := 827) dL_law_826 rfl ?_
  refine wp_callVZ (pc' := 830) (c_X8_keep (by omega) (M.up f823) ) gL_law_X8_keep rfl rfl hy_X8_keep ⟨Nat.le_of_ble_eq_true rfl, Nat.le_of_ble_eq_true rfl⟩ ⟨rfl, rfl⟩ (Nat.le_of_ble_eq_true rfl) ⟨Nat.le_of_ble_eq_true rfl, Nat.le_of_ble_eq_true rfl⟩ (by omega) (ce8 rfl) rfl rfl dL_law_827 rfl (fun h827 l827 M827 f827 => ?_)
  refine wp_icmp_eq (pc' := 833) (tgt := 871) dL_law_830 rfl rfl (fun c830 => ?_) (fun c830 => by exfalso; exact c830 rfl)
  exact K _ _ _ _ (X823.lo f827) M827
theorem case27 {i : Nat} (hi : i + 4 ≤ L) (hL : L ≤ 256) (X : XI h π σ) (M : MI h σ) (K : ∀ π h lg σ, XI h π σ → MI h σ → WP l D cy B cL_law 4 RL wsL_law room_1 ret lw_Z (EXL B b L xs) 105 (rf0 π) h lg 105 2207 871 [some (.ref b), some (.ref (B + 0)), some (.ref (B + 89)), some (.int (nI (i)))] []) : WP l D cy B cL_law 4 RL wsL_law room_1 ret lw_Z (EXL B b L xs) 105 (rf0 π) h lg 105 2207 835 [some (.ref b), some (.ref (B + 0)), some (.ref (B + 89)), some (.int (nI (i)))] [] := by
  refine wp_aload_n_1 (pc' := 836) dL_law_835 rfl ?_
  refine wp_callVX (pc' := 839) (c_X7_back (by omega) X ) gL_law_X7_back rfl rfl hy_X7_back ⟨Nat.le_of_ble_eq_true rfl, Nat.le_of_ble_eq_true rfl⟩ ⟨rfl, rfl⟩ (Nat.le_of_ble_eq_true rfl) ⟨Nat.le_of_ble_eq_true rfl, Nat.le_of_ble_eq_true rfl⟩ (by omega) (ce7 rfl) rfl rfl dL_law_836 rfl (fun π836 h836 X836 f836 => ?_)
  refine wp_aload_n_2 (pc' := 840) dL_law_839 rfl ?_
  refine wp_callVZ (pc' := 843) (c_X8_back (by omega) (M.up f836) ) gL_law_X8_back rfl rfl hy_X8_back ⟨Nat.le_of_ble_eq_true rfl, Nat.le_of_ble_eq_true rfl⟩ ⟨rfl, rfl⟩ (Nat.le_of_ble_eq_true rfl) ⟨Nat.le_of_ble_eq_true rfl, Nat.le_of_ble_eq_true rfl⟩ (by omega) (ce8 rfl) rfl rfl dL_law_840 rfl (fun h840 l840 M840 f840 => ?_)
  refine wp_icmp_eq (pc' := 846) (tgt := 871) dL_law_843 rfl rfl (fun c843 => ?_) (fun c843 => by exfalso; exact c843 rfl)
  exact K _ _ _ _ (X836.lo f840) M840
theorem case28 {i : Nat} (hi : i + 4 ≤ L) (hL : L ≤ 256) (X : XI h π σ) (M : MI h σ) (K : ∀ π h lg σ, XI h π σ → MI h σ → WP l D cy B cL_law 4 RL wsL_law room_1 ret lw_Z (EXL B b L xs) 105 (rf0 π) h lg 105 2207 871 [some (.ref b), some (.ref (B + 0)), some (.ref (B + 89)), some (.int (nI (i)))] []) : WP l D cy B cL_law 4 RL wsL_law room_1 ret lw_Z (EXL B b L xs) 105 (rf0 π) h lg 105 2207 848 [some (.ref b), some (.ref (B + 0)), some (.ref (B + 89)), some (.int (nI (i)))] [] := by
  refine wp_aload_n_1 (pc' := 849) dL_law_848 rfl ?_
  refine wp_aload_n_0 (pc' := 850) dL_law_849 rfl ?_
  refine wp_iload_n_3 (pc' := 851) dL_law_850 rfl ?_
  refine wp_iconst (pc' := 852) (1) dL_law_851 rfl (by decide) ?_
  refine wp_iadd (pc' := 853) dL_law_852 rfl ?_
  rw [nI_1]
  refine wp_sld (pc' := 854) (fun _ _ _ q => q.2.2) (vp_in_nI (by omega) (by omega)) dL_law_853 rfl ?_
  rw [nI_clamp (by omega)]
  refine wp_callVX (pc' := 857) (c_X7_count (by omega) X (xs (i + 1))) gL_law_X7_count rfl rfl hy_X7_count ⟨Nat.le_of_ble_eq_true rfl, Nat.le_of_ble_eq_true rfl⟩ ⟨rfl, rfl⟩ (Nat.le_of_ble_eq_true rfl) ⟨Nat.le_of_ble_eq_true rfl, Nat.le_of_ble_eq_true rfl⟩ (by omega) (ce7 rfl) rfl rfl dL_law_854 rfl (fun π854 h854 X854 f854 => ?_)
  refine wp_aload_n_2 (pc' := 858) dL_law_857 rfl ?_
  refine wp_aload_n_0 (pc' := 859) dL_law_858 rfl ?_
  refine wp_iload_n_3 (pc' := 860) dL_law_859 rfl ?_
  refine wp_iconst (pc' := 861) (1) dL_law_860 rfl (by decide) ?_
  refine wp_iadd (pc' := 862) dL_law_861 rfl ?_
  rw [nI_1]
  refine wp_sld (pc' := 863) (fun _ _ _ q => q.2.2) (vp_in_nI (by omega) (by omega)) dL_law_862 rfl ?_
  rw [nI_clamp (by omega)]
  refine wp_callVZ (pc' := 866) (c_X8_count (by omega) (M.up f854) (xs (i + 1))) gL_law_X8_count rfl rfl hy_X8_count ⟨Nat.le_of_ble_eq_true rfl, Nat.le_of_ble_eq_true rfl⟩ ⟨rfl, rfl⟩ (Nat.le_of_ble_eq_true rfl) ⟨Nat.le_of_ble_eq_true rfl, Nat.le_of_ble_eq_true rfl⟩ (by omega) (ce8 rfl) rfl rfl dL_law_863 rfl (fun h863 l863 M863 f863 => ?_)
  refine wp_icmp_eq (pc' := 869) (tgt := 871) dL_law_866 rfl rfl (fun c866 => ?_) (fun c866 => by exfalso; exact c866 rfl)
  exact K _ _ _ _ (X854.lo f863) M863
end VLC3

