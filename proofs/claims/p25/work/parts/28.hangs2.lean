/-! THE LAW: hangs, its middle part: faces, sums, the best pairs -/
set_option maxHeartbeats 8000000 in
set_option maxRecDepth 100000 in
theorem h_B {G : GT} {X : Xb} (hX : CX (cS G) X cL_hangs RL ({ frames := 7, cells := 0, slots := 0, locals := 161 } : Room)) (hN : x_nL X = 16) {f : Int → Int} (ok : OkS f) (hc : CoinOK f 10000) (M : Mem) (hf : M 2 = f) (hret : ∀ (z : Int) (M' : Mem) (pc : Nat) (L : Lc), decode cL_hangs pc = .ok (.ireturn, 1) → (z = 1 ∧ CKeep M M') → J (cS G) X M' pc L [.int (zI z)]) : J (cS G) X M 379 [(0, .ref (g_q G 0)), (1, .int (zI 1))] [] := by
  have hG : SdOK (cS G) := hX.ok
  have hpm : PmOK (bsA f).2 := (bestF_ok (K := fun _ => 0) (r := fun _ => 0) ok.T).2.2
  refine j_iconst (pc := 379) hX dL_hangs_379 ?_
  refine j_istore (pc := 380) (L' := [(5, .int (zI 0)), (0, .ref (g_q G 0)), (1, .int (zI 1))]) hX dL_hangs_380 hN (by decide) rfl ?_
  refine j_iconst (pc := 382) hX dL_hangs_382 ?_
  refine j_istore (pc := 383) (L' := [(6, .int (zI 0)), (5, .int (zI 0)), (0, .ref (g_q G 0)), (1, .int (zI 1))]) hX dL_hangs_383 hN (by decide) rfl ?_
  refine j_iconst (pc := 385) hX dL_hangs_385 ?_
  refine j_istore (pc := 386) (L' := [(7, .int (zI 0)), (6, .int (zI 0)), (5, .int (zI 0)), (0, .ref (g_q G 0)), (1, .int (zI 1))]) hX dL_hangs_386 hN (by decide) rfl ?_
  refine j_iconst (pc := 388) hX dL_hangs_388 ?_
  refine j_istore (pc := 389) (L' := [(8, .int (zI 0)), (7, .int (zI 0)), (6, .int (zI 0)), (5, .int (zI 0)), (0, .ref (g_q G 0)), (1, .int (zI 1))]) hX dL_hangs_389 hN (by decide) rfl ?_
  have hl391 : ∀ (n : Nat) (a al br be : Int) (N : Mem), (0 ≤ a) → (a ≤ 4) → (N 2 = f) → (CKeep M N) → (al = sumI (kyF f) a.toNat) → (br = sumI (fun k => brsF f k (f (196 + k))) a.toNat) → (be = sumI (fun k => likF f k ((bsA f).2 k)) a.toNat) → (-920 * a ≤ al ∧ al ≤ 1000 * a) → (0 ≤ br ∧ br ≤ 6 * a) → (-920 * a ≤ be ∧ be ≤ 1000 * a) → (4 - a) < (n : Int) → J (cS G) X N 391 [(0, .ref (g_q G 0)), (1, .int (zI 1)), (5, .int (zI al)), (6, .int (zI br)), (7, .int (zI be)), (8, .int (zI a))] [] := by
    intro n
    induction n with
    | zero =>
      intro a al br be N ha0 ha1 hf hk hal hbr hbe hb1 hb2 hb3 hm; exfalso; omega
    | succ n ih391 =>
      intro a al br be N ha0 ha1 hf hk hal hbr hbe hb1 hb2 hb3 hm391
      refine j_iload (pc := 391) hX 5 dL_hangs_391 rfl ?_
      refine j_iconst (pc := 393) hX dL_hangs_393 ?_
      refine j_icmp_ge (pc := 394) (tgt := 699) hX ⟨by omega, by omega⟩ ⟨by decide, by decide⟩ dL_hangs_394 (by decide) (fun c394 => ?_) (fun c394 => ?_)
      · skip
        refine j_iload_n (pc := 699) hX 1 dL_hangs_699 rfl rfl ?_
        refine j_if_eq (pc := 700) (tgt := 782) hX ⟨by decide, by decide⟩ dL_hangs_700 (by decide) (fun c700 => by exfalso; omega) (fun c700 => ?_)
        refine j_iload (pc := 703) hX 2 dL_hangs_703 rfl ?_
        refine j_aload_n (pc := 705) hX 0 dL_hangs_705 rfl rfl ?_
        refine j_bipush (pc := 706) hX dL_hangs_706 (by decide) ?_
        refine p_callVI (pc := 708) (st := [.int (zI al)]) hX (u_c6 (x_l X) hG N 6 f (by first | assumption | omega) (by first | assumption | omega) (by first | assumption | omega)) cf_X5_count lk_L_58 ⟨rfl, rfl, Nat.le_of_ble_eq_true rfl, Nat.le_of_ble_eq_true rfl⟩ rfl (Nat.le_of_ble_eq_true rfl) 0 (cg_0 G N) rfl rfl dL_hangs_708 rfl (fun r708 e708 => ?_)
        obtain ⟨e708, b708_1, b708_2⟩ := e708
        have q4 : a = 4 := by omega
        have q708 : r708 = al := by rw [e708, hal, q4]; rfl
        refine j_icmp_ne (pc := 711) (tgt := 782) hX ⟨by omega, by omega⟩ ⟨by omega, by omega⟩ dL_hangs_711 (by decide) (fun c711 => by exfalso; omega) (fun c711 => ?_)
        refine j_iload (pc := 714) hX 3 dL_hangs_714 rfl ?_
        refine j_aload_n (pc := 716) hX 0 dL_hangs_716 rfl rfl ?_
        refine j_iconst (pc := 717) hX dL_hangs_717 ?_
        refine p_callVI (pc := 718) (st := [.int (zI br)]) hX (u_c5 (x_l X) hG N 5 f (by first | assumption | omega) (by first | assumption | omega) (by first | assumption | omega)) cf_X5_count lk_L_58 ⟨rfl, rfl, Nat.le_of_ble_eq_true rfl, Nat.le_of_ble_eq_true rfl⟩ rfl (Nat.le_of_ble_eq_true rfl) 0 (cg_0 G N) rfl rfl dL_hangs_718 rfl (fun r718 e718 => ?_)
        obtain ⟨e718, b718_1, b718_2⟩ := e718
        have q718 : r718 = br := by rw [e718, hbr, q4]; rfl
        refine j_icmp_ne (pc := 721) (tgt := 782) hX ⟨by omega, by omega⟩ ⟨by omega, by omega⟩ dL_hangs_721 (by decide) (fun c721 => by exfalso; omega) (fun c721 => ?_)
        refine j_iload (pc := 724) hX 4 dL_hangs_724 rfl ?_
        refine j_aload_n (pc := 726) hX 0 dL_hangs_726 rfl rfl ?_
        refine j_bipush (pc := 727) hX dL_hangs_727 (by decide) ?_
        refine j_callVI (pc := 729) (st := [.int (zI be)]) hX (u_c7 (x_l X) hG N 7 f (by first | assumption | omega) (by first | assumption | omega) (by first | assumption | omega)) cf_X5_count lk_L_58 ⟨rfl, rfl, Nat.le_of_ble_eq_true rfl, Nat.le_of_ble_eq_true rfl⟩ rfl (Nat.le_of_ble_eq_true rfl) 0 (cg_0 G N) rfl rfl dL_hangs_729 rfl (fun r729 M729 e729 => ?_)
        obtain ⟨e729, b729_1, b729_2, b729_3, b729_4⟩ := e729
        have q729 : r729 = be := by rw [e729, best_sum ok.T, hbe, q4]; rfl
        refine j_icmp_ne (pc := 732) (tgt := 782) hX ⟨by omega, by omega⟩ ⟨by omega, by omega⟩ dL_hangs_732 (by decide) (fun c732 => by exfalso; omega) (fun c732 => ?_)
        refine j_iload (pc := 735) hX 4 dL_hangs_735 rfl ?_
        refine j_iload (pc := 737) hX 2 dL_hangs_737 rfl ?_
        have qge : al ≤ be := by rw [← q729, e729, hal, q4]; exact best_ge ok.R
        refine j_icmp_lt (pc := 739) (tgt := 782) hX ⟨by omega, by omega⟩ ⟨by omega, by omega⟩ dL_hangs_739 (by decide) (fun c739 => by exfalso; omega) (fun c739 => ?_)
        refine j_iconst (pc := 742) hX dL_hangs_742 ?_
        refine j_aload_n (pc := 743) hX 0 dL_hangs_743 rfl rfl ?_
        refine j_iconst (pc := 744) hX dL_hangs_744 ?_
        refine j_callVI (pc := 745) (st := [.int (zI 1)]) hX (u_best (x_l X) hG M729 0 f (by first | assumption | omega) (by first | assumption | omega) (by first | assumption | omega) (by first | assumption | omega)) cf_X5_bestFor lk_L_66 ⟨rfl, rfl, Nat.le_of_ble_eq_true rfl, Nat.le_of_ble_eq_true rfl⟩ rfl (Nat.le_of_ble_eq_true rfl) 0 (cg_0 G M729) rfl rfl dL_hangs_745 rfl (fun r745 M745 e745 => ?_)
        obtain ⟨e745, b745_1, b745_2, b745_3, b745_4⟩ := e745
        refine j_ishl (pc := 748) (c := (pwF r745)) hX dL_hangs_748 (pwF_shl b745_1 b745_2) ?_
        refine j_iconst (pc := 749) hX dL_hangs_749 ?_
        refine j_aload_n (pc := 750) hX 0 dL_hangs_750 rfl rfl ?_
        refine j_iconst (pc := 751) hX dL_hangs_751 ?_
        refine j_callVI (pc := 752) (st := [.int (zI 1), .int (zI (pwF r745))]) hX (u_best (x_l X) hG M745 1 f (by first | assumption | omega) (by first | assumption | omega) (by first | assumption | omega) (by first | assumption | omega)) cf_X5_bestFor lk_L_66 ⟨rfl, rfl, Nat.le_of_ble_eq_true rfl, Nat.le_of_ble_eq_true rfl⟩ rfl (Nat.le_of_ble_eq_true rfl) 0 (cg_0 G M745) rfl rfl dL_hangs_752 rfl (fun r752 M752 e752 => ?_)
        obtain ⟨e752, b752_1, b752_2, b752_3, b752_4⟩ := e752
        refine j_ishl (pc := 755) (c := (pwF r752)) hX dL_hangs_755 (pwF_shl b752_1 b752_2) ?_
        have n01 : ¬ r745 = r752 := by rw [e745, e752]; exact fun q => absurd ((hpm 0 1 (by omega) (by omega) (by omega) (by omega)).2 q) (by omega)
        refine j_ior (pc := 756) (c := (pwF r745 + pwF r752)) hX dL_hangs_756 (or_2 ⟨b745_1, b745_2⟩ ⟨b752_1, b752_2⟩ n01) ?_
        refine j_iconst (pc := 757) hX dL_hangs_757 ?_
        refine j_aload_n (pc := 758) hX 0 dL_hangs_758 rfl rfl ?_
        refine j_iconst (pc := 759) hX dL_hangs_759 ?_
        refine j_callVI (pc := 760) (st := [.int (zI 1), .int (zI (pwF r745 + pwF r752))]) hX (u_best (x_l X) hG M752 2 f (by first | assumption | omega) (by first | assumption | omega) (by first | assumption | omega) (by first | assumption | omega)) cf_X5_bestFor lk_L_66 ⟨rfl, rfl, Nat.le_of_ble_eq_true rfl, Nat.le_of_ble_eq_true rfl⟩ rfl (Nat.le_of_ble_eq_true rfl) 0 (cg_0 G M752) rfl rfl dL_hangs_760 rfl (fun r760 M760 e760 => ?_)
        obtain ⟨e760, b760_1, b760_2, b760_3, b760_4⟩ := e760
        refine j_ishl (pc := 763) (c := (pwF r760)) hX dL_hangs_763 (pwF_shl b760_1 b760_2) ?_
        have n02 : ¬ r745 = r760 := by rw [e745, e760]; exact fun q => absurd ((hpm 0 2 (by omega) (by omega) (by omega) (by omega)).2 q) (by omega)
        have n12 : ¬ r752 = r760 := by rw [e752, e760]; exact fun q => absurd ((hpm 1 2 (by omega) (by omega) (by omega) (by omega)).2 q) (by omega)
        refine j_ior (pc := 764) (c := (pwF r745 + pwF r752 + pwF r760)) hX dL_hangs_764 (or_3 ⟨b745_1, b745_2⟩ ⟨b752_1, b752_2⟩ ⟨b760_1, b760_2⟩ n01 n02 n12) ?_
        refine j_iconst (pc := 765) hX dL_hangs_765 ?_
        refine j_aload_n (pc := 766) hX 0 dL_hangs_766 rfl rfl ?_
        refine j_iconst (pc := 767) hX dL_hangs_767 ?_
        refine j_callVI (pc := 768) (st := [.int (zI 1), .int (zI (pwF r745 + pwF r752 + pwF r760))]) hX (u_best (x_l X) hG M760 3 f (by first | assumption | omega) (by first | assumption | omega) (by first | assumption | omega) (by first | assumption | omega)) cf_X5_bestFor lk_L_66 ⟨rfl, rfl, Nat.le_of_ble_eq_true rfl, Nat.le_of_ble_eq_true rfl⟩ rfl (Nat.le_of_ble_eq_true rfl) 0 (cg_0 G M760) rfl rfl dL_hangs_768 rfl (fun r768 M768 e768 => ?_)
        obtain ⟨e768, b768_1, b768_2, b768_3, b768_4⟩ := e768
        refine j_ishl (pc := 771) (c := (pwF r768)) hX dL_hangs_771 (pwF_shl b768_1 b768_2) ?_
        have n03 : ¬ r745 = r768 := by rw [e745, e768]; exact fun q => absurd ((hpm 0 3 (by omega) (by omega) (by omega) (by omega)).2 q) (by omega)
        have n13 : ¬ r752 = r768 := by rw [e752, e768]; exact fun q => absurd ((hpm 1 3 (by omega) (by omega) (by omega) (by omega)).2 q) (by omega)
        have n23 : ¬ r760 = r768 := by rw [e760, e768]; exact fun q => absurd ((hpm 2 3 (by omega) (by omega) (by omega) (by omega)).2 q) (by omega)
        refine j_ior (pc := 772) (c := 15) hX dL_hangs_772 (or_4 ⟨b745_1, b745_2⟩ ⟨b752_1, b752_2⟩ ⟨b760_1, b760_2⟩ ⟨b768_1, b768_2⟩ n01 n02 n12 n03 n13 n23) ?_
        refine j_bipush (pc := 773) hX dL_hangs_773 (by decide) ?_
        refine j_icmp_ne (pc := 775) (tgt := 782) hX ⟨by decide, by decide⟩ ⟨by decide, by decide⟩ dL_hangs_775 (by decide) (fun c775 => by exfalso; omega) (fun c775 => ?_)
        refine j_iconst (pc := 778) hX dL_hangs_778 ?_
        refine j_goto (pc := 779) (tgt := 783) hX dL_hangs_779 (by decide) ?_
        refine j_istore_n (pc := 783) (L' := [(1, .int (zI 1)), (0, .ref (g_q G 0)), (5, .int (zI al)), (6, .int (zI br)), (7, .int (zI be)), (8, .int (zI a))]) hX dL_hangs_783 rfl hN (by decide) rfl ?_
        refine j_sub (pc := 784) (L' := [(0, .ref (g_q G 0)), (1, .int (zI 1))]) [1, 0] rfl ?_
        exact h_C hX hN ok hc M768 b768_3 (fun z N' pc L hd hp => hret z N' pc L hd ⟨hp.1, (((((hk.trans b729_4).trans b745_4).trans b752_4).trans b760_4).trans b768_4).trans hp.2⟩)
      · skip
        refine j_iload_n (pc := 397) hX 1 dL_hangs_397 rfl rfl ?_
        refine j_if_eq (pc := 398) (tgt := 699) hX ⟨by decide, by decide⟩ dL_hangs_398 (by decide) (fun c398 => by exfalso; omega) (fun c398 => ?_)
        refine j_iconst (pc := 401) hX dL_hangs_401 ?_
        refine j_istore (pc := 402) (L' := [(9, .int (zI 0)), (0, .ref (g_q G 0)), (1, .int (zI 1)), (5, .int (zI al)), (6, .int (zI br)), (7, .int (zI be)), (8, .int (zI a))]) hX dL_hangs_402 hN (by decide) rfl ?_
        have hl404 : ∀ (n : Nat) (b : Int), (0 ≤ b) → (b ≤ 4) → (4 - b) < (n : Int) → J (cS G) X N 404 [(0, .ref (g_q G 0)), (1, .int (zI 1)), (5, .int (zI al)), (6, .int (zI br)), (7, .int (zI be)), (8, .int (zI a)), (9, .int (zI b))] [] := by
          intro n
          induction n with
          | zero =>
            intro b hv0 hv1 hm; exfalso; omega
          | succ n ih404 =>
            intro b hv0 hv1 hm404
            refine j_iload (pc := 404) hX 6 dL_hangs_404 rfl ?_
            refine j_iconst (pc := 406) hX dL_hangs_406 ?_
            refine j_icmp_ge (pc := 407) (tgt := 637) hX ⟨by omega, by omega⟩ ⟨by decide, by decide⟩ dL_hangs_407 (by decide) (fun c407 => ?_) (fun c407 => ?_)
            · skip
              refine j_aload_n (pc := 637) hX 0 dL_hangs_637 rfl rfl ?_
              refine j_iconst (pc := 638) hX dL_hangs_638 ?_
              refine j_iload (pc := 639) hX 5 dL_hangs_639 rfl ?_
              refine j_iconst (pc := 641) hX dL_hangs_641 ?_
              refine p_callVI (pc := 642) (st := []) hX (u_pt2 (x_l X) hG N 0 a 2 f (by first | assumption | omega) (by first | assumption | omega) (by first | assumption | omega) (by first | assumption | omega) (by first | assumption | omega) (by first | assumption | omega)) cf_X5_painter lk_L_55 ⟨rfl, rfl, Nat.le_of_ble_eq_true rfl, Nat.le_of_ble_eq_true rfl⟩ rfl (Nat.le_of_ble_eq_true rfl) 0 (cg_0 G N) rfl rfl dL_hangs_642 rfl (fun r642 e642 => ?_)
              obtain ⟨e642, b642_1, b642_2⟩ := e642
              refine j_istore (pc := 645) (L' := [(9, .int (zI r642)), (0, .ref (g_q G 0)), (1, .int (zI 1)), (5, .int (zI al)), (6, .int (zI br)), (7, .int (zI be)), (8, .int (zI a))]) hX dL_hangs_645 hN (by decide) rfl ?_
              refine j_iload (pc := 647) hX 3 dL_hangs_647 rfl ?_
              refine j_aload_n (pc := 649) hX 1 dL_hangs_649 rfl rfl ?_
              refine j_iload (pc := 650) hX 6 dL_hangs_650 rfl ?_
              refine j_iload (pc := 652) hX 0 dL_hangs_652 rfl ?_
              refine j_iconst (pc := 654) hX dL_hangs_654 ?_
              refine p_callVI (pc := 655) (st := [.int (zI al)]) hX (u_f0 (x_l X) hG N a r642 0 f (by first | assumption | omega) (by first | assumption | omega) (by first | assumption | omega) (by first | assumption | omega) (by first | assumption | omega) (by first | assumption | omega) (by first | assumption | omega)) cf_X5_face lk_L_63 ⟨rfl, rfl, Nat.le_of_ble_eq_true rfl, Nat.le_of_ble_eq_true rfl⟩ rfl (Nat.le_of_ble_eq_true rfl) 0 (cg_0 G N) rfl rfl dL_hangs_655 rfl (fun r655 e655 => ?_)
              obtain ⟨e655, b655_1, b655_2⟩ := e655
              refine j_iadd (pc := 658) hX dL_hangs_658 ?_
              refine j_istore (pc := 659) (L' := [(5, .int (zI (al + r655))), (9, .int (zI r642)), (0, .ref (g_q G 0)), (1, .int (zI 1)), (6, .int (zI br)), (7, .int (zI be)), (8, .int (zI a))]) hX dL_hangs_659 hN (by decide) rfl ?_
              refine j_iload (pc := 661) hX 4 dL_hangs_661 rfl ?_
              refine j_aload_n (pc := 663) hX 2 dL_hangs_663 rfl rfl ?_
              refine j_iload (pc := 664) hX 6 dL_hangs_664 rfl ?_
              refine j_iload (pc := 666) hX 1 dL_hangs_666 rfl ?_
              refine j_iconst (pc := 668) hX dL_hangs_668 ?_
              refine p_callVI (pc := 669) (st := [.int (zI br)]) hX (u_f1 (x_l X) hG N a r642 1 f (by first | assumption | omega) (by first | assumption | omega) (by first | assumption | omega) (by first | assumption | omega) (by first | assumption | omega) (by first | assumption | omega) (by first | assumption | omega)) cf_X5_face lk_L_63 ⟨rfl, rfl, Nat.le_of_ble_eq_true rfl, Nat.le_of_ble_eq_true rfl⟩ rfl (Nat.le_of_ble_eq_true rfl) 0 (cg_0 G N) rfl rfl dL_hangs_669 rfl (fun r669 e669 => ?_)
              obtain ⟨e669, b669_1, b669_2⟩ := e669
              refine j_iadd (pc := 672) hX dL_hangs_672 ?_
              refine j_istore (pc := 673) (L' := [(6, .int (zI (br + r669))), (5, .int (zI (al + r655))), (9, .int (zI r642)), (0, .ref (g_q G 0)), (1, .int (zI 1)), (7, .int (zI be)), (8, .int (zI a))]) hX dL_hangs_673 hN (by decide) rfl ?_
              refine j_iload (pc := 675) hX 5 dL_hangs_675 rfl ?_
              refine j_aload_n (pc := 677) hX 3 dL_hangs_677 rfl rfl ?_
              refine j_iload (pc := 678) hX 6 dL_hangs_678 rfl ?_
              refine j_aload_n (pc := 680) hX 3 dL_hangs_680 rfl rfl ?_
              refine j_iload (pc := 681) hX 6 dL_hangs_681 rfl ?_
              refine j_callVI (pc := 683) (st := [.int (zI a), .ref (g_q G 0), .int (zI be)]) hX (u_best (x_l X) hG N a f (by first | assumption | omega) (by first | assumption | omega) (by first | assumption | omega) (by first | assumption | omega)) cf_X5_bestFor lk_L_66 ⟨rfl, rfl, Nat.le_of_ble_eq_true rfl, Nat.le_of_ble_eq_true rfl⟩ rfl (Nat.le_of_ble_eq_true rfl) 0 (cg_0 G N) rfl rfl dL_hangs_683 rfl (fun r683 M683 e683 => ?_)
              obtain ⟨e683, b683_1, b683_2, b683_3, b683_4⟩ := e683
              refine j_iconst (pc := 686) hX dL_hangs_686 ?_
              refine p_callVI (pc := 687) (st := [.int (zI be)]) hX (u_f0 (x_l X) hG M683 a r683 0 f (by first | assumption | omega) (by first | assumption | omega) (by first | assumption | omega) (by first | assumption | omega) (by first | assumption | omega) (by first | assumption | omega) (by first | assumption | omega)) cf_X5_face lk_L_63 ⟨rfl, rfl, Nat.le_of_ble_eq_true rfl, Nat.le_of_ble_eq_true rfl⟩ rfl (Nat.le_of_ble_eq_true rfl) 0 (cg_0 G M683) rfl rfl dL_hangs_687 rfl (fun r687 e687 => ?_)
              obtain ⟨e687, b687_1, b687_2⟩ := e687
              refine j_iadd (pc := 690) hX dL_hangs_690 ?_
              refine j_istore (pc := 691) (L' := [(7, .int (zI (be + r687))), (6, .int (zI (br + r669))), (5, .int (zI (al + r655))), (9, .int (zI r642)), (0, .ref (g_q G 0)), (1, .int (zI 1)), (8, .int (zI a))]) hX dL_hangs_691 hN (by decide) rfl ?_
              refine j_iinc (pc := 693) (z := a) (L' := [(8, .int (zI (a + 1))), (7, .int (zI (be + r687))), (6, .int (zI (br + r669))), (5, .int (zI (al + r655))), (9, .int (zI r642)), (0, .ref (g_q G 0)), (1, .int (zI 1))]) hX 6 dL_hangs_693 rfl hN (by decide) rfl ?_
              refine j_goto (pc := 696) (tgt := 391) hX dL_hangs_696 (by decide) ?_
              refine j_sub (pc := 391) [5, 6, 3, 2, 1, 0] rfl ?_
              exact ih391 (a + 1) (al + r655) (br + r669) (be + r687) M683 (by omega) (by omega) (b683_3) (hk.trans b683_4) (by rw [sumI_s ha0, ← hal, e655, e642]; rfl) (by rw [sumI_s ha0, ← hbr, e669, e642]; rfl) (by rw [sumI_s ha0, ← hbe, e687, e683]) (by omega) (by omega) (by omega) (by omega)
            · skip
              refine j_iload_n (pc := 410) hX 1 dL_hangs_410 rfl rfl ?_
              refine j_if_eq (pc := 411) (tgt := 637) hX ⟨by decide, by decide⟩ dL_hangs_411 (by decide) (fun c411 => by exfalso; omega) (fun c411 => ?_)
              refine j_iconst (pc := 414) hX dL_hangs_414 ?_
              refine j_istore (pc := 415) (L' := [(10, .int (zI 0)), (0, .ref (g_q G 0)), (1, .int (zI 1)), (5, .int (zI al)), (6, .int (zI br)), (7, .int (zI be)), (8, .int (zI a)), (9, .int (zI b))]) hX dL_hangs_415 hN (by decide) rfl ?_
              refine j_ldc (pc := 417) (z := (-1000005)) hX kc_L_62 (by decide) dL_hangs_417 ?_
              refine j_istore (pc := 419) (L' := [(11, .int (zI (-1000005))), (10, .int (zI 0)), (0, .ref (g_q G 0)), (1, .int (zI 1)), (5, .int (zI al)), (6, .int (zI br)), (7, .int (zI be)), (8, .int (zI a)), (9, .int (zI b))]) hX dL_hangs_419 hN (by decide) rfl ?_
              refine j_iconst (pc := 421) hX dL_hangs_421 ?_
              refine j_istore (pc := 422) (L' := [(12, .int (zI 0)), (11, .int (zI (-1000005))), (10, .int (zI 0)), (0, .ref (g_q G 0)), (1, .int (zI 1)), (5, .int (zI al)), (6, .int (zI br)), (7, .int (zI be)), (8, .int (zI a)), (9, .int (zI b))]) hX dL_hangs_422 hN (by decide) rfl ?_
              refine j_iconst (pc := 424) hX dL_hangs_424 ?_
              refine j_istore (pc := 425) (L' := [(13, .int (zI 5)), (12, .int (zI 0)), (11, .int (zI (-1000005))), (10, .int (zI 0)), (0, .ref (g_q G 0)), (1, .int (zI 1)), (5, .int (zI al)), (6, .int (zI br)), (7, .int (zI be)), (8, .int (zI a)), (9, .int (zI b))]) hX dL_hangs_425 hN (by decide) rfl ?_
              have hl427 : ∀ (n : Nat) (w mn fi sm : Int), (-1 ≤ w) → (w ≤ 5) → (mn + sumI (fun j => if brkF f a b j then 1 else 0) (w + 1).toNat = brsF f a b) → (sm + sumI (fun j => absZ (stpF f a b j)) (w + 1).toNat = dlnF f a b) → (FbD f a b w fi) → (0 ≤ mn ∧ mn ≤ 5 - w) → (0 ≤ sm ∧ sm ≤ 9 * (5 - w)) → (w + 1) < (n : Int) → J (cS G) X N 427 [(0, .ref (g_q G 0)), (1, .int (zI 1)), (5, .int (zI al)), (6, .int (zI br)), (7, .int (zI be)), (8, .int (zI a)), (9, .int (zI b)), (10, .int (zI mn)), (11, .int (zI fi)), (12, .int (zI sm)), (13, .int (zI w))] [] := by
                intro n
                induction n with
                | zero =>
                  intro w mn fi sm hw0 hw1 hmn hsm hfb hmb hsb hm; exfalso; omega
                | succ n ih427 =>
                  intro w mn fi sm hw0 hw1 hmn hsm hfb hmb hsb hm427
                  refine j_iload (pc := 427) hX 10 dL_hangs_427 rfl ?_
                  refine j_if_lt (pc := 429) (tgt := 542) hX ⟨by omega, by omega⟩ dL_hangs_429 (by decide) (fun c429 => ?_) (fun c429 => ?_)
                  · skip
                    have qw : w = -1 := by omega
                    have qfi := hfb.fin qw
                    rw [qw] at hmn hsm
                    change mn + 0 = _ at hmn
                    change sm + 0 = _ at hsm
                    have bfi := hfb.b hw0
                    refine j_aload_n (pc := 542) hX 0 dL_hangs_542 rfl rfl ?_
                    refine j_iload (pc := 543) hX 5 dL_hangs_543 rfl ?_
                    refine j_iload (pc := 545) hX 6 dL_hangs_545 rfl ?_
                    refine j_iconst (pc := 547) hX dL_hangs_547 ?_
                    refine p_callVI (pc := 548) (st := []) hX (u_f1 (x_l X) hG N a b 1 f (by first | assumption | omega) (by first | assumption | omega) (by first | assumption | omega) (by first | assumption | omega) (by first | assumption | omega) (by first | assumption | omega) (by first | assumption | omega)) cf_X5_face lk_L_63 ⟨rfl, rfl, Nat.le_of_ble_eq_true rfl, Nat.le_of_ble_eq_true rfl⟩ rfl (Nat.le_of_ble_eq_true rfl) 0 (cg_0 G N) rfl rfl dL_hangs_548 rfl (fun r548 e548 => ?_)
                    obtain ⟨e548, b548_1, b548_2⟩ := e548
                    refine j_iload (pc := 551) hX 7 dL_hangs_551 rfl ?_
                    have q548 : r548 = mn := by omega
                    refine j_icmp_ne (pc := 553) (tgt := 629) hX ⟨by omega, by omega⟩ ⟨by omega, by omega⟩ dL_hangs_553 (by decide) (fun c553 => by exfalso; omega) (fun c553 => ?_)
                    refine j_aload_n (pc := 556) hX 0 dL_hangs_556 rfl rfl ?_
                    refine j_iload (pc := 557) hX 5 dL_hangs_557 rfl ?_
                    refine j_iload (pc := 559) hX 6 dL_hangs_559 rfl ?_
                    refine j_iconst (pc := 561) hX dL_hangs_561 ?_
                    refine p_callVI (pc := 562) (st := []) hX (u_f2 (x_l X) hG N a b 2 f (by first | assumption | omega) (by first | assumption | omega) (by first | assumption | omega) (by first | assumption | omega) (by first | assumption | omega) (by first | assumption | omega) (by first | assumption | omega)) cf_X5_face lk_L_63 ⟨rfl, rfl, Nat.le_of_ble_eq_true rfl, Nat.le_of_ble_eq_true rfl⟩ rfl (Nat.le_of_ble_eq_true rfl) 0 (cg_0 G N) rfl rfl dL_hangs_562 rfl (fun r562 e562 => ?_)
                    obtain ⟨e562, b562_1, b562_2⟩ := e562
                    refine j_iload (pc := 565) hX 8 dL_hangs_565 rfl ?_
                    have q562 : r562 = fi := by rw [e562, qfi]
                    refine j_icmp_ne (pc := 567) (tgt := 629) hX ⟨by omega, by omega⟩ ⟨by omega, by omega⟩ dL_hangs_567 (by decide) (fun c567 => by exfalso; omega) (fun c567 => ?_)
                    refine j_aload_n (pc := 570) hX 0 dL_hangs_570 rfl rfl ?_
                    refine j_iload (pc := 571) hX 5 dL_hangs_571 rfl ?_
                    refine j_iload (pc := 573) hX 6 dL_hangs_573 rfl ?_
                    refine j_iconst (pc := 575) hX dL_hangs_575 ?_
                    refine p_callVI (pc := 576) (st := []) hX (u_f3 (x_l X) hG N a b 3 f (by first | assumption | omega) (by first | assumption | omega) (by first | assumption | omega) (by first | assumption | omega) (by first | assumption | omega) (by first | assumption | omega) (by first | assumption | omega)) cf_X5_face lk_L_63 ⟨rfl, rfl, Nat.le_of_ble_eq_true rfl, Nat.le_of_ble_eq_true rfl⟩ rfl (Nat.le_of_ble_eq_true rfl) 0 (cg_0 G N) rfl rfl dL_hangs_576 rfl (fun r576 e576 => ?_)
                    obtain ⟨e576, b576_1, b576_2⟩ := e576
                    refine j_iload (pc := 579) hX 9 dL_hangs_579 rfl ?_
                    have q576 : r576 = sm := by omega
                    refine j_icmp_ne (pc := 581) (tgt := 629) hX ⟨by omega, by omega⟩ ⟨by omega, by omega⟩ dL_hangs_581 (by decide) (fun c581 => by exfalso; omega) (fun c581 => ?_)
                    refine j_aload_n (pc := 584) hX 0 dL_hangs_584 rfl rfl ?_
                    refine j_iload (pc := 585) hX 5 dL_hangs_585 rfl ?_
                    refine j_iload (pc := 587) hX 6 dL_hangs_587 rfl ?_
                    refine j_iconst (pc := 589) hX dL_hangs_589 ?_
                    refine p_callVI (pc := 590) (st := []) hX (u_f0 (x_l X) hG N a b 0 f (by first | assumption | omega) (by first | assumption | omega) (by first | assumption | omega) (by first | assumption | omega) (by first | assumption | omega) (by first | assumption | omega) (by first | assumption | omega)) cf_X5_face lk_L_63 ⟨rfl, rfl, Nat.le_of_ble_eq_true rfl, Nat.le_of_ble_eq_true rfl⟩ rfl (Nat.le_of_ble_eq_true rfl) 0 (cg_0 G N) rfl rfl dL_hangs_590 rfl (fun r590 e590 => ?_)
                    obtain ⟨e590, b590_1, b590_2⟩ := e590
                    refine j_sipush (pc := 593) hX dL_hangs_593 (by decide) ?_
                    refine j_iconst (pc := 596) hX dL_hangs_596 ?_
                    refine j_aload_n (pc := 597) hX 0 dL_hangs_597 rfl rfl ?_
                    refine j_iconst (pc := 598) hX dL_hangs_598 ?_
                    refine j_iload (pc := 599) hX 5 dL_hangs_599 rfl ?_
                    refine j_iconst (pc := 601) hX dL_hangs_601 ?_
                    refine p_callVI (pc := 602) (st := [.int (zI 5), .int (zI 1000), .int (zI r590)]) hX (u_pt1 (x_l X) hG N 0 a 1 f (by first | assumption | omega) (by first | assumption | omega) (by first | assumption | omega) (by first | assumption | omega) (by first | assumption | omega) (by first | assumption | omega)) cf_X5_painter lk_L_55 ⟨rfl, rfl, Nat.le_of_ble_eq_true rfl, Nat.le_of_ble_eq_true rfl⟩ rfl (Nat.le_of_ble_eq_true rfl) 0 (cg_0 G N) rfl rfl dL_hangs_602 rfl (fun r602 e602 => ?_)
                    obtain ⟨e602, b602_1, b602_2⟩ := e602
                    refine j_aload_n (pc := 605) hX 0 dL_hangs_605 rfl rfl ?_
                    refine j_iconst (pc := 606) hX dL_hangs_606 ?_
                    refine j_iload (pc := 607) hX 6 dL_hangs_607 rfl ?_
                    refine j_iconst (pc := 609) hX dL_hangs_609 ?_
                    refine p_callVI (pc := 610) (st := [.int (zI r602), .int (zI 5), .int (zI 1000), .int (zI r590)]) hX (u_pt1 (x_l X) hG N 1 b 1 f (by first | assumption | omega) (by first | assumption | omega) (by first | assumption | omega) (by first | assumption | omega) (by first | assumption | omega) (by first | assumption | omega)) cf_X5_painter lk_L_55 ⟨rfl, rfl, Nat.le_of_ble_eq_true rfl, Nat.le_of_ble_eq_true rfl⟩ rfl (Nat.le_of_ble_eq_true rfl) 0 (cg_0 G N) rfl rfl dL_hangs_610 rfl (fun r610 e610 => ?_)
                    obtain ⟨e610, b610_1, b610_2⟩ := e610
                    refine j_iadd (pc := 613) hX dL_hangs_613 ?_
                    refine j_imul (pc := 614) hX dL_hangs_614 ?_
                    refine j_isub (pc := 615) hX dL_hangs_615 ?_
                    refine j_bipush (pc := 616) hX dL_hangs_616 (by decide) ?_
                    refine j_iload (pc := 618) hX 7 dL_hangs_618 rfl ?_
                    refine j_imul (pc := 620) hX dL_hangs_620 ?_
                    refine j_isub (pc := 621) hX dL_hangs_621 ?_
                    rw [(by rfl : sdF 0 = 0), (by omega : 0 + a = a)] at e602
                    rw [(by rfl : sdF 1 = 4)] at e610
                    have q590 : r590 = 1000 - 5 * (r602 + r610) - 50 * mn := by rw [e590, e602, e610]; unfold likF; omega
                    refine j_icmp_ne (pc := 622) (tgt := 629) hX ⟨by omega, by omega⟩ ⟨by omega, by omega⟩ dL_hangs_622 (by decide) (fun c622 => by exfalso; omega) (fun c622 => ?_)
                    refine j_iconst (pc := 625) hX dL_hangs_625 ?_
                    refine j_goto (pc := 626) (tgt := 630) hX dL_hangs_626 (by decide) ?_
                    refine j_istore_n (pc := 630) (L' := [(1, .int (zI 1)), (0, .ref (g_q G 0)), (5, .int (zI al)), (6, .int (zI br)), (7, .int (zI be)), (8, .int (zI a)), (9, .int (zI b)), (10, .int (zI mn)), (11, .int (zI fi)), (12, .int (zI sm)), (13, .int (zI w))]) hX dL_hangs_630 rfl hN (by decide) rfl ?_
                    refine j_iinc (pc := 631) (z := b) (L' := [(9, .int (zI (b + 1))), (1, .int (zI 1)), (0, .ref (g_q G 0)), (5, .int (zI al)), (6, .int (zI br)), (7, .int (zI be)), (8, .int (zI a)), (10, .int (zI mn)), (11, .int (zI fi)), (12, .int (zI sm)), (13, .int (zI w))]) hX 6 dL_hangs_631 rfl hN (by decide) rfl ?_
                    refine j_goto (pc := 634) (tgt := 404) hX dL_hangs_634 (by decide) ?_
                    refine j_sub (pc := 404) [2, 1, 3, 4, 5, 6, 0] rfl ?_
                    exact ih404 (b + 1) (by omega) (by omega) (by omega)
                  · skip
                    have bst := ok.T.stp (l := a) (r := b) (w := w) ha0 (by omega) hv0 (by omega) (by omega) (by omega)
                    have bab := absZ_b (stpF f a b w)
                    have bss := ok.T.sst (w := w) (by omega) (by omega)
                    refine j_aload_n (pc := 432) hX 0 dL_hangs_432 rfl rfl ?_
                    refine j_iconst (pc := 433) hX dL_hangs_433 ?_
                    refine j_iload (pc := 434) hX 6 dL_hangs_434 rfl ?_
                    refine j_iload (pc := 436) hX 10 dL_hangs_436 rfl ?_
                    refine j_iconst (pc := 438) hX dL_hangs_438 ?_
                    refine p_callVI (pc := 439) (st := []) hX (u_tone (x_l X) hG N 1 b w 0 f (by first | assumption | omega) (by first | assumption | omega) (by first | assumption | omega) (by first | assumption | omega) (by first | assumption | omega) (by first | assumption | omega) (by first | assumption | omega) (by first | assumption | omega) (by first | assumption | omega)) cf_X5_tone lk_L_43 ⟨rfl, rfl, Nat.le_of_ble_eq_true rfl, Nat.le_of_ble_eq_true rfl⟩ rfl (Nat.le_of_ble_eq_true rfl) 0 (cg_0 G N) rfl rfl dL_hangs_439 rfl (fun r439 e439 => ?_)
                    obtain ⟨e439, b439_1, b439_2⟩ := e439
                    refine j_aload_n (pc := 442) hX 0 dL_hangs_442 rfl rfl ?_
                    refine j_iconst (pc := 443) hX dL_hangs_443 ?_
                    refine j_iload (pc := 444) hX 5 dL_hangs_444 rfl ?_
                    refine j_iload (pc := 446) hX 10 dL_hangs_446 rfl ?_
                    refine j_iconst (pc := 448) hX dL_hangs_448 ?_
                    refine p_callVI (pc := 449) (st := [.int (zI r439)]) hX (u_tone (x_l X) hG N 0 a w 2 f (by first | assumption | omega) (by first | assumption | omega) (by first | assumption | omega) (by first | assumption | omega) (by first | assumption | omega) (by first | assumption | omega) (by first | assumption | omega) (by first | assumption | omega) (by first | assumption | omega)) cf_X5_tone lk_L_43 ⟨rfl, rfl, Nat.le_of_ble_eq_true rfl, Nat.le_of_ble_eq_true rfl⟩ rfl (Nat.le_of_ble_eq_true rfl) 0 (cg_0 G N) rfl rfl dL_hangs_449 rfl (fun r449 e449 => ?_)
                    obtain ⟨e449, b449_1, b449_2⟩ := e449
                    refine j_isub (pc := 452) hX dL_hangs_452 ?_
                    obtain ⟨ap, eap⟩ : ∃ x : Int, x = (r439 - r449) := ⟨_, rfl⟩
                    rw [← eap]
                    have qap : ap = stpF f a b w := by rw [eap, e439, e449]; unfold stpF; rw [(by rfl : sdF 1 = 4), (by rfl : sdF 0 = 0), (by omega : w * 3 + 0 = w * 3), (by omega : 0 + a = a)]
                    refine j_istore (pc := 453) (L' := [(14, .int (zI ap)), (0, .ref (g_q G 0)), (1, .int (zI 1)), (5, .int (zI al)), (6, .int (zI br)), (7, .int (zI be)), (8, .int (zI a)), (9, .int (zI b)), (10, .int (zI mn)), (11, .int (zI fi)), (12, .int (zI sm)), (13, .int (zI w))]) hX dL_hangs_453 hN (by decide) rfl ?_
                    refine j_iload (pc := 455) hX 0 dL_hangs_455 rfl ?_
                    refine j_iconst (pc := 457) hX dL_hangs_457 ?_
                    refine p_callSI (pc := 458) (st := []) hX (c_L_far (x_l X) hG N ap 0 (by first | assumption | omega) (by first | assumption | omega)) cf_L_far lk_L_50 ⟨rfl, rfl, Nat.le_of_ble_eq_true rfl, Nat.le_of_ble_eq_true rfl⟩ rfl (Nat.le_of_ble_eq_true rfl) dL_hangs_458 rfl (fun r458 e458 => ?_)
                    have q458 : r458 = absZ (stpF f a b w) := by rw [e458, qap, dst_0]
                    refine j_aload_n (pc := 461) hX 1 dL_hangs_461 rfl rfl ?_
                    refine j_iconst (pc := 462) hX dL_hangs_462 ?_
                    refine p_callVI (pc := 463) (st := [.int (zI r458)]) hX (u_c0 (x_l X) hG N 0 f (by first | assumption | omega) (by first | assumption | omega) (by first | assumption | omega)) cf_X5_count lk_L_58 ⟨rfl, rfl, Nat.le_of_ble_eq_true rfl, Nat.le_of_ble_eq_true rfl⟩ rfl (Nat.le_of_ble_eq_true rfl) 0 (cg_0 G N) rfl rfl dL_hangs_463 rfl (fun r463 e463 => ?_)
                    obtain ⟨e463, b463_1, b463_2⟩ := e463
                    refine j_icmp_le (pc := 466) (tgt := 493) hX ⟨by omega, by omega⟩ ⟨by omega, by omega⟩ dL_hangs_466 (by decide) (fun c466 => ?_) (fun c466 => ?_)
                    · skip
                      have hbk : ¬ brkF f a b w := fun q => by have q1 := q.1; omega
                      refine j_iconst (pc := 493) hX dL_hangs_493 ?_
                      refine j_istore (pc := 494) (L' := [(15, .int (zI 0)), (14, .int (zI ap)), (0, .ref (g_q G 0)), (1, .int (zI 1)), (5, .int (zI al)), (6, .int (zI br)), (7, .int (zI be)), (8, .int (zI a)), (9, .int (zI b)), (10, .int (zI mn)), (11, .int (zI fi)), (12, .int (zI sm)), (13, .int (zI w))]) hX dL_hangs_494 hN (by decide) rfl ?_
                      refine j_iload (pc := 496) hX 9 dL_hangs_496 rfl ?_
                      refine j_iload (pc := 498) hX 0 dL_hangs_498 rfl ?_
                      refine j_if_eq (pc := 500) (tgt := 507) hX ⟨by decide, by decide⟩ dL_hangs_500 (by decide) (fun c500 => ?_) (fun c500 => by exfalso; omega)
                      refine j_iconst (pc := 507) hX dL_hangs_507 ?_
                      refine j_iadd (pc := 508) hX dL_hangs_508 ?_
                      refine j_istore (pc := 509) (L' := [(10, .int (zI (mn + 0))), (15, .int (zI 0)), (14, .int (zI ap)), (0, .ref (g_q G 0)), (1, .int (zI 1)), (5, .int (zI al)), (6, .int (zI br)), (7, .int (zI be)), (8, .int (zI a)), (9, .int (zI b)), (11, .int (zI fi)), (12, .int (zI sm)), (13, .int (zI w))]) hX dL_hangs_509 hN (by decide) rfl ?_
                      refine j_iload (pc := 511) hX 1 dL_hangs_511 rfl ?_
                      refine j_if_eq (pc := 513) (tgt := 521) hX ⟨by decide, by decide⟩ dL_hangs_513 (by decide) (fun c513 => ?_) (fun c513 => by exfalso; omega)
                      refine j_iload (pc := 521) hX 10 dL_hangs_521 rfl ?_
                      refine j_istore (pc := 523) (L' := [(11, .int (zI fi)), (10, .int (zI (mn + 0))), (15, .int (zI 0)), (14, .int (zI ap)), (0, .ref (g_q G 0)), (1, .int (zI 1)), (5, .int (zI al)), (6, .int (zI br)), (7, .int (zI be)), (8, .int (zI a)), (9, .int (zI b)), (12, .int (zI sm)), (13, .int (zI w))]) hX dL_hangs_523 hN (by decide) rfl ?_
                      refine j_iload (pc := 525) hX 11 dL_hangs_525 rfl ?_
                      refine j_iload (pc := 527) hX 3 dL_hangs_527 rfl ?_
                      refine j_iconst (pc := 529) hX dL_hangs_529 ?_
                      refine p_callSI (pc := 530) (st := [.int (zI sm)]) hX (c_L_far (x_l X) hG N ap 0 (by first | assumption | omega) (by first | assumption | omega)) cf_L_far lk_L_50 ⟨rfl, rfl, Nat.le_of_ble_eq_true rfl, Nat.le_of_ble_eq_true rfl⟩ rfl (Nat.le_of_ble_eq_true rfl) dL_hangs_530 rfl (fun r530 e530 => ?_)
                      have q530 : r530 = absZ (stpF f a b w) := by rw [e530, qap, dst_0]
                      refine j_iadd (pc := 533) hX dL_hangs_533 ?_
                      refine j_istore (pc := 534) (L' := [(12, .int (zI (sm + r530))), (11, .int (zI fi)), (10, .int (zI (mn + 0))), (15, .int (zI 0)), (14, .int (zI ap)), (0, .ref (g_q G 0)), (1, .int (zI 1)), (5, .int (zI al)), (6, .int (zI br)), (7, .int (zI be)), (8, .int (zI a)), (9, .int (zI b)), (13, .int (zI w))]) hX dL_hangs_534 hN (by decide) rfl ?_
                      refine j_iinc (pc := 536) (z := w) (L' := [(13, .int (zI (w + (-1)))), (12, .int (zI (sm + r530))), (11, .int (zI fi)), (10, .int (zI (mn + 0))), (15, .int (zI 0)), (14, .int (zI ap)), (0, .ref (g_q G 0)), (1, .int (zI 1)), (5, .int (zI al)), (6, .int (zI br)), (7, .int (zI be)), (8, .int (zI a)), (9, .int (zI b))]) hX 12 dL_hangs_536 rfl hN (by decide) rfl ?_
                      refine j_goto (pc := 539) (tgt := 427) hX dL_hangs_539 (by decide) ?_
                      refine j_sub (pc := 427) [6, 7, 8, 9, 10, 11, 12, 3, 2, 1, 0] rfl ?_
                      exact ih427 (w + (-1)) (mn + 0) fi (sm + r530) (by omega) (by omega) (by rw [(by omega : w + (-1) + 1 = w)]; rw [sumI_s (by omega)] at hmn; first | (rw [if_pos hbk] at hmn; omega) | (rw [if_neg hbk] at hmn; omega)) (by rw [(by omega : w + (-1) + 1 = w)]; rw [sumI_s (by omega)] at hsm; omega) (by first | exact FbD.yes hw1 hbk | exact hfb.no hbk) (by omega) (by omega) (by omega)
                    · skip
                      refine j_iload (pc := 469) hX 0 dL_hangs_469 rfl ?_
                      refine j_aload_n (pc := 471) hX 1 dL_hangs_471 rfl rfl ?_
                      refine j_iload (pc := 472) hX 11 dL_hangs_472 rfl ?_
                      refine j_iconst (pc := 474) hX dL_hangs_474 ?_
                      refine p_callVI (pc := 475) (st := [.int (zI ap)]) hX (u_sitter (x_l X) hG N w 3 f (by first | assumption | omega) (by first | assumption | omega) (by first | assumption | omega) (by first | assumption | omega) (by first | assumption | omega) (by first | assumption | omega)) cf_X5_sitter lk_L_47 ⟨rfl, rfl, Nat.le_of_ble_eq_true rfl, Nat.le_of_ble_eq_true rfl⟩ rfl (Nat.le_of_ble_eq_true rfl) 0 (cg_0 G N) rfl rfl dL_hangs_475 rfl (fun r475 e475 => ?_)
                      obtain ⟨e475, b475_1, b475_2⟩ := e475
                      refine j_aload_n (pc := 478) hX 1 dL_hangs_478 rfl rfl ?_
                      refine j_iload (pc := 479) hX 11 dL_hangs_479 rfl ?_
                      refine j_iconst (pc := 481) hX dL_hangs_481 ?_
                      refine p_callVI (pc := 482) (st := [.int (zI r475), .int (zI ap)]) hX (u_sitter (x_l X) hG N w 2 f (by first | assumption | omega) (by first | assumption | omega) (by first | assumption | omega) (by first | assumption | omega) (by first | assumption | omega) (by first | assumption | omega)) cf_X5_sitter lk_L_47 ⟨rfl, rfl, Nat.le_of_ble_eq_true rfl, Nat.le_of_ble_eq_true rfl⟩ rfl (Nat.le_of_ble_eq_true rfl) 0 (cg_0 G N) rfl rfl dL_hangs_482 rfl (fun r482 e482 => ?_)
                      obtain ⟨e482, b482_1, b482_2⟩ := e482
                      refine j_isub (pc := 485) hX dL_hangs_485 ?_
                      obtain ⟨ss, ess⟩ : ∃ x : Int, x = (r475 - r482) := ⟨_, rfl⟩
                      rw [← ess]
                      have qss : ss = sstF f w := by rw [ess, e475, e482]; rfl
                      refine j_icmp_eq (pc := 486) (tgt := 493) hX ⟨by omega, by omega⟩ ⟨by omega, by omega⟩ dL_hangs_486 (by decide) (fun c486 => ?_) (fun c486 => ?_)
                      · skip
                        have hbk : ¬ brkF f a b w := fun q => q.2 (by rw [← qap, ← qss]; exact c486)
                        refine j_iconst (pc := 493) hX dL_hangs_493 ?_
                        refine j_istore (pc := 494) (L' := [(15, .int (zI 0)), (14, .int (zI ap)), (0, .ref (g_q G 0)), (1, .int (zI 1)), (5, .int (zI al)), (6, .int (zI br)), (7, .int (zI be)), (8, .int (zI a)), (9, .int (zI b)), (10, .int (zI mn)), (11, .int (zI fi)), (12, .int (zI sm)), (13, .int (zI w))]) hX dL_hangs_494 hN (by decide) rfl ?_
                        refine j_iload (pc := 496) hX 9 dL_hangs_496 rfl ?_
                        refine j_iload (pc := 498) hX 0 dL_hangs_498 rfl ?_
                        refine j_if_eq (pc := 500) (tgt := 507) hX ⟨by decide, by decide⟩ dL_hangs_500 (by decide) (fun c500 => ?_) (fun c500 => by exfalso; omega)
                        refine j_iconst (pc := 507) hX dL_hangs_507 ?_
                        refine j_iadd (pc := 508) hX dL_hangs_508 ?_
                        refine j_istore (pc := 509) (L' := [(10, .int (zI (mn + 0))), (15, .int (zI 0)), (14, .int (zI ap)), (0, .ref (g_q G 0)), (1, .int (zI 1)), (5, .int (zI al)), (6, .int (zI br)), (7, .int (zI be)), (8, .int (zI a)), (9, .int (zI b)), (11, .int (zI fi)), (12, .int (zI sm)), (13, .int (zI w))]) hX dL_hangs_509 hN (by decide) rfl ?_
                        refine j_iload (pc := 511) hX 1 dL_hangs_511 rfl ?_
                        refine j_if_eq (pc := 513) (tgt := 521) hX ⟨by decide, by decide⟩ dL_hangs_513 (by decide) (fun c513 => ?_) (fun c513 => by exfalso; omega)
                        refine j_iload (pc := 521) hX 10 dL_hangs_521 rfl ?_
                        refine j_istore (pc := 523) (L' := [(11, .int (zI fi)), (10, .int (zI (mn + 0))), (15, .int (zI 0)), (14, .int (zI ap)), (0, .ref (g_q G 0)), (1, .int (zI 1)), (5, .int (zI al)), (6, .int (zI br)), (7, .int (zI be)), (8, .int (zI a)), (9, .int (zI b)), (12, .int (zI sm)), (13, .int (zI w))]) hX dL_hangs_523 hN (by decide) rfl ?_
                        refine j_iload (pc := 525) hX 11 dL_hangs_525 rfl ?_
                        refine j_iload (pc := 527) hX 3 dL_hangs_527 rfl ?_
                        refine j_iconst (pc := 529) hX dL_hangs_529 ?_
                        refine p_callSI (pc := 530) (st := [.int (zI sm)]) hX (c_L_far (x_l X) hG N ap 0 (by first | assumption | omega) (by first | assumption | omega)) cf_L_far lk_L_50 ⟨rfl, rfl, Nat.le_of_ble_eq_true rfl, Nat.le_of_ble_eq_true rfl⟩ rfl (Nat.le_of_ble_eq_true rfl) dL_hangs_530 rfl (fun r530 e530 => ?_)
                        have q530 : r530 = absZ (stpF f a b w) := by rw [e530, qap, dst_0]
                        refine j_iadd (pc := 533) hX dL_hangs_533 ?_
                        refine j_istore (pc := 534) (L' := [(12, .int (zI (sm + r530))), (11, .int (zI fi)), (10, .int (zI (mn + 0))), (15, .int (zI 0)), (14, .int (zI ap)), (0, .ref (g_q G 0)), (1, .int (zI 1)), (5, .int (zI al)), (6, .int (zI br)), (7, .int (zI be)), (8, .int (zI a)), (9, .int (zI b)), (13, .int (zI w))]) hX dL_hangs_534 hN (by decide) rfl ?_
                        refine j_iinc (pc := 536) (z := w) (L' := [(13, .int (zI (w + (-1)))), (12, .int (zI (sm + r530))), (11, .int (zI fi)), (10, .int (zI (mn + 0))), (15, .int (zI 0)), (14, .int (zI ap)), (0, .ref (g_q G 0)), (1, .int (zI 1)), (5, .int (zI al)), (6, .int (zI br)), (7, .int (zI be)), (8, .int (zI a)), (9, .int (zI b))]) hX 12 dL_hangs_536 rfl hN (by decide) rfl ?_
                        refine j_goto (pc := 539) (tgt := 427) hX dL_hangs_539 (by decide) ?_
                        refine j_sub (pc := 427) [6, 7, 8, 9, 10, 11, 12, 3, 2, 1, 0] rfl ?_
                        exact ih427 (w + (-1)) (mn + 0) fi (sm + r530) (by omega) (by omega) (by rw [(by omega : w + (-1) + 1 = w)]; rw [sumI_s (by omega)] at hmn; first | (rw [if_pos hbk] at hmn; omega) | (rw [if_neg hbk] at hmn; omega)) (by rw [(by omega : w + (-1) + 1 = w)]; rw [sumI_s (by omega)] at hsm; omega) (by first | exact FbD.yes hw1 hbk | exact hfb.no hbk) (by omega) (by omega) (by omega)
                      · skip
                        have hbk : brkF f a b w := ⟨by omega, by rw [← qap, ← qss]; exact c486⟩
                        refine j_iconst (pc := 489) hX dL_hangs_489 ?_
                        refine j_goto (pc := 490) (tgt := 494) hX dL_hangs_490 (by decide) ?_
                        refine j_istore (pc := 494) (L' := [(15, .int (zI 1)), (14, .int (zI ap)), (0, .ref (g_q G 0)), (1, .int (zI 1)), (5, .int (zI al)), (6, .int (zI br)), (7, .int (zI be)), (8, .int (zI a)), (9, .int (zI b)), (10, .int (zI mn)), (11, .int (zI fi)), (12, .int (zI sm)), (13, .int (zI w))]) hX dL_hangs_494 hN (by decide) rfl ?_
                        refine j_iload (pc := 496) hX 9 dL_hangs_496 rfl ?_
                        refine j_iload (pc := 498) hX 0 dL_hangs_498 rfl ?_
                        refine j_if_eq (pc := 500) (tgt := 507) hX ⟨by decide, by decide⟩ dL_hangs_500 (by decide) (fun c500 => by exfalso; omega) (fun c500 => ?_)
                        refine j_iconst (pc := 503) hX dL_hangs_503 ?_
                        refine j_goto (pc := 504) (tgt := 508) hX dL_hangs_504 (by decide) ?_
                        refine j_iadd (pc := 508) hX dL_hangs_508 ?_
                        refine j_istore (pc := 509) (L' := [(10, .int (zI (mn + 1))), (15, .int (zI 1)), (14, .int (zI ap)), (0, .ref (g_q G 0)), (1, .int (zI 1)), (5, .int (zI al)), (6, .int (zI br)), (7, .int (zI be)), (8, .int (zI a)), (9, .int (zI b)), (11, .int (zI fi)), (12, .int (zI sm)), (13, .int (zI w))]) hX dL_hangs_509 hN (by decide) rfl ?_
                        refine j_iload (pc := 511) hX 1 dL_hangs_511 rfl ?_
                        refine j_if_eq (pc := 513) (tgt := 521) hX ⟨by decide, by decide⟩ dL_hangs_513 (by decide) (fun c513 => by exfalso; omega) (fun c513 => ?_)
                        refine j_iload (pc := 516) hX 12 dL_hangs_516 rfl ?_
                        refine j_goto (pc := 518) (tgt := 523) hX dL_hangs_518 (by decide) ?_
                        refine j_istore (pc := 523) (L' := [(11, .int (zI w)), (10, .int (zI (mn + 1))), (15, .int (zI 1)), (14, .int (zI ap)), (0, .ref (g_q G 0)), (1, .int (zI 1)), (5, .int (zI al)), (6, .int (zI br)), (7, .int (zI be)), (8, .int (zI a)), (9, .int (zI b)), (12, .int (zI sm)), (13, .int (zI w))]) hX dL_hangs_523 hN (by decide) rfl ?_
                        refine j_iload (pc := 525) hX 11 dL_hangs_525 rfl ?_
                        refine j_iload (pc := 527) hX 3 dL_hangs_527 rfl ?_
                        refine j_iconst (pc := 529) hX dL_hangs_529 ?_
                        refine p_callSI (pc := 530) (st := [.int (zI sm)]) hX (c_L_far (x_l X) hG N ap 0 (by first | assumption | omega) (by first | assumption | omega)) cf_L_far lk_L_50 ⟨rfl, rfl, Nat.le_of_ble_eq_true rfl, Nat.le_of_ble_eq_true rfl⟩ rfl (Nat.le_of_ble_eq_true rfl) dL_hangs_530 rfl (fun r530 e530 => ?_)
                        have q530 : r530 = absZ (stpF f a b w) := by rw [e530, qap, dst_0]
                        refine j_iadd (pc := 533) hX dL_hangs_533 ?_
                        refine j_istore (pc := 534) (L' := [(12, .int (zI (sm + r530))), (11, .int (zI w)), (10, .int (zI (mn + 1))), (15, .int (zI 1)), (14, .int (zI ap)), (0, .ref (g_q G 0)), (1, .int (zI 1)), (5, .int (zI al)), (6, .int (zI br)), (7, .int (zI be)), (8, .int (zI a)), (9, .int (zI b)), (13, .int (zI w))]) hX dL_hangs_534 hN (by decide) rfl ?_
                        refine j_iinc (pc := 536) (z := w) (L' := [(13, .int (zI (w + (-1)))), (12, .int (zI (sm + r530))), (11, .int (zI w)), (10, .int (zI (mn + 1))), (15, .int (zI 1)), (14, .int (zI ap)), (0, .ref (g_q G 0)), (1, .int (zI 1)), (5, .int (zI al)), (6, .int (zI br)), (7, .int (zI be)), (8, .int (zI a)), (9, .int (zI b))]) hX 12 dL_hangs_536 rfl hN (by decide) rfl ?_
                        refine j_goto (pc := 539) (tgt := 427) hX dL_hangs_539 (by decide) ?_
                        refine j_sub (pc := 427) [6, 7, 8, 9, 10, 11, 12, 3, 2, 1, 0] rfl ?_
                        exact ih427 (w + (-1)) (mn + 1) w (sm + r530) (by omega) (by omega) (by rw [(by omega : w + (-1) + 1 = w)]; rw [sumI_s (by omega)] at hmn; first | (rw [if_pos hbk] at hmn; omega) | (rw [if_neg hbk] at hmn; omega)) (by rw [(by omega : w + (-1) + 1 = w)]; rw [sumI_s (by omega)] at hsm; omega) (by first | exact FbD.yes hw1 hbk | exact hfb.no hbk) (by omega) (by omega) (by omega)
              refine j_sub (pc := 427) [4, 5, 6, 7, 8, 9, 10, 3, 2, 1, 0] rfl ?_
              exact hl427 (((5 + 1) + 1 : Int).toNat) 5 0 (-1000005) 0 (by omega) (by omega) (by show 0 + sumI _ 6 = _; rw [Int.zero_add]; rfl) (by show 0 + sumI _ 6 = _; rw [Int.zero_add]; rfl) (Or.inl ⟨rfl, fun j j0 j1 => by omega⟩) (by omega) (by omega) (by omega)
        refine j_sub (pc := 404) [1, 2, 3, 4, 5, 6, 0] rfl ?_
        exact hl404 (((4 - 0) + 1 : Int).toNat) 0 (by omega) (by omega) (by omega)
  refine j_sub (pc := 391) [4, 5, 3, 2, 1, 0] rfl ?_
  exact hl391 (((4 - 0) + 1 : Int).toNat) 0 0 0 0 M (by omega) (by omega) (hf) (CKeep.rfl' M) (rfl) (rfl) (rfl) (by omega) (by omega) (by omega) (by omega)

