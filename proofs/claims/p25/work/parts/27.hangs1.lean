/-! THE LAW: hangs, in three parts (the last first) -/
theorem sd0k {k : Int} (k0 : 0 ≤ k) (k1 : k < 4) : sdF 0 + k % 4 = k := by
  have e : sdF 0 = 0 := rfl
  omega
theorem sd1k {k : Int} (k0 : 4 ≤ k) (k1 : k < 8) : sdF 1 + k % 4 = k := by
  have e : sdF 1 = 4 := rfl
  omega
theorem err_0 {f : Int → Int} {k c : Int} (k0 : 0 ≤ k) (k1 : k < 4) : dst (tnI f (sdF 0 + k % 4) (c / 3 * 3 + c % 3)) (f (c / 3 * 6 + (c % 3 + 0))) = errF f k c := by
  unfold errF dueF
  rw [sd0k k0 k1, if_pos k1, (by omega : c / 3 * 3 + c % 3 = c), (by omega : c % 3 + 0 = 0 + c % 3)]
theorem err_1 {f : Int → Int} {k c : Int} (k0 : 4 ≤ k) (k1 : k < 8) : dst (tnI f (sdF 1 + k % 4) (c / 3 * 3 + c % 3)) (f (c / 3 * 6 + (c % 3 + 3))) = errF f k c := by
  unfold errF dueF
  rw [sd1k k0 k1, if_neg (by omega), (by omega : c / 3 * 3 + c % 3 = c), (by omega : c % 3 + 3 = 3 + c % 3)]
theorem worst2 {e : Int → Int} {k w g r : Int} (hk0 : 0 ≤ k) (hw : w = wstF e k.toNat) (hg0 : k = 0 → g = -1) (hg1 : 0 < k → g = e w) (hr : r = e k) (hr0 : 0 ≤ r) : (¬ r ≤ g → k = wstF e (k + 1).toNat ∧ r = e k) ∧ (r ≤ g → w = wstF e (k + 1).toNat ∧ g = e w) := by
  rw [wstF_s hk0, ← hw]
  by_cases h : k = 0
  · have hw0 : w = 0 := by rw [hw, h]; rfl
    subst h
    subst hw0
    have hg := hg0 rfl
    rw [if_neg (by omega)]
    exact ⟨fun _ => ⟨rfl, hr⟩, fun hle => by omega⟩
  · have hg := hg1 (by omega)
    refine ⟨fun hle => ⟨?_, hr⟩, fun hle => ⟨?_, hg⟩⟩
    · rw [if_pos (by omega)]
    · rw [if_neg (by omega)]
def paF (f : Int → Int) (j : Int) : Int := if j < 4 then pwF (f (196 + j)) else 0
theorem pa_15 {f : Int → Int} (hR : RgtOK 196 f) : sumI (paF f) 8 = 15 := by
  have h : sumI (fun k => pwF (f (196 + k))) 4 = 15 := perm_sum (r := fun j => f (196 + j)) hR
  have e : sumI (paF f) 4 = sumI (fun k => pwF (f (196 + k))) 4 := sumI_congr 4 (fun k k0 k1 => if_pos (by omega))
  have e4 : paF f 4 = 0 := if_neg (by omega)
  have e5 : paF f 5 = 0 := if_neg (by omega)
  have e6 : paF f 6 = 0 := if_neg (by omega)
  have e7 : paF f 7 = 0 := if_neg (by omega)
  show sumI (paF f) 4 + paF f 4 + paF f 5 + paF f 6 + paF f 7 = 15
  omega
/-- the first break, looked for from below -/
def FbD (f : Int → Int) (a b w fi : Int) : Prop := (fi = -1000005 ∧ ∀ j : Int, w < j → j < 6 → ¬ brkF f a b j) ∨ ((w < fi ∧ fi < 6) ∧ brkF f a b fi ∧ ∀ j : Int, w < j → j < fi → ¬ brkF f a b j)
theorem FbD.b {f : Int → Int} {a b w fi : Int} (h : FbD f a b w fi) (hw : -1 ≤ w) : -1000005 ≤ fi ∧ fi ≤ 5 := by
  rcases h with ⟨h, -⟩ | ⟨h, -⟩ <;> omega
theorem FbD.yes {f : Int → Int} {a b w : Int} (h5 : w ≤ 5) (hb : brkF f a b w) : FbD f a b (w + (-1)) w := Or.inr ⟨⟨by omega, by omega⟩, hb, fun j j0 j1 => by omega⟩
theorem FbD.no {f : Int → Int} {a b w fi : Int} (h : FbD f a b w fi) (hb : ¬ brkF f a b w) : FbD f a b (w + (-1)) fi := by
  rcases h with ⟨h, k⟩ | ⟨h, g, k⟩
  · exact Or.inl ⟨h, fun j j0 j1 => by
      by_cases c : j = w
      · rw [c]; exact hb
      · exact k j (by omega) j1⟩
  · exact Or.inr ⟨⟨by omega, h.2⟩, g, fun j j0 j1 => by
      by_cases c : j = w
      · rw [c]; exact hb
      · exact k j (by omega) j1⟩
theorem FbD.fin {f : Int → Int} {a b w fi : Int} (h : FbD f a b w fi) (hw : w = -1) : fi = fbrF f a b := by
  subst hw
  refine fbrF_eq ?_
  rcases h with ⟨h, k⟩ | ⟨h, g, k⟩
  · exact Or.inr ⟨h, fun j j0 j1 => k j (by omega) j1⟩
  · exact Or.inl ⟨⟨by omega, h.2⟩, g, fun j j0 j1 => k j (by omega) j1⟩
set_option maxHeartbeats 8000000 in
set_option maxRecDepth 100000 in
theorem h_C {G : GT} {X : Xb} (hX : CX (cS G) X cL_hangs RL ({ frames := 7, cells := 0, slots := 0, locals := 161 } : Room)) (hN : x_nL X = 16) {f : Int → Int} (ok : OkS f) (hc : CoinOK f 10000) (M : Mem) (hf : M 2 = f) (hret : ∀ (z : Int) (M' : Mem) (pc : Nat) (L : Lc), decode cL_hangs pc = .ok (.ireturn, 1) → (z = 1 ∧ CKeep M M') → J (cS G) X M' pc L [.int (zI z)]) : J (cS G) X M 784 [(0, .ref (g_q G 0)), (1, .int (zI 1))] [] := by
  have hG : SdOK (cS G) := hX.ok
  refine j_iconst (pc := 784) hX dL_hangs_784 ?_
  refine j_istore (pc := 785) (L' := [(8, .int (zI 0)), (0, .ref (g_q G 0)), (1, .int (zI 1))]) hX dL_hangs_785 hN (by decide) rfl ?_
  have hl787 : ∀ (n : Nat) (k : Int) (N : Mem), (0 ≤ k) → (k ≤ 4) → (N 2 = f) → (CKeep M N) → (4 - k) < (n : Int) → J (cS G) X N 787 [(0, .ref (g_q G 0)), (1, .int (zI 1)), (8, .int (zI k))] [] := by
    intro n
    induction n with
    | zero =>
      intro k N hk0 hk1 hf hk hm; exfalso; omega
    | succ n ih787 =>
      intro k N hk0 hk1 hf hk hm787
      refine j_iload (pc := 787) hX 2 dL_hangs_787 rfl ?_
      refine j_iconst (pc := 789) hX dL_hangs_789 ?_
      refine j_icmp_ge (pc := 790) (tgt := 945) hX ⟨by omega, by omega⟩ ⟨by decide, by decide⟩ dL_hangs_790 (by decide) (fun c790 => ?_) (fun c790 => ?_)
      · skip
        refine j_iload_n (pc := 945) hX 1 dL_hangs_945 rfl rfl ?_
        exact hret 1 N 946 _ dL_hangs_946 (⟨rfl, hk⟩)
      · skip
        refine j_iload_n (pc := 793) hX 1 dL_hangs_793 rfl rfl ?_
        refine j_if_eq (pc := 794) (tgt := 945) hX ⟨by decide, by decide⟩ dL_hangs_794 (by decide) (fun c794 => by exfalso; omega) (fun c794 => ?_)
        refine j_aload_n (pc := 797) hX 0 dL_hangs_797 rfl rfl ?_
        refine j_iload (pc := 798) hX 2 dL_hangs_798 rfl ?_
        refine j_iconst (pc := 800) hX dL_hangs_800 ?_
        refine j_callVI (pc := 801) (st := []) hX (u_rk0 (x_l X) hG N k 0 f (by first | assumption | omega) (by first | assumption | omega) (by first | assumption | omega) (by first | assumption | omega) (by first | assumption | omega)) cf_X5_ranked lk_L_69 ⟨rfl, rfl, Nat.le_of_ble_eq_true rfl, Nat.le_of_ble_eq_true rfl⟩ rfl (Nat.le_of_ble_eq_true rfl) 0 (cg_0 G N) rfl rfl dL_hangs_801 rfl (fun r801 M801 e801 => ?_)
        obtain ⟨e801, b801_1, b801_2, b801_3, b801_4⟩ := e801
        refine j_istore (pc := 804) (L' := [(9, .int (zI r801)), (0, .ref (g_q G 0)), (1, .int (zI 1)), (8, .int (zI k))]) hX dL_hangs_804 hN (by decide) rfl ?_
        refine j_aload_n (pc := 806) hX 1 dL_hangs_806 rfl rfl ?_
        refine j_iload (pc := 807) hX 3 dL_hangs_807 rfl ?_
        refine j_iconst (pc := 809) hX dL_hangs_809 ?_
        refine j_callVI (pc := 810) (st := []) hX (u_rk1 (x_l X) hG M801 k 1 f (by first | assumption | omega) (by first | assumption | omega) (by first | assumption | omega) (by first | assumption | omega) (by first | assumption | omega)) cf_X5_ranked lk_L_69 ⟨rfl, rfl, Nat.le_of_ble_eq_true rfl, Nat.le_of_ble_eq_true rfl⟩ rfl (Nat.le_of_ble_eq_true rfl) 0 (cg_0 G M801) rfl rfl dL_hangs_810 rfl (fun r810 M810 e810 => ?_)
        obtain ⟨e810, b810_1, b810_2, b810_3, b810_4⟩ := e810
        refine j_istore (pc := 813) (L' := [(10, .int (zI r810)), (9, .int (zI r801)), (0, .ref (g_q G 0)), (1, .int (zI 1)), (8, .int (zI k))]) hX dL_hangs_813 hN (by decide) rfl ?_
        refine j_iload (pc := 815) hX 0 dL_hangs_815 rfl ?_
        refine j_aload_n (pc := 817) hX 2 dL_hangs_817 rfl rfl ?_
        refine j_iload (pc := 818) hX 1 dL_hangs_818 rfl ?_
        refine j_aload_n (pc := 820) hX 2 dL_hangs_820 rfl rfl ?_
        refine j_iconst (pc := 821) hX dL_hangs_821 ?_
        refine j_iload (pc := 822) hX 1 dL_hangs_822 rfl ?_
        refine j_iconst (pc := 824) hX dL_hangs_824 ?_
        refine p_callVI (pc := 825) (st := [.int (zI r801), .ref (g_q G 0), .int (zI r810)]) hX (u_pt2 (x_l X) hG M810 0 r801 2 f (by first | assumption | omega) (by first | assumption | omega) (by first | assumption | omega) (by first | assumption | omega) (by first | assumption | omega) (by first | assumption | omega)) cf_X5_painter lk_L_55 ⟨rfl, rfl, Nat.le_of_ble_eq_true rfl, Nat.le_of_ble_eq_true rfl⟩ rfl (Nat.le_of_ble_eq_true rfl) 0 (cg_0 G M810) rfl rfl dL_hangs_825 rfl (fun r825 e825 => ?_)
        obtain ⟨e825, b825_1, b825_2⟩ := e825
        refine j_iconst (pc := 828) hX dL_hangs_828 ?_
        refine p_callVI (pc := 829) (st := [.int (zI r810)]) hX (u_f0 (x_l X) hG M810 r801 r825 0 f (by first | assumption | omega) (by first | assumption | omega) (by first | assumption | omega) (by first | assumption | omega) (by first | assumption | omega) (by first | assumption | omega) (by first | assumption | omega)) cf_X5_face lk_L_63 ⟨rfl, rfl, Nat.le_of_ble_eq_true rfl, Nat.le_of_ble_eq_true rfl⟩ rfl (Nat.le_of_ble_eq_true rfl) 0 (cg_0 G M810) rfl rfl dL_hangs_829 rfl (fun r829 e829 => ?_)
        obtain ⟨e829, b829_1, b829_2⟩ := e829
        have q829 : r829 = r810 := by rw [e829, e825, e810, (rkA_ok f hk0 (by omega)).2.1, ← e801]; rfl
        refine j_icmp_ne (pc := 832) (tgt := 937) hX ⟨by omega, by omega⟩ ⟨by omega, by omega⟩ dL_hangs_832 (by decide) (fun c832 => by exfalso; omega) (fun c832 => ?_)
        refine j_iload (pc := 835) hX 4 dL_hangs_835 rfl ?_
        refine j_if_eq (pc := 837) (tgt := 882) hX ⟨by omega, by omega⟩ dL_hangs_837 (by decide) (fun c837 => ?_) (fun c837 => ?_)
        · skip
          refine j_aload_n (pc := 882) hX 2 dL_hangs_882 rfl rfl ?_
          refine j_iload (pc := 883) hX 4 dL_hangs_883 rfl ?_
          refine j_iconst (pc := 885) hX dL_hangs_885 ?_
          refine j_callVI (pc := 886) (st := []) hX (u_rk2 (x_l X) hG M810 k 2 f (by first | assumption | omega) (by first | assumption | omega) (by first | assumption | omega) (by first | assumption | omega) (by first | assumption | omega)) cf_X5_ranked lk_L_69 ⟨rfl, rfl, Nat.le_of_ble_eq_true rfl, Nat.le_of_ble_eq_true rfl⟩ rfl (Nat.le_of_ble_eq_true rfl) 0 (cg_0 G M810) rfl rfl dL_hangs_886 rfl (fun r886 M886 e886 => ?_)
          obtain ⟨e886, b886_1, b886_2, b886_3, b886_4⟩ := e886
          refine j_iload (pc := 889) hX 0 dL_hangs_889 rfl ?_
          refine j_sipush (pc := 891) hX dL_hangs_891 (by decide) ?_
          refine j_icmp_lt (pc := 894) (tgt := 903) hX ⟨by omega, by omega⟩ ⟨by decide, by decide⟩ dL_hangs_894 (by decide) (fun c894 => ?_) (fun c894 => ?_)
          · skip
            refine j_iconst (pc := 903) hX dL_hangs_903 ?_
            refine j_goto (pc := 904) (tgt := 930) hX dL_hangs_904 (by decide) ?_
            have q886 : r886 = 0 := by first | (exfalso; omega) | (rw [e886]; unfold pzA przF; rw [← e810]; first | rw [if_pos (by omega)] | rw [if_neg (by omega), if_pos (by omega)] | rw [if_neg (by omega), if_neg (by omega), if_pos (by omega)] | rw [if_neg (by omega), if_neg (by omega), if_neg (by omega), if_pos (by omega)] | rw [if_neg (by omega), if_neg (by omega), if_neg (by omega), if_neg (by omega)])
            refine j_icmp_ne (pc := 930) (tgt := 937) hX ⟨by omega, by omega⟩ ⟨by decide, by decide⟩ dL_hangs_930 (by decide) (fun c930 => by exfalso; omega) (fun c930 => ?_)
            have q886k : CKeep M M886 := (((hk.trans b801_4).trans b810_4).trans b886_4)
            refine j_iconst (pc := 933) hX dL_hangs_933 ?_
            refine j_goto (pc := 934) (tgt := 938) hX dL_hangs_934 (by decide) ?_
            refine j_istore_n (pc := 938) (L' := [(1, .int (zI 1)), (10, .int (zI r810)), (9, .int (zI r801)), (0, .ref (g_q G 0)), (8, .int (zI k))]) hX dL_hangs_938 rfl hN (by decide) rfl ?_
            refine j_iinc (pc := 939) (z := k) (L' := [(8, .int (zI (k + 1))), (1, .int (zI 1)), (10, .int (zI r810)), (9, .int (zI r801)), (0, .ref (g_q G 0))]) hX 4 dL_hangs_939 rfl hN (by decide) rfl ?_
            refine j_goto (pc := 942) (tgt := 787) hX dL_hangs_942 (by decide) ?_
            refine j_sub (pc := 787) [4, 1, 0] rfl ?_
            exact ih787 (k + 1) M886 (by omega) (by omega) (b886_3) (q886k) (by omega)
          · skip
            refine j_iload (pc := 897) hX 4 dL_hangs_897 rfl ?_
            refine j_iconst (pc := 899) hX dL_hangs_899 ?_
            refine j_icmp_ne (pc := 900) (tgt := 907) hX ⟨by omega, by omega⟩ ⟨by decide, by decide⟩ dL_hangs_900 (by decide) (fun c900 => ?_) (fun c900 => ?_)
            · skip
              refine j_iload (pc := 907) hX 4 dL_hangs_907 rfl ?_
              refine j_if_ne (pc := 909) (tgt := 917) hX ⟨by omega, by omega⟩ dL_hangs_909 (by decide) (fun c909 => ?_) (fun c909 => ?_)
              · skip
                refine j_iload (pc := 917) hX 4 dL_hangs_917 rfl ?_
                refine j_iconst (pc := 919) hX dL_hangs_919 ?_
                refine j_icmp_ne (pc := 920) (tgt := 928) hX ⟨by omega, by omega⟩ ⟨by decide, by decide⟩ dL_hangs_920 (by decide) (fun c920 => ?_) (fun c920 => ?_)
                · skip
                  refine j_bipush (pc := 928) hX dL_hangs_928 (by decide) ?_
                  have q886 : r886 = 20 := by first | (exfalso; omega) | (rw [e886]; unfold pzA przF; rw [← e810]; first | rw [if_pos (by omega)] | rw [if_neg (by omega), if_pos (by omega)] | rw [if_neg (by omega), if_neg (by omega), if_pos (by omega)] | rw [if_neg (by omega), if_neg (by omega), if_neg (by omega), if_pos (by omega)] | rw [if_neg (by omega), if_neg (by omega), if_neg (by omega), if_neg (by omega)])
                  refine j_icmp_ne (pc := 930) (tgt := 937) hX ⟨by omega, by omega⟩ ⟨by decide, by decide⟩ dL_hangs_930 (by decide) (fun c930 => by exfalso; omega) (fun c930 => ?_)
                  have q886k : CKeep M M886 := (((hk.trans b801_4).trans b810_4).trans b886_4)
                  refine j_iconst (pc := 933) hX dL_hangs_933 ?_
                  refine j_goto (pc := 934) (tgt := 938) hX dL_hangs_934 (by decide) ?_
                  refine j_istore_n (pc := 938) (L' := [(1, .int (zI 1)), (10, .int (zI r810)), (9, .int (zI r801)), (0, .ref (g_q G 0)), (8, .int (zI k))]) hX dL_hangs_938 rfl hN (by decide) rfl ?_
                  refine j_iinc (pc := 939) (z := k) (L' := [(8, .int (zI (k + 1))), (1, .int (zI 1)), (10, .int (zI r810)), (9, .int (zI r801)), (0, .ref (g_q G 0))]) hX 4 dL_hangs_939 rfl hN (by decide) rfl ?_
                  refine j_goto (pc := 942) (tgt := 787) hX dL_hangs_942 (by decide) ?_
                  refine j_sub (pc := 787) [4, 1, 0] rfl ?_
                  exact ih787 (k + 1) M886 (by omega) (by omega) (b886_3) (q886k) (by omega)
                · skip
                  refine j_bipush (pc := 923) hX dL_hangs_923 (by decide) ?_
                  refine j_goto (pc := 925) (tgt := 930) hX dL_hangs_925 (by decide) ?_
                  have q886 : r886 = 50 := by first | (exfalso; omega) | (rw [e886]; unfold pzA przF; rw [← e810]; first | rw [if_pos (by omega)] | rw [if_neg (by omega), if_pos (by omega)] | rw [if_neg (by omega), if_neg (by omega), if_pos (by omega)] | rw [if_neg (by omega), if_neg (by omega), if_neg (by omega), if_pos (by omega)] | rw [if_neg (by omega), if_neg (by omega), if_neg (by omega), if_neg (by omega)])
                  refine j_icmp_ne (pc := 930) (tgt := 937) hX ⟨by omega, by omega⟩ ⟨by decide, by decide⟩ dL_hangs_930 (by decide) (fun c930 => by exfalso; omega) (fun c930 => ?_)
                  have q886k : CKeep M M886 := (((hk.trans b801_4).trans b810_4).trans b886_4)
                  refine j_iconst (pc := 933) hX dL_hangs_933 ?_
                  refine j_goto (pc := 934) (tgt := 938) hX dL_hangs_934 (by decide) ?_
                  refine j_istore_n (pc := 938) (L' := [(1, .int (zI 1)), (10, .int (zI r810)), (9, .int (zI r801)), (0, .ref (g_q G 0)), (8, .int (zI k))]) hX dL_hangs_938 rfl hN (by decide) rfl ?_
                  refine j_iinc (pc := 939) (z := k) (L' := [(8, .int (zI (k + 1))), (1, .int (zI 1)), (10, .int (zI r810)), (9, .int (zI r801)), (0, .ref (g_q G 0))]) hX 4 dL_hangs_939 rfl hN (by decide) rfl ?_
                  refine j_goto (pc := 942) (tgt := 787) hX dL_hangs_942 (by decide) ?_
                  refine j_sub (pc := 787) [4, 1, 0] rfl ?_
                  exact ih787 (k + 1) M886 (by omega) (by omega) (b886_3) (q886k) (by omega)
              · skip
                refine j_bipush (pc := 912) hX dL_hangs_912 (by decide) ?_
                refine j_goto (pc := 914) (tgt := 930) hX dL_hangs_914 (by decide) ?_
                have q886 : r886 = 100 := by first | (exfalso; omega) | (rw [e886]; unfold pzA przF; rw [← e810]; first | rw [if_pos (by omega)] | rw [if_neg (by omega), if_pos (by omega)] | rw [if_neg (by omega), if_neg (by omega), if_pos (by omega)] | rw [if_neg (by omega), if_neg (by omega), if_neg (by omega), if_pos (by omega)] | rw [if_neg (by omega), if_neg (by omega), if_neg (by omega), if_neg (by omega)])
                refine j_icmp_ne (pc := 930) (tgt := 937) hX ⟨by omega, by omega⟩ ⟨by decide, by decide⟩ dL_hangs_930 (by decide) (fun c930 => by exfalso; omega) (fun c930 => ?_)
                have q886k : CKeep M M886 := (((hk.trans b801_4).trans b810_4).trans b886_4)
                refine j_iconst (pc := 933) hX dL_hangs_933 ?_
                refine j_goto (pc := 934) (tgt := 938) hX dL_hangs_934 (by decide) ?_
                refine j_istore_n (pc := 938) (L' := [(1, .int (zI 1)), (10, .int (zI r810)), (9, .int (zI r801)), (0, .ref (g_q G 0)), (8, .int (zI k))]) hX dL_hangs_938 rfl hN (by decide) rfl ?_
                refine j_iinc (pc := 939) (z := k) (L' := [(8, .int (zI (k + 1))), (1, .int (zI 1)), (10, .int (zI r810)), (9, .int (zI r801)), (0, .ref (g_q G 0))]) hX 4 dL_hangs_939 rfl hN (by decide) rfl ?_
                refine j_goto (pc := 942) (tgt := 787) hX dL_hangs_942 (by decide) ?_
                refine j_sub (pc := 787) [4, 1, 0] rfl ?_
                exact ih787 (k + 1) M886 (by omega) (by omega) (b886_3) (q886k) (by omega)
            · skip
              refine j_iconst (pc := 903) hX dL_hangs_903 ?_
              refine j_goto (pc := 904) (tgt := 930) hX dL_hangs_904 (by decide) ?_
              have q886 : r886 = 0 := by first | (exfalso; omega) | (rw [e886]; unfold pzA przF; rw [← e810]; first | rw [if_pos (by omega)] | rw [if_neg (by omega), if_pos (by omega)] | rw [if_neg (by omega), if_neg (by omega), if_pos (by omega)] | rw [if_neg (by omega), if_neg (by omega), if_neg (by omega), if_pos (by omega)] | rw [if_neg (by omega), if_neg (by omega), if_neg (by omega), if_neg (by omega)])
              refine j_icmp_ne (pc := 930) (tgt := 937) hX ⟨by omega, by omega⟩ ⟨by decide, by decide⟩ dL_hangs_930 (by decide) (fun c930 => by exfalso; omega) (fun c930 => ?_)
              have q886k : CKeep M M886 := (((hk.trans b801_4).trans b810_4).trans b886_4)
              refine j_iconst (pc := 933) hX dL_hangs_933 ?_
              refine j_goto (pc := 934) (tgt := 938) hX dL_hangs_934 (by decide) ?_
              refine j_istore_n (pc := 938) (L' := [(1, .int (zI 1)), (10, .int (zI r810)), (9, .int (zI r801)), (0, .ref (g_q G 0)), (8, .int (zI k))]) hX dL_hangs_938 rfl hN (by decide) rfl ?_
              refine j_iinc (pc := 939) (z := k) (L' := [(8, .int (zI (k + 1))), (1, .int (zI 1)), (10, .int (zI r810)), (9, .int (zI r801)), (0, .ref (g_q G 0))]) hX 4 dL_hangs_939 rfl hN (by decide) rfl ?_
              refine j_goto (pc := 942) (tgt := 787) hX dL_hangs_942 (by decide) ?_
              refine j_sub (pc := 787) [4, 1, 0] rfl ?_
              exact ih787 (k + 1) M886 (by omega) (by omega) (b886_3) (q886k) (by omega)
        · skip
          refine j_iload (pc := 840) hX 0 dL_hangs_840 rfl ?_
          refine j_aload_n (pc := 842) hX 2 dL_hangs_842 rfl rfl ?_
          refine j_iload (pc := 843) hX 4 dL_hangs_843 rfl ?_
          refine j_iconst (pc := 845) hX dL_hangs_845 ?_
          refine j_isub (pc := 846) hX dL_hangs_846 ?_
          refine j_iconst (pc := 847) hX dL_hangs_847 ?_
          refine j_callVI (pc := 848) (st := [.int (zI r810)]) hX (u_rk1 (x_l X) hG M810 (k - 1) 1 f (by first | assumption | omega) (by first | assumption | omega) (by first | assumption | omega) (by first | assumption | omega) (by first | assumption | omega)) cf_X5_ranked lk_L_69 ⟨rfl, rfl, Nat.le_of_ble_eq_true rfl, Nat.le_of_ble_eq_true rfl⟩ rfl (Nat.le_of_ble_eq_true rfl) 0 (cg_0 G M810) rfl rfl dL_hangs_848 rfl (fun r848 M848 e848 => ?_)
          obtain ⟨e848, b848_1, b848_2, b848_3, b848_4⟩ := e848
          have qs : r810 < r848 ∨ (r810 = r848 ∧ (rkA f).1 (k - 1) < r801) := by rw [e810, e848, e801]; exact (rkA_ok f hk0 (by omega)).2.2 (by omega)
          refine j_icmp_lt (pc := 851) (tgt := 882) hX ⟨by omega, by omega⟩ ⟨by omega, by omega⟩ dL_hangs_851 (by decide) (fun c851 => ?_) (fun c851 => ?_)
          · skip
            refine j_aload_n (pc := 882) hX 2 dL_hangs_882 rfl rfl ?_
            refine j_iload (pc := 883) hX 4 dL_hangs_883 rfl ?_
            refine j_iconst (pc := 885) hX dL_hangs_885 ?_
            refine j_callVI (pc := 886) (st := []) hX (u_rk2 (x_l X) hG M848 k 2 f (by first | assumption | omega) (by first | assumption | omega) (by first | assumption | omega) (by first | assumption | omega) (by first | assumption | omega)) cf_X5_ranked lk_L_69 ⟨rfl, rfl, Nat.le_of_ble_eq_true rfl, Nat.le_of_ble_eq_true rfl⟩ rfl (Nat.le_of_ble_eq_true rfl) 0 (cg_0 G M848) rfl rfl dL_hangs_886 rfl (fun r886 M886 e886 => ?_)
            obtain ⟨e886, b886_1, b886_2, b886_3, b886_4⟩ := e886
            refine j_iload (pc := 889) hX 0 dL_hangs_889 rfl ?_
            refine j_sipush (pc := 891) hX dL_hangs_891 (by decide) ?_
            refine j_icmp_lt (pc := 894) (tgt := 903) hX ⟨by omega, by omega⟩ ⟨by decide, by decide⟩ dL_hangs_894 (by decide) (fun c894 => ?_) (fun c894 => ?_)
            · skip
              refine j_iconst (pc := 903) hX dL_hangs_903 ?_
              refine j_goto (pc := 904) (tgt := 930) hX dL_hangs_904 (by decide) ?_
              have q886 : r886 = 0 := by first | (exfalso; omega) | (rw [e886]; unfold pzA przF; rw [← e810]; first | rw [if_pos (by omega)] | rw [if_neg (by omega), if_pos (by omega)] | rw [if_neg (by omega), if_neg (by omega), if_pos (by omega)] | rw [if_neg (by omega), if_neg (by omega), if_neg (by omega), if_pos (by omega)] | rw [if_neg (by omega), if_neg (by omega), if_neg (by omega), if_neg (by omega)])
              refine j_icmp_ne (pc := 930) (tgt := 937) hX ⟨by omega, by omega⟩ ⟨by decide, by decide⟩ dL_hangs_930 (by decide) (fun c930 => by exfalso; omega) (fun c930 => ?_)
              have q886k : CKeep M M886 := ((((hk.trans b801_4).trans b810_4).trans b848_4).trans b886_4)
              refine j_iconst (pc := 933) hX dL_hangs_933 ?_
              refine j_goto (pc := 934) (tgt := 938) hX dL_hangs_934 (by decide) ?_
              refine j_istore_n (pc := 938) (L' := [(1, .int (zI 1)), (10, .int (zI r810)), (9, .int (zI r801)), (0, .ref (g_q G 0)), (8, .int (zI k))]) hX dL_hangs_938 rfl hN (by decide) rfl ?_
              refine j_iinc (pc := 939) (z := k) (L' := [(8, .int (zI (k + 1))), (1, .int (zI 1)), (10, .int (zI r810)), (9, .int (zI r801)), (0, .ref (g_q G 0))]) hX 4 dL_hangs_939 rfl hN (by decide) rfl ?_
              refine j_goto (pc := 942) (tgt := 787) hX dL_hangs_942 (by decide) ?_
              refine j_sub (pc := 787) [4, 1, 0] rfl ?_
              exact ih787 (k + 1) M886 (by omega) (by omega) (b886_3) (q886k) (by omega)
            · skip
              refine j_iload (pc := 897) hX 4 dL_hangs_897 rfl ?_
              refine j_iconst (pc := 899) hX dL_hangs_899 ?_
              refine j_icmp_ne (pc := 900) (tgt := 907) hX ⟨by omega, by omega⟩ ⟨by decide, by decide⟩ dL_hangs_900 (by decide) (fun c900 => ?_) (fun c900 => ?_)
              · skip
                refine j_iload (pc := 907) hX 4 dL_hangs_907 rfl ?_
                refine j_if_ne (pc := 909) (tgt := 917) hX ⟨by omega, by omega⟩ dL_hangs_909 (by decide) (fun c909 => ?_) (fun c909 => ?_)
                · skip
                  refine j_iload (pc := 917) hX 4 dL_hangs_917 rfl ?_
                  refine j_iconst (pc := 919) hX dL_hangs_919 ?_
                  refine j_icmp_ne (pc := 920) (tgt := 928) hX ⟨by omega, by omega⟩ ⟨by decide, by decide⟩ dL_hangs_920 (by decide) (fun c920 => ?_) (fun c920 => ?_)
                  · skip
                    refine j_bipush (pc := 928) hX dL_hangs_928 (by decide) ?_
                    have q886 : r886 = 20 := by first | (exfalso; omega) | (rw [e886]; unfold pzA przF; rw [← e810]; first | rw [if_pos (by omega)] | rw [if_neg (by omega), if_pos (by omega)] | rw [if_neg (by omega), if_neg (by omega), if_pos (by omega)] | rw [if_neg (by omega), if_neg (by omega), if_neg (by omega), if_pos (by omega)] | rw [if_neg (by omega), if_neg (by omega), if_neg (by omega), if_neg (by omega)])
                    refine j_icmp_ne (pc := 930) (tgt := 937) hX ⟨by omega, by omega⟩ ⟨by decide, by decide⟩ dL_hangs_930 (by decide) (fun c930 => by exfalso; omega) (fun c930 => ?_)
                    have q886k : CKeep M M886 := ((((hk.trans b801_4).trans b810_4).trans b848_4).trans b886_4)
                    refine j_iconst (pc := 933) hX dL_hangs_933 ?_
                    refine j_goto (pc := 934) (tgt := 938) hX dL_hangs_934 (by decide) ?_
                    refine j_istore_n (pc := 938) (L' := [(1, .int (zI 1)), (10, .int (zI r810)), (9, .int (zI r801)), (0, .ref (g_q G 0)), (8, .int (zI k))]) hX dL_hangs_938 rfl hN (by decide) rfl ?_
                    refine j_iinc (pc := 939) (z := k) (L' := [(8, .int (zI (k + 1))), (1, .int (zI 1)), (10, .int (zI r810)), (9, .int (zI r801)), (0, .ref (g_q G 0))]) hX 4 dL_hangs_939 rfl hN (by decide) rfl ?_
                    refine j_goto (pc := 942) (tgt := 787) hX dL_hangs_942 (by decide) ?_
                    refine j_sub (pc := 787) [4, 1, 0] rfl ?_
                    exact ih787 (k + 1) M886 (by omega) (by omega) (b886_3) (q886k) (by omega)
                  · skip
                    refine j_bipush (pc := 923) hX dL_hangs_923 (by decide) ?_
                    refine j_goto (pc := 925) (tgt := 930) hX dL_hangs_925 (by decide) ?_
                    have q886 : r886 = 50 := by first | (exfalso; omega) | (rw [e886]; unfold pzA przF; rw [← e810]; first | rw [if_pos (by omega)] | rw [if_neg (by omega), if_pos (by omega)] | rw [if_neg (by omega), if_neg (by omega), if_pos (by omega)] | rw [if_neg (by omega), if_neg (by omega), if_neg (by omega), if_pos (by omega)] | rw [if_neg (by omega), if_neg (by omega), if_neg (by omega), if_neg (by omega)])
                    refine j_icmp_ne (pc := 930) (tgt := 937) hX ⟨by omega, by omega⟩ ⟨by decide, by decide⟩ dL_hangs_930 (by decide) (fun c930 => by exfalso; omega) (fun c930 => ?_)
                    have q886k : CKeep M M886 := ((((hk.trans b801_4).trans b810_4).trans b848_4).trans b886_4)
                    refine j_iconst (pc := 933) hX dL_hangs_933 ?_
                    refine j_goto (pc := 934) (tgt := 938) hX dL_hangs_934 (by decide) ?_
                    refine j_istore_n (pc := 938) (L' := [(1, .int (zI 1)), (10, .int (zI r810)), (9, .int (zI r801)), (0, .ref (g_q G 0)), (8, .int (zI k))]) hX dL_hangs_938 rfl hN (by decide) rfl ?_
                    refine j_iinc (pc := 939) (z := k) (L' := [(8, .int (zI (k + 1))), (1, .int (zI 1)), (10, .int (zI r810)), (9, .int (zI r801)), (0, .ref (g_q G 0))]) hX 4 dL_hangs_939 rfl hN (by decide) rfl ?_
                    refine j_goto (pc := 942) (tgt := 787) hX dL_hangs_942 (by decide) ?_
                    refine j_sub (pc := 787) [4, 1, 0] rfl ?_
                    exact ih787 (k + 1) M886 (by omega) (by omega) (b886_3) (q886k) (by omega)
                · skip
                  refine j_bipush (pc := 912) hX dL_hangs_912 (by decide) ?_
                  refine j_goto (pc := 914) (tgt := 930) hX dL_hangs_914 (by decide) ?_
                  have q886 : r886 = 100 := by first | (exfalso; omega) | (rw [e886]; unfold pzA przF; rw [← e810]; first | rw [if_pos (by omega)] | rw [if_neg (by omega), if_pos (by omega)] | rw [if_neg (by omega), if_neg (by omega), if_pos (by omega)] | rw [if_neg (by omega), if_neg (by omega), if_neg (by omega), if_pos (by omega)] | rw [if_neg (by omega), if_neg (by omega), if_neg (by omega), if_neg (by omega)])
                  refine j_icmp_ne (pc := 930) (tgt := 937) hX ⟨by omega, by omega⟩ ⟨by decide, by decide⟩ dL_hangs_930 (by decide) (fun c930 => by exfalso; omega) (fun c930 => ?_)
                  have q886k : CKeep M M886 := ((((hk.trans b801_4).trans b810_4).trans b848_4).trans b886_4)
                  refine j_iconst (pc := 933) hX dL_hangs_933 ?_
                  refine j_goto (pc := 934) (tgt := 938) hX dL_hangs_934 (by decide) ?_
                  refine j_istore_n (pc := 938) (L' := [(1, .int (zI 1)), (10, .int (zI r810)), (9, .int (zI r801)), (0, .ref (g_q G 0)), (8, .int (zI k))]) hX dL_hangs_938 rfl hN (by decide) rfl ?_
                  refine j_iinc (pc := 939) (z := k) (L' := [(8, .int (zI (k + 1))), (1, .int (zI 1)), (10, .int (zI r810)), (9, .int (zI r801)), (0, .ref (g_q G 0))]) hX 4 dL_hangs_939 rfl hN (by decide) rfl ?_
                  refine j_goto (pc := 942) (tgt := 787) hX dL_hangs_942 (by decide) ?_
                  refine j_sub (pc := 787) [4, 1, 0] rfl ?_
                  exact ih787 (k + 1) M886 (by omega) (by omega) (b886_3) (q886k) (by omega)
              · skip
                refine j_iconst (pc := 903) hX dL_hangs_903 ?_
                refine j_goto (pc := 904) (tgt := 930) hX dL_hangs_904 (by decide) ?_
                have q886 : r886 = 0 := by first | (exfalso; omega) | (rw [e886]; unfold pzA przF; rw [← e810]; first | rw [if_pos (by omega)] | rw [if_neg (by omega), if_pos (by omega)] | rw [if_neg (by omega), if_neg (by omega), if_pos (by omega)] | rw [if_neg (by omega), if_neg (by omega), if_neg (by omega), if_pos (by omega)] | rw [if_neg (by omega), if_neg (by omega), if_neg (by omega), if_neg (by omega)])
                refine j_icmp_ne (pc := 930) (tgt := 937) hX ⟨by omega, by omega⟩ ⟨by decide, by decide⟩ dL_hangs_930 (by decide) (fun c930 => by exfalso; omega) (fun c930 => ?_)
                have q886k : CKeep M M886 := ((((hk.trans b801_4).trans b810_4).trans b848_4).trans b886_4)
                refine j_iconst (pc := 933) hX dL_hangs_933 ?_
                refine j_goto (pc := 934) (tgt := 938) hX dL_hangs_934 (by decide) ?_
                refine j_istore_n (pc := 938) (L' := [(1, .int (zI 1)), (10, .int (zI r810)), (9, .int (zI r801)), (0, .ref (g_q G 0)), (8, .int (zI k))]) hX dL_hangs_938 rfl hN (by decide) rfl ?_
                refine j_iinc (pc := 939) (z := k) (L' := [(8, .int (zI (k + 1))), (1, .int (zI 1)), (10, .int (zI r810)), (9, .int (zI r801)), (0, .ref (g_q G 0))]) hX 4 dL_hangs_939 rfl hN (by decide) rfl ?_
                refine j_goto (pc := 942) (tgt := 787) hX dL_hangs_942 (by decide) ?_
                refine j_sub (pc := 787) [4, 1, 0] rfl ?_
                exact ih787 (k + 1) M886 (by omega) (by omega) (b886_3) (q886k) (by omega)
          · skip
            refine j_iload (pc := 854) hX 0 dL_hangs_854 rfl ?_
            refine j_aload_n (pc := 856) hX 2 dL_hangs_856 rfl rfl ?_
            refine j_iload (pc := 857) hX 4 dL_hangs_857 rfl ?_
            refine j_iconst (pc := 859) hX dL_hangs_859 ?_
            refine j_isub (pc := 860) hX dL_hangs_860 ?_
            refine j_iconst (pc := 861) hX dL_hangs_861 ?_
            refine j_callVI (pc := 862) (st := [.int (zI r810)]) hX (u_rk1 (x_l X) hG M848 (k - 1) 1 f (by first | assumption | omega) (by first | assumption | omega) (by first | assumption | omega) (by first | assumption | omega) (by first | assumption | omega)) cf_X5_ranked lk_L_69 ⟨rfl, rfl, Nat.le_of_ble_eq_true rfl, Nat.le_of_ble_eq_true rfl⟩ rfl (Nat.le_of_ble_eq_true rfl) 0 (cg_0 G M848) rfl rfl dL_hangs_862 rfl (fun r862 M862 e862 => ?_)
            obtain ⟨e862, b862_1, b862_2, b862_3, b862_4⟩ := e862
            have q862 : r862 = r848 := by rw [e862, e848]
            refine j_icmp_ne (pc := 865) (tgt := 937) hX ⟨by omega, by omega⟩ ⟨by omega, by omega⟩ dL_hangs_865 (by decide) (fun c865 => by exfalso; omega) (fun c865 => ?_)
            refine j_iload (pc := 868) hX 1 dL_hangs_868 rfl ?_
            refine j_aload_n (pc := 870) hX 2 dL_hangs_870 rfl rfl ?_
            refine j_iload (pc := 871) hX 4 dL_hangs_871 rfl ?_
            refine j_iconst (pc := 873) hX dL_hangs_873 ?_
            refine j_isub (pc := 874) hX dL_hangs_874 ?_
            refine j_iconst (pc := 875) hX dL_hangs_875 ?_
            refine j_callVI (pc := 876) (st := [.int (zI r801)]) hX (u_rk0 (x_l X) hG M862 (k - 1) 0 f (by first | assumption | omega) (by first | assumption | omega) (by first | assumption | omega) (by first | assumption | omega) (by first | assumption | omega)) cf_X5_ranked lk_L_69 ⟨rfl, rfl, Nat.le_of_ble_eq_true rfl, Nat.le_of_ble_eq_true rfl⟩ rfl (Nat.le_of_ble_eq_true rfl) 0 (cg_0 G M862) rfl rfl dL_hangs_876 rfl (fun r876 M876 e876 => ?_)
            obtain ⟨e876, b876_1, b876_2, b876_3, b876_4⟩ := e876
            rw [← e876] at qs
            refine j_icmp_le (pc := 879) (tgt := 937) hX ⟨by omega, by omega⟩ ⟨by omega, by omega⟩ dL_hangs_879 (by decide) (fun c879 => by exfalso; omega) (fun c879 => ?_)
            refine j_aload_n (pc := 882) hX 2 dL_hangs_882 rfl rfl ?_
            refine j_iload (pc := 883) hX 4 dL_hangs_883 rfl ?_
            refine j_iconst (pc := 885) hX dL_hangs_885 ?_
            refine j_callVI (pc := 886) (st := []) hX (u_rk2 (x_l X) hG M876 k 2 f (by first | assumption | omega) (by first | assumption | omega) (by first | assumption | omega) (by first | assumption | omega) (by first | assumption | omega)) cf_X5_ranked lk_L_69 ⟨rfl, rfl, Nat.le_of_ble_eq_true rfl, Nat.le_of_ble_eq_true rfl⟩ rfl (Nat.le_of_ble_eq_true rfl) 0 (cg_0 G M876) rfl rfl dL_hangs_886 rfl (fun r886 M886 e886 => ?_)
            obtain ⟨e886, b886_1, b886_2, b886_3, b886_4⟩ := e886
            refine j_iload (pc := 889) hX 0 dL_hangs_889 rfl ?_
            refine j_sipush (pc := 891) hX dL_hangs_891 (by decide) ?_
            refine j_icmp_lt (pc := 894) (tgt := 903) hX ⟨by omega, by omega⟩ ⟨by decide, by decide⟩ dL_hangs_894 (by decide) (fun c894 => ?_) (fun c894 => ?_)
            · skip
              refine j_iconst (pc := 903) hX dL_hangs_903 ?_
              refine j_goto (pc := 904) (tgt := 930) hX dL_hangs_904 (by decide) ?_
              have q886 : r886 = 0 := by first | (exfalso; omega) | (rw [e886]; unfold pzA przF; rw [← e810]; first | rw [if_pos (by omega)] | rw [if_neg (by omega), if_pos (by omega)] | rw [if_neg (by omega), if_neg (by omega), if_pos (by omega)] | rw [if_neg (by omega), if_neg (by omega), if_neg (by omega), if_pos (by omega)] | rw [if_neg (by omega), if_neg (by omega), if_neg (by omega), if_neg (by omega)])
              refine j_icmp_ne (pc := 930) (tgt := 937) hX ⟨by omega, by omega⟩ ⟨by decide, by decide⟩ dL_hangs_930 (by decide) (fun c930 => by exfalso; omega) (fun c930 => ?_)
              have q886k : CKeep M M886 := ((((((hk.trans b801_4).trans b810_4).trans b848_4).trans b862_4).trans b876_4).trans b886_4)
              refine j_iconst (pc := 933) hX dL_hangs_933 ?_
              refine j_goto (pc := 934) (tgt := 938) hX dL_hangs_934 (by decide) ?_
              refine j_istore_n (pc := 938) (L' := [(1, .int (zI 1)), (10, .int (zI r810)), (9, .int (zI r801)), (0, .ref (g_q G 0)), (8, .int (zI k))]) hX dL_hangs_938 rfl hN (by decide) rfl ?_
              refine j_iinc (pc := 939) (z := k) (L' := [(8, .int (zI (k + 1))), (1, .int (zI 1)), (10, .int (zI r810)), (9, .int (zI r801)), (0, .ref (g_q G 0))]) hX 4 dL_hangs_939 rfl hN (by decide) rfl ?_
              refine j_goto (pc := 942) (tgt := 787) hX dL_hangs_942 (by decide) ?_
              refine j_sub (pc := 787) [4, 1, 0] rfl ?_
              exact ih787 (k + 1) M886 (by omega) (by omega) (b886_3) (q886k) (by omega)
            · skip
              refine j_iload (pc := 897) hX 4 dL_hangs_897 rfl ?_
              refine j_iconst (pc := 899) hX dL_hangs_899 ?_
              refine j_icmp_ne (pc := 900) (tgt := 907) hX ⟨by omega, by omega⟩ ⟨by decide, by decide⟩ dL_hangs_900 (by decide) (fun c900 => ?_) (fun c900 => ?_)
              · skip
                refine j_iload (pc := 907) hX 4 dL_hangs_907 rfl ?_
                refine j_if_ne (pc := 909) (tgt := 917) hX ⟨by omega, by omega⟩ dL_hangs_909 (by decide) (fun c909 => ?_) (fun c909 => ?_)
                · skip
                  refine j_iload (pc := 917) hX 4 dL_hangs_917 rfl ?_
                  refine j_iconst (pc := 919) hX dL_hangs_919 ?_
                  refine j_icmp_ne (pc := 920) (tgt := 928) hX ⟨by omega, by omega⟩ ⟨by decide, by decide⟩ dL_hangs_920 (by decide) (fun c920 => ?_) (fun c920 => ?_)
                  · skip
                    refine j_bipush (pc := 928) hX dL_hangs_928 (by decide) ?_
                    have q886 : r886 = 20 := by first | (exfalso; omega) | (rw [e886]; unfold pzA przF; rw [← e810]; first | rw [if_pos (by omega)] | rw [if_neg (by omega), if_pos (by omega)] | rw [if_neg (by omega), if_neg (by omega), if_pos (by omega)] | rw [if_neg (by omega), if_neg (by omega), if_neg (by omega), if_pos (by omega)] | rw [if_neg (by omega), if_neg (by omega), if_neg (by omega), if_neg (by omega)])
                    refine j_icmp_ne (pc := 930) (tgt := 937) hX ⟨by omega, by omega⟩ ⟨by decide, by decide⟩ dL_hangs_930 (by decide) (fun c930 => by exfalso; omega) (fun c930 => ?_)
                    have q886k : CKeep M M886 := ((((((hk.trans b801_4).trans b810_4).trans b848_4).trans b862_4).trans b876_4).trans b886_4)
                    refine j_iconst (pc := 933) hX dL_hangs_933 ?_
                    refine j_goto (pc := 934) (tgt := 938) hX dL_hangs_934 (by decide) ?_
                    refine j_istore_n (pc := 938) (L' := [(1, .int (zI 1)), (10, .int (zI r810)), (9, .int (zI r801)), (0, .ref (g_q G 0)), (8, .int (zI k))]) hX dL_hangs_938 rfl hN (by decide) rfl ?_
                    refine j_iinc (pc := 939) (z := k) (L' := [(8, .int (zI (k + 1))), (1, .int (zI 1)), (10, .int (zI r810)), (9, .int (zI r801)), (0, .ref (g_q G 0))]) hX 4 dL_hangs_939 rfl hN (by decide) rfl ?_
                    refine j_goto (pc := 942) (tgt := 787) hX dL_hangs_942 (by decide) ?_
                    refine j_sub (pc := 787) [4, 1, 0] rfl ?_
                    exact ih787 (k + 1) M886 (by omega) (by omega) (b886_3) (q886k) (by omega)
                  · skip
                    refine j_bipush (pc := 923) hX dL_hangs_923 (by decide) ?_
                    refine j_goto (pc := 925) (tgt := 930) hX dL_hangs_925 (by decide) ?_
                    have q886 : r886 = 50 := by first | (exfalso; omega) | (rw [e886]; unfold pzA przF; rw [← e810]; first | rw [if_pos (by omega)] | rw [if_neg (by omega), if_pos (by omega)] | rw [if_neg (by omega), if_neg (by omega), if_pos (by omega)] | rw [if_neg (by omega), if_neg (by omega), if_neg (by omega), if_pos (by omega)] | rw [if_neg (by omega), if_neg (by omega), if_neg (by omega), if_neg (by omega)])
                    refine j_icmp_ne (pc := 930) (tgt := 937) hX ⟨by omega, by omega⟩ ⟨by decide, by decide⟩ dL_hangs_930 (by decide) (fun c930 => by exfalso; omega) (fun c930 => ?_)
                    have q886k : CKeep M M886 := ((((((hk.trans b801_4).trans b810_4).trans b848_4).trans b862_4).trans b876_4).trans b886_4)
                    refine j_iconst (pc := 933) hX dL_hangs_933 ?_
                    refine j_goto (pc := 934) (tgt := 938) hX dL_hangs_934 (by decide) ?_
                    refine j_istore_n (pc := 938) (L' := [(1, .int (zI 1)), (10, .int (zI r810)), (9, .int (zI r801)), (0, .ref (g_q G 0)), (8, .int (zI k))]) hX dL_hangs_938 rfl hN (by decide) rfl ?_
                    refine j_iinc (pc := 939) (z := k) (L' := [(8, .int (zI (k + 1))), (1, .int (zI 1)), (10, .int (zI r810)), (9, .int (zI r801)), (0, .ref (g_q G 0))]) hX 4 dL_hangs_939 rfl hN (by decide) rfl ?_
                    refine j_goto (pc := 942) (tgt := 787) hX dL_hangs_942 (by decide) ?_
                    refine j_sub (pc := 787) [4, 1, 0] rfl ?_
                    exact ih787 (k + 1) M886 (by omega) (by omega) (b886_3) (q886k) (by omega)
                · skip
                  refine j_bipush (pc := 912) hX dL_hangs_912 (by decide) ?_
                  refine j_goto (pc := 914) (tgt := 930) hX dL_hangs_914 (by decide) ?_
                  have q886 : r886 = 100 := by first | (exfalso; omega) | (rw [e886]; unfold pzA przF; rw [← e810]; first | rw [if_pos (by omega)] | rw [if_neg (by omega), if_pos (by omega)] | rw [if_neg (by omega), if_neg (by omega), if_pos (by omega)] | rw [if_neg (by omega), if_neg (by omega), if_neg (by omega), if_pos (by omega)] | rw [if_neg (by omega), if_neg (by omega), if_neg (by omega), if_neg (by omega)])
                  refine j_icmp_ne (pc := 930) (tgt := 937) hX ⟨by omega, by omega⟩ ⟨by decide, by decide⟩ dL_hangs_930 (by decide) (fun c930 => by exfalso; omega) (fun c930 => ?_)
                  have q886k : CKeep M M886 := ((((((hk.trans b801_4).trans b810_4).trans b848_4).trans b862_4).trans b876_4).trans b886_4)
                  refine j_iconst (pc := 933) hX dL_hangs_933 ?_
                  refine j_goto (pc := 934) (tgt := 938) hX dL_hangs_934 (by decide) ?_
                  refine j_istore_n (pc := 938) (L' := [(1, .int (zI 1)), (10, .int (zI r810)), (9, .int (zI r801)), (0, .ref (g_q G 0)), (8, .int (zI k))]) hX dL_hangs_938 rfl hN (by decide) rfl ?_
                  refine j_iinc (pc := 939) (z := k) (L' := [(8, .int (zI (k + 1))), (1, .int (zI 1)), (10, .int (zI r810)), (9, .int (zI r801)), (0, .ref (g_q G 0))]) hX 4 dL_hangs_939 rfl hN (by decide) rfl ?_
                  refine j_goto (pc := 942) (tgt := 787) hX dL_hangs_942 (by decide) ?_
                  refine j_sub (pc := 787) [4, 1, 0] rfl ?_
                  exact ih787 (k + 1) M886 (by omega) (by omega) (b886_3) (q886k) (by omega)
              · skip
                refine j_iconst (pc := 903) hX dL_hangs_903 ?_
                refine j_goto (pc := 904) (tgt := 930) hX dL_hangs_904 (by decide) ?_
                have q886 : r886 = 0 := by first | (exfalso; omega) | (rw [e886]; unfold pzA przF; rw [← e810]; first | rw [if_pos (by omega)] | rw [if_neg (by omega), if_pos (by omega)] | rw [if_neg (by omega), if_neg (by omega), if_pos (by omega)] | rw [if_neg (by omega), if_neg (by omega), if_neg (by omega), if_pos (by omega)] | rw [if_neg (by omega), if_neg (by omega), if_neg (by omega), if_neg (by omega)])
                refine j_icmp_ne (pc := 930) (tgt := 937) hX ⟨by omega, by omega⟩ ⟨by decide, by decide⟩ dL_hangs_930 (by decide) (fun c930 => by exfalso; omega) (fun c930 => ?_)
                have q886k : CKeep M M886 := ((((((hk.trans b801_4).trans b810_4).trans b848_4).trans b862_4).trans b876_4).trans b886_4)
                refine j_iconst (pc := 933) hX dL_hangs_933 ?_
                refine j_goto (pc := 934) (tgt := 938) hX dL_hangs_934 (by decide) ?_
                refine j_istore_n (pc := 938) (L' := [(1, .int (zI 1)), (10, .int (zI r810)), (9, .int (zI r801)), (0, .ref (g_q G 0)), (8, .int (zI k))]) hX dL_hangs_938 rfl hN (by decide) rfl ?_
                refine j_iinc (pc := 939) (z := k) (L' := [(8, .int (zI (k + 1))), (1, .int (zI 1)), (10, .int (zI r810)), (9, .int (zI r801)), (0, .ref (g_q G 0))]) hX 4 dL_hangs_939 rfl hN (by decide) rfl ?_
                refine j_goto (pc := 942) (tgt := 787) hX dL_hangs_942 (by decide) ?_
                refine j_sub (pc := 787) [4, 1, 0] rfl ?_
                exact ih787 (k + 1) M886 (by omega) (by omega) (b886_3) (q886k) (by omega)
  refine j_sub (pc := 787) [1, 2, 0] rfl ?_
  exact hl787 (((4 - 0) + 1 : Int).toNat) 0 M (by omega) (by omega) (hf) (CKeep.rfl' M) (by omega)

