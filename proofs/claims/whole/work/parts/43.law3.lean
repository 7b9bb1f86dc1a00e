
section Z43

theorem gtst0 {L : Nat} (hL : L ≤ 3072) : (Int32.ofNat L - 6).toInt = (L : Int) - 6 := by
  rw [Int32.toInt_sub, Int32.toInt_ofNat_of_lt (by omega)]
  have e6 : (6 : Int32).toInt = 6 := rfl
  rw [e6, Int.bmod_def]
  split <;> omega
theorem gtst {L j : Nat} (hL : L ≤ 3072) (h6 : 6 * j ≤ L) (h : ¬ Int32.ofNat L - 6 < Int32.ofNat (6 * j)) : 6 * j + 6 ≤ L := by
  rw [Int32.lt_iff_toInt_lt, gtst0 hL, Int32.toInt_ofNat_of_lt (by omega)] at h
  omega
theorem gs6 (j : Nat) : Int32.ofNat (6 * j) + 6 = Int32.ofNat (6 * (j + 1)) := by
  rw [show 6 * (j + 1) = 6 * j + 6 by omega, Int32.ofNat_add]
  rfl
theorem ll_law {κ : gq_K} {f : gq_F} {b L o3 o4 : Nat} {xs : Nat → Int32} (o : gq_Ok κ mL_law f) (sc : gq_Sc f b L xs) (hL : L ≤ 3072) (m : Nat) : ∀ (j k n : Nat) (ad : gKey → Nat) (C : gG) (g3 : Nat → Int64) (g4 : Nat → UInt64), j + m = 513 → 6 * j ≤ L → gI j C → k + 40 * m ≤ 630091 → n + 700 * m ≤ 7125959 → gq_Y κ mL_law gQL gq_no f (gLP κ ad C o3 g3 o4 g4) (gLV ad j o3 o4 b) 28 [] k n := by
  induction m with
  | zero => intro j k n ad C g3 g4 h1 h2; omega
  | succ m ih =>
    intro j k n ad C g3 g4 hjm h6 hI hk hn
    have hk1 : k + 40 ≤ 630091 := by omega
    have hn1 : n + 700 ≤ 7125959 := Nat.le_trans (Nat.add_le_add_left (Nat.le_mul_of_pos_right 700 (Nat.succ_pos m)) n) hn
    have hj5 : j ≤ 512 := by omega
    have K : 6 * j + 6 ≤ L → ∀ (C' : gG) (ad' : gKey → Nat) (g3 : Nat → Int64) (g4 : Nat → UInt64), gI (j + 1) C' → gq_Y κ mL_law gQL gq_no f (gLP κ ad' C' o3 g3 o4 g4) (gLV ad' j o3 o4 b) 3021 [] (k + 40) (n + 700) := by
      intro hj C' ad' g3 g4 hI'
      refine y_iinc (pc := 3021) (i := 5) (j := 0) (v := Int32.ofNat (6 * (j + 1))) (lv' := gLV ad' (j + 1) o3 o4 b) o dL_law_3021 rfl (gs6 j) (by decide) rfl ?_
      refine y_goto (pc := 3024) (tgt := 28) o dL_law_3024 rfl ?_
      exact ih (j + 1) _ _ ad' C' g3 g4 (by omega) (by omega) hI' (by omega) (by omega)
    refine y_iload (pc := 28) o dL_law_28 rfl ?_
    refine y_aload_n (pc := 30) o dL_law_30 rfl ?_
    refine y_slen (pc := 31) o sc dL_law_31 ?_
    refine y_bipush (pc := 32) (x := 6) o dL_law_32 (by decide) ?_
    refine y_isub (pc := 34) o dL_law_34 ?_
    refine y_icmp_gt (pc := 35) (tgt := 3027) o dL_law_35 rfl (fun (b1 : ((Int32.ofNat L) - 6) < (Int32.ofNat (6 * j))) => ?_) (fun (b1 : ¬ ((Int32.ofNat L) - 6) < (Int32.ofNat (6 * j))) => ?_)
    · refine y_iconst (pc := 3027) (x := 1) o dL_law_3027 (by decide) ?_
      exact y_iret (pc := 3028) o dL_law_3028 rfl (vp_nar_int _) (show k ≤ 630091 by omega) (show n ≤ 7125959 by omega) (fun h hp => rfl)
    have hj := gtst hL h6 b1
    refine y_aload_n (pc := 38) o dL_law_38 rfl ?_
    refine y_iload (pc := 39) o dL_law_39 rfl ?_
    refine y_sld (pc := 41) o sc (6 * j) rfl (by omega) hL dL_law_41 ?_
    refine y_bipush (pc := 42) (x := 63) o dL_law_42 (by decide) ?_
    refine y_iand (pc := 44) o dL_law_44 ?_
    by_cases b2 : ((xs (6 * j)) &&& 63) = 0
    · refine z_tableK (pc := 45) (tgt := 232) (off := 187) o 0 dL_law_45 b2 (by decide) rfl ?_
      exact lc_go o sc hL hj hI hk1 hn1 (K hj)
    by_cases b3 : ((xs (6 * j)) &&& 63) = 1
    · refine z_tableK (pc := 45) (tgt := 288) (off := 243) o 1 dL_law_45 b3 (by decide) rfl ?_
      exact lc_shaft o sc hL hj hI hk1 hn1 (K hj)
    by_cases b4 : ((xs (6 * j)) &&& 63) = 2
    · refine z_tableK (pc := 45) (tgt := 329) (off := 284) o 2 dL_law_45 b4 (by decide) rfl ?_
      exact lc_belt o sc hL hj hI hk1 hn1 (K hj)
    by_cases b5 : ((xs (6 * j)) &&& 63) = 3
    · refine z_tableK (pc := 45) (tgt := 401) (off := 356) o 3 dL_law_45 b5 (by decide) rfl ?_
      exact lc_on o sc hL hj hI hk1 hn1 (K hj)
    by_cases b6 : ((xs (6 * j)) &&& 63) = 4
    · refine z_tableK (pc := 45) (tgt := 494) (off := 449) o 4 dL_law_45 b6 (by decide) rfl ?_
      exact lc_runs o sc hL hj hI hk1 hn1 (K hj)
    by_cases b7 : ((xs (6 * j)) &&& 63) = 5
    · refine z_tableK (pc := 45) (tgt := 559) (off := 514) o 5 dL_law_45 b7 (by decide) rfl ?_
      exact lc_lot o sc hL hj hI hk1 hn1 (K hj)
    by_cases b8 : ((xs (6 * j)) &&& 63) = 6
    · refine z_tableK (pc := 45) (tgt := 653) (off := 608) o 6 dL_law_45 b8 (by decide) rfl ?_
      exact lc_kilos o sc hL hj hI hk1 hn1 (K hj)
    by_cases b9 : ((xs (6 * j)) &&& 63) = 7
    · refine z_tableK (pc := 45) (tgt := 709) (off := 664) o 7 dL_law_45 b9 (by decide) rfl ?_
      exact lc_mix o sc hL hj hI hk1 hn1 (K hj)
    by_cases b10 : ((xs (6 * j)) &&& 63) = 8
    · refine z_tableK (pc := 45) (tgt := 813) (off := 768) o 8 dL_law_45 b10 (by decide) rfl ?_
      exact lc_mixture o sc hL hj hI hk1 hn1 (K hj)
    by_cases b11 : ((xs (6 * j)) &&& 63) = 9
    · refine z_tableK (pc := 45) (tgt := 883) (off := 838) o 9 dL_law_45 b11 (by decide) rfl ?_
      exact lc_press o sc hL hj hI hk1 hn1 (K hj)
    by_cases b12 : ((xs (6 * j)) &&& 63) = 10
    · refine z_tableK (pc := 45) (tgt := 963) (off := 918) o 10 dL_law_45 b12 (by decide) rfl ?_
      exact lc_worn o sc hL hj hI hk1 hn1 (K hj)
    by_cases b13 : ((xs (6 * j)) &&& 63) = 11
    · refine z_tableK (pc := 45) (tgt := 1019) (off := 974) o 11 dL_law_45 b13 (by decide) rfl ?_
      exact lc_renew o sc hL hj hI hk1 hn1 (K hj)
    by_cases b14 : ((xs (6 * j)) &&& 63) = 12
    · refine z_tableK (pc := 45) (tgt := 1075) (off := 1030) o 12 dL_law_45 b14 (by decide) rfl ?_
      exact lc_dry o sc hL hj hI hk1 hn1 (K hj)
    by_cases b15 : ((xs (6 * j)) &&& 63) = 13
    · refine z_tableK (pc := 45) (tgt := 1143) (off := 1098) o 13 dL_law_45 b15 (by decide) rfl ?_
      exact lc_fire o sc hL hj hI hk1 hn1 (K hj)
    by_cases b16 : ((xs (6 * j)) &&& 63) = 14
    · refine z_tableK (pc := 45) (tgt := 1235) (off := 1190) o 14 dL_law_45 b16 (by decide) rfl ?_
      exact lc_soak o sc hL hj hI hk1 hn1 (K hj)
    by_cases b17 : ((xs (6 * j)) &&& 63) = 15
    · refine z_tableK (pc := 45) (tgt := 1303) (off := 1258) o 15 dL_law_45 b17 (by decide) rfl ?_
      exact lc_batch o sc hL hj hI hk1 hn1 (K hj)
    by_cases b18 : ((xs (6 * j)) &&& 63) = 16
    · refine z_tableK (pc := 45) (tgt := 1373) (off := 1328) o 16 dL_law_45 b18 (by decide) rfl ?_
      exact lc_draw o sc hL hj hI hk1 hn1 (K hj)
    by_cases b19 : ((xs (6 * j)) &&& 63) = 17
    · refine z_tableK (pc := 45) (tgt := 1429) (off := 1384) o 17 dL_law_45 b19 (by decide) rfl ?_
      exact lc_check o sc hL hj hI hk1 hn1 (K hj)
    by_cases b20 : ((xs (6 * j)) &&& 63) = 18
    · refine z_tableK (pc := 45) (tgt := 1442) (off := 1397) o 18 dL_law_45 b20 (by decide) rfl ?_
      exact lc_slats o sc hL hj hI hk1 hn1 (K hj)
    by_cases b21 : ((xs (6 * j)) &&& 63) = 19
    · refine z_tableK (pc := 45) (tgt := 1536) (off := 1491) o 19 dL_law_45 b21 (by decide) rfl ?_
      exact lc_season o sc hL hj hI hk1 hn1 (K hj)
    by_cases b22 : ((xs (6 * j)) &&& 63) = 20
    · refine z_tableK (pc := 45) (tgt := 1604) (off := 1559) o 20 dL_law_45 b22 (by decide) rfl ?_
      exact lc_groove o sc hL hj hI hk1 hn1 (K hj)
    by_cases b23 : ((xs (6 * j)) &&& 63) = 21
    · refine z_tableK (pc := 45) (tgt := 1672) (off := 1627) o 21 dL_law_45 b23 (by decide) rfl ?_
      exact lc_slat o sc hL hj hI hk1 hn1 (K hj)
    by_cases b24 : ((xs (6 * j)) &&& 63) = 22
    · refine z_tableK (pc := 45) (tgt := 1742) (off := 1697) o 22 dL_law_45 b24 (by decide) rfl ?_
      exact lc_lay o sc hL hj hI hk1 hn1 (K hj)
    by_cases b25 : ((xs (6 * j)) &&& 63) = 23
    · refine z_tableK (pc := 45) (tgt := 1848) (off := 1803) o 23 dL_law_45 b25 (by decide) rfl ?_
      exact lc_coat o sc hL hj hI hk1 hn1 (K hj)
    by_cases b26 : ((xs (6 * j)) &&& 63) = 24
    · refine z_tableK (pc := 45) (tgt := 1916) (off := 1871) o 24 dL_law_45 b26 (by decide) rfl ?_
      exact lc_stamp o sc hL hj hI hk1 hn1 (K hj)
    by_cases b27 : ((xs (6 * j)) &&& 63) = 25
    · refine z_tableK (pc := 45) (tgt := 1972) (off := 1927) o 25 dL_law_45 b27 (by decide) rfl ?_
      exact lc_erase o sc hL hj hI hk1 hn1 (K hj)
    by_cases b28 : ((xs (6 * j)) &&& 63) = 26
    · refine z_tableK (pc := 45) (tgt := 2040) (off := 1995) o 26 dL_law_45 b28 (by decide) rfl ?_
      exact lc_run o sc hL hj hI hk1 hn1 (K hj)
    by_cases b29 : ((xs (6 * j)) &&& 63) = 27
    · refine z_tableK (pc := 45) (tgt := 2110) (off := 2065) o 27 dL_law_45 b29 (by decide) rfl ?_
      exact lc_fall o sc hL hj hI hk1 hn1 (K hj)
    by_cases b30 : ((xs (6 * j)) &&& 63) = 28
    · refine z_tableK (pc := 45) (tgt := 2178) (off := 2133) o 28 dL_law_45 b30 (by decide) rfl ?_
      exact lc_sample o sc hL hj hI hk1 hn1 (K hj)
    by_cases b31 : ((xs (6 * j)) &&& 63) = 29
    · refine z_tableK (pc := 45) (tgt := 2246) (off := 2201) o 29 dL_law_45 b31 (by decide) rfl ?_
      exact lc_seed o sc hL hj hI hk1 hn1 (K hj)
    by_cases b32 : ((xs (6 * j)) &&& 63) = 30
    · refine z_tableK (pc := 45) (tgt := 2302) (off := 2257) o 30 dL_law_45 b32 (by decide) rfl ?_
      exact lc_gross o sc hL hj hI hk1 hn1 (K hj)
    by_cases b33 : ((xs (6 * j)) &&& 63) = 31
    · refine z_tableK (pc := 45) (tgt := 2358) (off := 2313) o 31 dL_law_45 b33 (by decide) rfl ?_
      exact lc_pack o sc hL hj hI hk1 hn1 (K hj)
    by_cases b34 : ((xs (6 * j)) &&& 63) = 32
    · refine z_tableK (pc := 45) (tgt := 2438) (off := 2393) o 32 dL_law_45 b34 (by decide) rfl ?_
      exact lc_order o sc hL hj hI hk1 hn1 (K hj)
    by_cases b35 : ((xs (6 * j)) &&& 63) = 33
    · refine z_tableK (pc := 45) (tgt := 2518) (off := 2473) o 33 dL_law_45 b35 (by decide) rfl ?_
      exact lc_ship o sc hL hj hI hk1 hn1 (K hj)
    by_cases b36 : ((xs (6 * j)) &&& 63) = 34
    · refine z_tableK (pc := 45) (tgt := 2586) (off := 2541) o 34 dL_law_45 b36 (by decide) rfl ?_
      exact lc_isLate o sc hL hj hI hk1 hn1 (K hj)
    by_cases b37 : ((xs (6 * j)) &&& 63) = 35
    · refine z_tableK (pc := 45) (tgt := 2649) (off := 2604) o 35 dL_law_45 b37 (by decide) rfl ?_
      exact lc_claim o sc hL hj hI hk1 hn1 (K hj)
    by_cases b38 : ((xs (6 * j)) &&& 63) = 36
    · refine z_tableK (pc := 45) (tgt := 2712) (off := 2667) o 36 dL_law_45 b38 (by decide) rfl ?_
      exact lc_parts o sc hL hj hI hk1 hn1 (K hj)
    by_cases b39 : ((xs (6 * j)) &&& 63) = 37
    · refine z_tableK (pc := 45) (tgt := 2768) (off := 2723) o 37 dL_law_45 b39 (by decide) rfl ?_
      exact lc_trace o sc hL hj hI hk1 hn1 (K hj)
    by_cases b40 : ((xs (6 * j)) &&& 63) = 38
    · refine z_tableK (pc := 45) (tgt := 2850) (off := 2805) o 38 dL_law_45 b40 (by decide) rfl ?_
      exact lc_missing o sc hL hj hI hk1 hn1 (K hj)
    by_cases b41 : ((xs (6 * j)) &&& 63) = 39
    · refine z_tableK (pc := 45) (tgt := 2863) (off := 2818) o 39 dL_law_45 b41 (by decide) rfl ?_
      exact lc_checksum o sc hL hj hI hk1 hn1 (K hj)
    by_cases b42 : ((xs (6 * j)) &&& 63) = 40
    · refine z_tableK (pc := 45) (tgt := 2877) (off := 2832) o 40 dL_law_45 b42 (by decide) rfl ?_
      exact lc_brokenShare o sc hL hj hI hk1 hn1 (K hj)
    by_cases b43 : ((xs (6 * j)) &&& 63) = 41
    · refine z_tableK (pc := 45) (tgt := 2943) (off := 2898) o 41 dL_law_45 b43 (by decide) rfl ?_
      exact lc_meanDarkness o sc hL hj hI hk1 hn1 (K hj)
    by_cases b44 : ((xs (6 * j)) &&& 63) = 42
    · refine z_tableK (pc := 45) (tgt := 3008) (off := 2963) o 42 dL_law_45 b44 (by decide) rfl ?_
      exact lc_isSound o sc hL hj hI hk1 hn1 (K hj)
    refine z_tableD (pc := 45) (tgt := 3021) o [0, 1, 2, 3, 4, 5, 6, 7, 8, 9, 10, 11, 12, 13, 14, 15, 16, 17, 18, 19, 20, 21, 22, 23, 24, 25, 26, 27, 28, 29, 30, 31, 32, 33, 34, 35, 36, 37, 38, 39, 40, 41, 42] dL_law_45 (by decide) (by decide) (by simp only [List.mem_cons, List.not_mem_nil, or_false, forall_eq_or_imp, forall_eq]; exact ⟨b2, b3, b4, b5, b6, b7, b8, b9, b10, b11, b12, b13, b14, b15, b16, b17, b18, b19, b20, b21, b22, b23, b24, b25, b26, b27, b28, b29, b30, b31, b32, b33, b34, b35, b36, b37, b38, b39, b40, b41, b42, b43, b44⟩) rfl ?_
    exact y_wide (Nat.le_add_right _ _) (Nat.le_add_right _ _) (K hj _ _ _ _ (hI.succ hj5))
end Z43
