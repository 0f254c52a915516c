set_option maxHeartbeats 4000000 in
set_option maxRecDepth 100000 in
theorem lk_loop {L : Nat} {xs : Nat → Int32} (hL : L ≤ 3072) : ∀ (n : Nat) (i : Int) (h : m_H), 0 ≤ i → i ≤ 4000 → (L : Int) + 6 - i ≤ n → LI h → m_Y (xL L xs) oF M_law 18 [some (mO 41), some (mR 0), some (mR 108), some (mI i)] [] h Ql
  | n, i, h, h0, hi, hn, I => by
    refine y_iload_n (M := M_law) 18 dL_law_18 rfl ?_
    refine y_aload_nO (M := M_law) 19 dL_law_19 rfl ?_
    refine y_slen (M := M_law) 20 dL_law_20 hL ?_
    refine y_bipush (M := M_law) 21 dL_law_21 ?_
    refine y_isubN (M := M_law) 23 dL_law_23 (by omega) (by omega) ?_
    refine y_icmp_gt (M := M_law) 24 dL_law_24 1494 rfl (fun q => ?_) (fun q => ?_)
    · refine y_iconst (M := M_law) 1494 dL_law_1494 ?_
      exact y_zret (M := M_law) 1495 dL_law_1495 rfl (Or.inr rfl) ⟨rfl, rfl⟩
    · match n, hn with
      | 0, hn => omega
      | n + 1, hn =>
        have K : ∀ h', LI h' → m_Y (xL L xs) oF M_law 1488 [some (mO 41), some (mR 0), some (mR 108), some (mI i)] [] h' Ql := by
          intro h' I'
          refine y_iincN (M := M_law) 1488 dL_law_1488 (ls' := [some (mO 41), some (mR 0), some (mR 108), some (mI (i + 6))]) (by decide) rfl (by (unfold m_32; decide)) (by omega) (by omega) rfl ?_
          refine y_goto (M := M_law) 1491 dL_law_1491 18 rfl ?_
          exact lk_loop hL n (i + 6) h' (by omega) (by omega) (by omega) I'
        refine y_aload_nO (M := M_law) 27 dL_law_27 rfl ?_
        refine y_iload_n (M := M_law) 28 dL_law_28 rfl ?_
        refine y_sld (M := M_law) 29 dL_law_29 (by omega) (by omega) ?_
        refine y_bipush (M := M_law) 30 dL_law_30 ?_
        refine y_iand (M := M_law) 32 dL_law_32 ?_
        refine y_topBI (m_and_63 _) (fun v ev a1 a2 => ?_)
        have kk : 5 < (L : Int) - i := by omega
        have e5 : i + 5 < L := by omega
        by_cases c : v ≤ 39
        · have q : v = 0 ∨ v = 1 ∨ v = 2 ∨ v = 3 ∨ v = 4 ∨ v = 5 ∨ v = 6 ∨ v = 7 ∨ v = 8 ∨ v = 9 ∨ v = 10 ∨ v = 11 ∨ v = 12 ∨ v = 13 ∨ v = 14 ∨ v = 15 ∨ v = 16 ∨ v = 17 ∨ v = 18 ∨ v = 19 ∨ v = 20 ∨ v = 21 ∨ v = 22 ∨ v = 23 ∨ v = 24 ∨ v = 25 ∨ v = 26 ∨ v = 27 ∨ v = 28 ∨ v = 29 ∨ v = 30 ∨ v = 31 ∨ v = 32 ∨ v = 33 ∨ v = 34 ∨ v = 35 ∨ v = 36 ∨ v = 37 ∨ v = 38 ∨ v = 39 := by omega
          rcases q with q | q | q | q | q | q | q | q | q | q | q | q | q | q | q | q | q | q | q | q | q | q | q | q | q | q | q | q | q | q | q | q | q | q | q | q | q | q | q | q
          · refine y_tabIn (M := M_law) 33 dL_law_33 (off := 175) 208 (by omega) (by omega) (by rw [q]; rfl) rfl ?_
            exact lk_0 hL h0 e5 K h I
          · refine y_tabIn (M := M_law) 33 dL_law_33 (off := 208) 241 (by omega) (by omega) (by rw [q]; rfl) rfl ?_
            exact lk_1 hL h0 e5 K h I
          · refine y_tabIn (M := M_law) 33 dL_law_33 (off := 241) 274 (by omega) (by omega) (by rw [q]; rfl) rfl ?_
            exact lk_2 hL h0 e5 K h I
          · refine y_tabIn (M := M_law) 33 dL_law_33 (off := 274) 307 (by omega) (by omega) (by rw [q]; rfl) rfl ?_
            exact lk_3 hL h0 e5 K h I
          · refine y_tabIn (M := M_law) 33 dL_law_33 (off := 327) 360 (by omega) (by omega) (by rw [q]; rfl) rfl ?_
            exact lk_4 hL h0 e5 K h I
          · refine y_tabIn (M := M_law) 33 dL_law_33 (off := 360) 393 (by omega) (by omega) (by rw [q]; rfl) rfl ?_
            exact lk_5 hL h0 e5 K h I
          · refine y_tabIn (M := M_law) 33 dL_law_33 (off := 393) 426 (by omega) (by omega) (by rw [q]; rfl) rfl ?_
            exact lk_6 hL h0 e5 K h I
          · refine y_tabIn (M := M_law) 33 dL_law_33 (off := 456) 489 (by omega) (by omega) (by rw [q]; rfl) rfl ?_
            exact lk_7 hL h0 e5 K h I
          · refine y_tabIn (M := M_law) 33 dL_law_33 (off := 479) 512 (by omega) (by omega) (by rw [q]; rfl) rfl ?_
            exact lk_8 hL h0 e5 K h I
          · refine y_tabIn (M := M_law) 33 dL_law_33 (off := 492) 525 (by omega) (by omega) (by rw [q]; rfl) rfl ?_
            exact lk_9 hL h0 e5 K h I
          · refine y_tabIn (M := M_law) 33 dL_law_33 (off := 505) 538 (by omega) (by omega) (by rw [q]; rfl) rfl ?_
            exact lk_10 hL h0 e5 K h I
          · refine y_tabIn (M := M_law) 33 dL_law_33 (off := 518) 551 (by omega) (by omega) (by rw [q]; rfl) rfl ?_
            exact lk_11 hL h0 e5 K h I
          · refine y_tabIn (M := M_law) 33 dL_law_33 (off := 531) 564 (by omega) (by omega) (by rw [q]; rfl) rfl ?_
            exact lk_12 hL h0 e5 K h I
          · refine y_tabIn (M := M_law) 33 dL_law_33 (off := 544) 577 (by omega) (by omega) (by rw [q]; rfl) rfl ?_
            exact lk_13 hL h0 e5 K h I
          · refine y_tabIn (M := M_law) 33 dL_law_33 (off := 587) 620 (by omega) (by omega) (by rw [q]; rfl) rfl ?_
            exact lk_14 hL h0 e5 K h I
          · refine y_tabIn (M := M_law) 33 dL_law_33 (off := 620) 653 (by omega) (by omega) (by rw [q]; rfl) rfl ?_
            exact lk_15 hL h0 e5 K h I
          · refine y_tabIn (M := M_law) 33 dL_law_33 (off := 663) 696 (by omega) (by omega) (by rw [q]; rfl) rfl ?_
            exact lk_16 hL h0 e5 K h I
          · refine y_tabIn (M := M_law) 33 dL_law_33 (off := 706) 739 (by omega) (by omega) (by rw [q]; rfl) rfl ?_
            exact lk_17 hL h0 e5 K h I
          · refine y_tabIn (M := M_law) 33 dL_law_33 (off := 769) 802 (by omega) (by omega) (by rw [q]; rfl) rfl ?_
            exact lk_18 hL h0 e5 K h I
          · refine y_tabIn (M := M_law) 33 dL_law_33 (off := 822) 855 (by omega) (by omega) (by rw [q]; rfl) rfl ?_
            exact lk_19 hL h0 e5 K h I
          · refine y_tabIn (M := M_law) 33 dL_law_33 (off := 875) 908 (by omega) (by omega) (by rw [q]; rfl) rfl ?_
            exact lk_20 hL h0 e5 K h I
          · refine y_tabIn (M := M_law) 33 dL_law_33 (off := 928) 961 (by omega) (by omega) (by rw [q]; rfl) rfl ?_
            exact lk_21 hL h0 e5 K h I
          · refine y_tabIn (M := M_law) 33 dL_law_33 (off := 951) 984 (by omega) (by omega) (by rw [q]; rfl) rfl ?_
            exact lk_22 hL h0 e5 K h I
          · refine y_tabIn (M := M_law) 33 dL_law_33 (off := 1004) 1037 (by omega) (by omega) (by rw [q]; rfl) rfl ?_
            exact lk_23 hL h0 e5 K h I
          · refine y_tabIn (M := M_law) 33 dL_law_33 (off := 1037) 1070 (by omega) (by omega) (by rw [q]; rfl) rfl ?_
            exact lk_24 hL h0 e5 K h I
          · refine y_tabIn (M := M_law) 33 dL_law_33 (off := 1060) 1093 (by omega) (by omega) (by rw [q]; rfl) rfl ?_
            exact lk_25 hL h0 e5 K h I
          · refine y_tabIn (M := M_law) 33 dL_law_33 (off := 1073) 1106 (by omega) (by omega) (by rw [q]; rfl) rfl ?_
            exact lk_26 hL h0 e5 K h I
          · refine y_tabIn (M := M_law) 33 dL_law_33 (off := 1096) 1129 (by omega) (by omega) (by rw [q]; rfl) rfl ?_
            exact lk_27 hL h0 e5 K h I
          · refine y_tabIn (M := M_law) 33 dL_law_33 (off := 1119) 1152 (by omega) (by omega) (by rw [q]; rfl) rfl ?_
            exact lk_28 hL h0 e5 K h I
          · refine y_tabIn (M := M_law) 33 dL_law_33 (off := 1152) 1185 (by omega) (by omega) (by rw [q]; rfl) rfl ?_
            exact lk_29 hL h0 e5 K h I
          · refine y_tabIn (M := M_law) 33 dL_law_33 (off := 1185) 1218 (by omega) (by omega) (by rw [q]; rfl) rfl ?_
            exact lk_30 hL h0 e5 K h I
          · refine y_tabIn (M := M_law) 33 dL_law_33 (off := 1218) 1251 (by omega) (by omega) (by rw [q]; rfl) rfl ?_
            exact lk_31 hL h0 e5 K h I
          · refine y_tabIn (M := M_law) 33 dL_law_33 (off := 1261) 1294 (by omega) (by omega) (by rw [q]; rfl) rfl ?_
            exact lk_32 hL h0 e5 K h I
          · refine y_tabIn (M := M_law) 33 dL_law_33 (off := 1284) 1317 (by omega) (by omega) (by rw [q]; rfl) rfl ?_
            exact lk_33 hL h0 e5 K h I
          · refine y_tabIn (M := M_law) 33 dL_law_33 (off := 1327) 1360 (by omega) (by omega) (by rw [q]; rfl) rfl ?_
            exact lk_34 hL h0 e5 K h I
          · refine y_tabIn (M := M_law) 33 dL_law_33 (off := 1350) 1383 (by omega) (by omega) (by rw [q]; rfl) rfl ?_
            exact lk_35 hL h0 e5 K h I
          · refine y_tabIn (M := M_law) 33 dL_law_33 (off := 1373) 1406 (by omega) (by omega) (by rw [q]; rfl) rfl ?_
            exact lk_36 hL h0 e5 K h I
          · refine y_tabIn (M := M_law) 33 dL_law_33 (off := 1396) 1429 (by omega) (by omega) (by rw [q]; rfl) rfl ?_
            exact lk_37 hL h0 e5 K h I
          · refine y_tabIn (M := M_law) 33 dL_law_33 (off := 1419) 1452 (by omega) (by omega) (by rw [q]; rfl) rfl ?_
            exact lk_38 hL h0 e5 K h I
          · refine y_tabIn (M := M_law) 33 dL_law_33 (off := 1442) 1475 (by omega) (by omega) (by rw [q]; rfl) rfl ?_
            exact lk_39 hL h0 e5 K h I
        · refine y_tabOut (M := M_law) 33 dL_law_33 1488 (by omega) rfl ?_
          exact K h I
