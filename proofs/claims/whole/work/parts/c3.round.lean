def lwTab : Array Int := #[207, 250, 293, 326, 369, 402, 435, 468, 531, 554, 567, 580, 593, 606, 619, 632, 655, 688, 711, 754, 797, 820, 853, 866, 879, 892, 935, 988, 1001, 1024, 1047, 1100, 1143, 1166, 1189, 1212, 1235, 1258, 1271, 1324, 1337, 1360, 1373, 1406, 1439, 1462, 1485, 1508]
/-! rows of the law's frame -/
theorem d_law_0 : decode code 0 = .ok (.new 7, 3) := by decide +kernel
theorem d_law_3 : decode code 3 = .ok (.dup, 1) := by decide +kernel
theorem d_law_4 : decode code 4 = .ok (.invokespecial 9, 3) := by decide +kernel
theorem d_law_7 : decode code 7 = .ok (.astore_n 1, 1) := by decide +kernel
theorem d_law_8 : decode code 8 = .ok (.new 10, 3) := by decide +kernel
theorem d_law_11 : decode code 11 = .ok (.dup, 1) := by decide +kernel
theorem d_law_12 : decode code 12 = .ok (.invokespecial 12, 3) := by decide +kernel
theorem d_law_15 : decode code 15 = .ok (.astore_n 2, 1) := by decide +kernel
theorem d_law_16 : decode code 16 = .ok (.iconst 0, 1) := by decide +kernel
theorem d_law_17 : decode code 17 = .ok (.istore_n 3, 1) := by decide +kernel
theorem d_law_18 : decode code 18 = .ok (.iload_n 3, 1) := by decide +kernel
theorem d_law_19 : decode code 19 = .ok (.aload_n 0, 1) := by decide +kernel
theorem d_law_20 : decode code 20 = .ok (.arraylength, 1) := by decide +kernel
theorem d_law_21 : decode code 21 = .ok (.bipush 6, 2) := by decide +kernel
theorem d_law_23 : decode code 23 = .ok (.isub, 1) := by decide +kernel
theorem d_law_24 : decode code 24 = .ok (.if_icmp .gt 1536, 3) := by decide +kernel
theorem d_law_27 : decode code 27 = .ok (.aload_n 0, 1) := by decide +kernel
theorem d_law_28 : decode code 28 = .ok (.iload_n 3, 1) := by decide +kernel
theorem d_law_29 : decode code 29 = .ok (.iaload, 1) := by decide +kernel
theorem d_law_30 : decode code 30 = .ok (.bipush 63, 2) := by decide +kernel
theorem d_law_32 : decode code 32 = .ok (.iand, 1) := by decide +kernel
theorem d_law_33 : decode code 33 = .ok (.tableswitch 1521 0 47 lwTab, 207) := by decide +kernel
theorem d_law_1554 : decode code 1554 = .ok (.iinc 3 6, 3) := by decide +kernel
theorem d_law_1557 : decode code 1557 = .ok (.goto (-1539), 3) := by decide +kernel
theorem d_law_1560 : decode code 1560 = .ok (.iconst 1, 1) := by decide +kernel
theorem d_law_1561 : decode code 1561 = .ok (.ireturn, 1) := by decide +kernel
theorem lwi_D : zLkI "DebtDoorsLaw" 9 y_D_init 0 := ⟨Or.inr (zTb_in 162 (by decide +kernel) (by decide +kernel)), (zTb_in 163 (by decide +kernel) (by decide +kernel)), rfl, (zTb_in 140 (by decide +kernel) (by decide +kernel)), (zTb_in 164 (by decide +kernel) (by decide +kernel)), by decide +kernel, by decide +kernel, rfl⟩
theorem lwi_M : zLkI "DebtDoorsLaw" 12 y_M_init 0 := ⟨Or.inr (zTb_in 1334 (by decide +kernel) (by decide +kernel)), (zTb_in 1335 (by decide +kernel) (by decide +kernel)), rfl, (zTb_in 152 (by decide +kernel) (by decide +kernel)), (zTb_in 1336 (by decide +kernel) (by decide +kernel)), by decide +kernel, by decide +kernel, rfl⟩
theorem lwn_11 : Cond.classLink "DebtDoorsLaw" 7 RX11 ∈ zTb ∧ Cond.instantiable RX11 20 ∈ zTb ∧ Cond.initialized RX11 ∈ zTb := ⟨(zTb_in 160 (by decide +kernel) (by decide +kernel)), (zTb_in 161 (by decide +kernel) (by decide +kernel)), (zTb_in 140 (by decide +kernel) (by decide +kernel))⟩
theorem lwn_12 : Cond.classLink "DebtDoorsLaw" 10 RX12 ∈ zTb ∧ Cond.instantiable RX12 61 ∈ zTb ∧ Cond.initialized RX12 ∈ zTb := ⟨(zTb_in 1332 (by decide +kernel) (by decide +kernel)), (zTb_in 1333 (by decide +kernel) (by decide +kernel)), (zTb_in 152 (by decide +kernel) (by decide +kernel))⟩
/-! one round of the law -/
theorem lw_go {Γ : zCx} {d ce sl : Nat} {ad : Nat → Nat} {μ : zMem} {b L : Nat} {xs : Nat → Int32} {n i : Int} (X : zX Γ "DebtDoorsLaw" code 4 d) (V : zLw Γ b L xs) (hd : 102 ≤ d) (hce : ce ≤ (x_R Γ).cells) (hsl : sl ≤ (x_R Γ).slots) (hL : L ≤ 3072) (hsw : decode code 33 = .ok (.tableswitch 1521 0 47 lwTab, 207)) (h0 : 0 ≤ i) (hi : i + 5 < L) {kk : Int} (hk : 0 ≤ kk ∧ kk ≤ 1000) (hJ : JJ kk μ μ) (fin : ∀ μ', JJ (kk + 1) μ' μ' → zG Γ 4 ce sl zT0 ad 1554 [vx 1, vr 0, vr 355, vi i] [] μ') : zG Γ 4 ce sl zT0 ad 33 [vx 1, vr 0, vr 355, vi i] [vi n] μ := by
  have fin0 := fin μ (hJ.up (by omega))
  by_cases hn : 0 ≤ n ∧ n ≤ 47
  · obtain ⟨m, rfl⟩ : ∃ m : Nat, n = (m : Int) := ⟨n.toNat, by omega⟩
    have hm : m ≤ 47 := by omega
    match m, hm with
    | 0, _ => exact zl_in (off := 207) (tgt := 240) X hsw (by decide) (by decide) rfl (by decide) (zl_case X V hd hce hsl hL lwc_0 lwl_D_person lwl_M_person rfl rfl h0 hi (LC_person) hk hJ fin)
    | 1, _ => exact zl_in (off := 250) (tgt := 283) X hsw (by decide) (by decide) rfl (by decide) (zl_case X V hd hce hsl hL lwc_1 lwl_D_put lwl_M_put rfl rfl h0 hi (LC_put) hk hJ fin)
    | 2, _ => exact zl_in (off := 293) (tgt := 326) X hsw (by decide) (by decide) rfl (by decide) (zl_case X V hd hce hsl hL lwc_2 lwl_D_of lwl_M_of rfl rfl h0 hi (LC_of) hk hJ fin)
    | 3, _ => exact zl_in (off := 326) (tgt := 359) X hsw (by decide) (by decide) rfl (by decide) (zl_case X V hd hce hsl hL lwc_3 lwl_D_debt lwl_M_debt rfl rfl h0 hi (LC_debt) hk hJ fin)
    | 4, _ => exact zl_in (off := 369) (tgt := 402) X hsw (by decide) (by decide) rfl (by decide) (zl_case X V hd hce hsl hL lwc_4 lwl_D_at lwl_M_at rfl rfl h0 hi (LC_at) hk hJ fin)
    | 5, _ => exact zl_in (off := 402) (tgt := 435) X hsw (by decide) (by decide) rfl (by decide) (zl_case X V hd hce hsl hL lwc_5 lwl_D_owes lwl_M_owes rfl rfl h0 hi (LC_owes) hk hJ fin)
    | 6, _ => exact zl_in (off := 435) (tgt := 468) X hsw (by decide) (by decide) rfl (by decide) (zl_case X V hd hce hsl hL lwc_6 lwl_D_terms lwl_M_terms rfl rfl h0 hi (LC_terms) hk hJ fin)
    | 7, _ => exact zl_in (off := 468) (tgt := 501) X hsw (by decide) (by decide) rfl (by decide) (zl_case X V hd hce hsl hL lwc_7 lwl_D_feed lwl_M_feed rfl rfl h0 hi (LC_feed) hk hJ fin)
    | 8, _ => exact zl_in (off := 531) (tgt := 564) X hsw (by decide) (by decide) rfl (by decide) (zl_case X V hd hce hsl hL lwc_8 lwl_D_end lwl_M_end rfl rfl h0 hi (LC_end) hk hJ fin)
    | 9, _ => exact zl_in (off := 554) (tgt := 587) X hsw (by decide) (by decide) rfl (by decide) (zl_case X V hd hce hsl hL lwc_9 lwl_D_row lwl_M_row rfl rfl h0 hi (LC_row) hk hJ fin)
    | 10, _ => exact zl_in (off := 567) (tgt := 600) X hsw (by decide) (by decide) rfl (by decide) (zl_case X V hd hce hsl hL lwc_10 lwl_D_blots lwl_M_blots rfl rfl h0 hi (LC_blots) hk hJ fin)
    | 11, _ => exact zl_in (off := 580) (tgt := 613) X hsw (by decide) (by decide) rfl (by decide) (zl_case X V hd hce hsl hL lwc_11 lwl_D_law lwl_M_law rfl rfl h0 hi (LC_law) hk hJ fin)
    | 12, _ => exact zl_in (off := 593) (tgt := 626) X hsw (by decide) (by decide) rfl (by decide) (zl_case X V hd hce hsl hL lwc_12 lwl_D_orders lwl_M_orders rfl rfl h0 hi (LC_orders) hk hJ fin)
    | 13, _ => exact zl_in (off := 606) (tgt := 639) X hsw (by decide) (by decide) rfl (by decide) (zl_case X V hd hce hsl hL lwc_13 lwl_D_fault lwl_M_fault rfl rfl h0 hi (LC_fault) hk hJ fin)
    | 14, _ => exact zl_in (off := 619) (tgt := 652) X hsw (by decide) (by decide) rfl (by decide) (zl_case X V hd hce hsl hL lwc_14 lwl_D_stopped lwl_M_stopped rfl rfl h0 hi (LC_stopped) hk hJ fin)
    | 15, _ => exact zl_in (off := 632) (tgt := 665) X hsw (by decide) (by decide) rfl (by decide) (zl_case X V hd hce hsl hL lwc_15 lwl_D_force lwl_M_force rfl rfl h0 hi (LC_force) hk hJ fin)
    | 16, _ => exact zl_in (off := 655) (tgt := 688) X hsw (by decide) (by decide) rfl (by decide) (zl_case X V hd hce hsl hL lwc_16 lwl_D_deep lwl_M_deep rfl rfl h0 hi (LC_deep) hk hJ fin)
    | 17, _ => exact zl_in (off := 688) (tgt := 721) X hsw (by decide) (by decide) rfl (by decide) (zl_case X V hd hce hsl hL lwc_17 lwl_D_doors lwl_M_doors rfl rfl h0 hi (LC_doors) hk hJ fin)
    | 18, _ => exact zl_in (off := 711) (tgt := 744) X hsw (by decide) (by decide) rfl (by decide) (zl_case X V hd hce hsl hL lwc_18 lwl_D_lend lwl_M_lend rfl rfl h0 hi (LC_lend) hk hJ fin)
    | 19, _ => exact zl_in (off := 754) (tgt := 787) X hsw (by decide) (by decide) rfl (by decide) (zl_case X V hd hce hsl hL lwc_19 lwl_D_repay lwl_M_repay rfl rfl h0 hi (LC_repay) hk hJ fin)
    | 20, _ => exact zl_in (off := 797) (tgt := 830) X hsw (by decide) (by decide) rfl (by decide) (zl_case X V hd hce hsl hL lwc_20 lwl_D_forgive lwl_M_forgive rfl rfl h0 hi (LC_forgive) hk hJ fin)
    | 21, _ => exact zl_in (off := 820) (tgt := 853) X hsw (by decide) (by decide) rfl (by decide) (zl_case X V hd hce hsl hL lwc_21 lwl_D_sell lwl_M_sell rfl rfl h0 hi (LC_sell) hk hJ fin)
    | 22, _ => exact zl_in (off := 853) (tgt := 886) X hsw (by decide) (by decide) rfl (by decide) (zl_case X V hd hce hsl hL lwc_22 lwl_D_await lwl_M_await rfl rfl h0 hi (LC_await) hk hJ fin)
    | 23, _ => exact zl_in (off := 866) (tgt := 899) X hsw (by decide) (by decide) rfl (by decide) (zl_case X V hd hce hsl hL lwc_23 lwl_D_clear lwl_M_clear rfl rfl h0 hi (LC_clear) hk hJ fin)
    | 24, _ => exact zl_in (off := 879) (tgt := 912) X hsw (by decide) (by decide) rfl (by decide) (zl_case X V hd hce hsl hL lwc_24 lwl_D_undo lwl_M_undo rfl rfl h0 hi (LC_undo) hk hJ fin)
    | 25, _ => exact zl_in (off := 892) (tgt := 925) X hsw (by decide) (by decide) rfl (by decide) (zl_case X V hd hce hsl hL lwc_25 lwl_D_need lwl_M_need rfl rfl h0 hi (LC_need) hk hJ fin)
    | 26, _ => exact zl_in (off := 935) (tgt := 968) X hsw (by decide) (by decide) rfl (by decide) (zl_case X V hd hce hsl hL lwc_26 lwl_D_visit lwl_M_visit rfl rfl h0 hi (LC_visit) hk hJ fin)
    | 27, _ => exact zl_in (off := 988) (tgt := 1021) X hsw (by decide) (by decide) rfl (by decide) (zl_case X V hd hce hsl hL lwc_27 lwl_D_cancel lwl_M_cancel rfl rfl h0 hi (LC_cancel) hk hJ fin)
    | 28, _ => exact zl_in (off := 1001) (tgt := 1034) X hsw (by decide) (by decide) rfl (by decide) (zl_case X V hd hce hsl hL lwc_28 lwl_D_lendings lwl_M_lendings rfl rfl h0 hi (LC_lendings (zI.tn _)) hk hJ fin)
    | 29, _ => exact zl_in (off := 1024) (tgt := 1057) X hsw (by decide) (by decide) rfl (by decide) (zl_case X V hd hce hsl hL lwc_29 lwl_D_plan lwl_M_plan rfl rfl h0 hi (LC_plan) hk hJ fin)
    | 30, _ => exact zl_in (off := 1047) (tgt := 1080) X hsw (by decide) (by decide) rfl (by decide) (zl_case X V hd hce hsl hL lwc_30 lwl_D_thief lwl_M_thief rfl rfl h0 hi (LC_thief) hk hJ fin)
    | 31, _ => exact zl_in (off := 1100) (tgt := 1133) X hsw (by decide) (by decide) rfl (by decide) (zl_case X V hd hce hsl hL lwc_31 lwl_D_shut lwl_M_shut rfl rfl h0 hi (LC_shut) hk hJ fin)
    | 32, _ => exact zl_in (off := 1143) (tgt := 1176) X hsw (by decide) (by decide) rfl (by decide) (zl_case X V hd hce hsl hL lwc_32 lwl_D_ban lwl_M_ban rfl rfl h0 hi (LC_ban) hk hJ fin)
    | 33, _ => exact zl_in (off := 1166) (tgt := 1199) X hsw (by decide) (by decide) rfl (by decide) (zl_case X V hd hce hsl hL lwc_33 lwl_D_party lwl_M_party rfl rfl h0 hi (LC_party) hk hJ fin)
    | 34, _ => exact zl_in (off := 1189) (tgt := 1222) X hsw (by decide) (by decide) rfl (by decide) (zl_case X V hd hce hsl hL lwc_34 lwl_D_ring lwl_M_ring rfl rfl h0 hi (LC_ring) hk hJ fin)
    | 35, _ => exact zl_in (off := 1212) (tgt := 1245) X hsw (by decide) (by decide) rfl (by decide) (zl_case X V hd hce hsl hL lwc_35 lwl_D_cleared lwl_M_cleared rfl rfl h0 hi (LC_cleared) hk hJ fin)
    | 36, _ => exact zl_in (off := 1235) (tgt := 1268) X hsw (by decide) (by decide) rfl (by decide) (zl_case X V hd hce hsl hL lwc_36 lwl_D_balance lwl_M_balance rfl rfl h0 hi (LC_balance) hk hJ fin)
    | 37, _ => exact zl_in (off := 1258) (tgt := 1291) X hsw (by decide) (by decide) rfl (by decide) (zl_case X V hd hce hsl hL lwc_37 lwl_D_payments lwl_M_payments rfl rfl h0 hi (LC_payments) hk hJ fin)
    | 38, _ => exact zl_in (off := 1271) (tgt := 1304) X hsw (by decide) (by decide) rfl (by decide) (zl_case X V hd hce hsl hL lwc_38 lwl_D_scuff lwl_M_scuff rfl rfl h0 hi (LC_scuff) hk hJ fin)
    | 39, _ => exact zl_in (off := 1324) (tgt := 1357) X hsw (by decide) (by decide) rfl (by decide) (zl_case X V hd hce hsl hL lwc_39 lwl_D_sweep lwl_M_sweep rfl rfl h0 hi (LC_sweep) hk hJ fin)
    | 40, _ => exact zl_in (off := 1337) (tgt := 1370) X hsw (by decide) (by decide) rfl (by decide) (zl_case X V hd hce hsl hL lwc_40 lwl_D_secret lwl_M_secret rfl rfl h0 hi (LC_secret) hk hJ fin)
    | 41, _ => exact zl_in (off := 1360) (tgt := 1393) X hsw (by decide) (by decide) rfl (by decide) (zl_case X V hd hce hsl hL lwc_41 lwl_D_denied lwl_M_denied rfl rfl h0 hi (LC_denied) hk hJ fin)
    | 42, _ => exact zl_in (off := 1373) (tgt := 1406) X hsw (by decide) (by decide) rfl (by decide) (zl_case X V hd hce hsl hL lwc_42 lwl_D_month lwl_M_month rfl rfl h0 hi (LC_month) hk hJ fin)
    | 43, _ => exact zl_in (off := 1406) (tgt := 1439) X hsw (by decide) (by decide) rfl (by decide) (zl_case X V hd hce hsl hL lwc_43 lwl_D_drawn lwl_M_drawn rfl rfl h0 hi (LC_drawn) hk hJ fin)
    | 44, _ => exact zl_in (off := 1439) (tgt := 1472) X hsw (by decide) (by decide) rfl (by decide) (zl_case X V hd hce hsl hL lwc_44 lwl_D_image lwl_M_image rfl rfl h0 hi (LC_image) hk hJ fin)
    | 45, _ => exact zl_in (off := 1462) (tgt := 1495) X hsw (by decide) (by decide) rfl (by decide) (zl_case X V hd hce hsl hL lwc_45 lwl_D_back lwl_M_back rfl rfl h0 hi (LC_back) hk hJ fin)
    | 46, _ => exact zl_in (off := 1485) (tgt := 1518) X hsw (by decide) (by decide) rfl (by decide) (zl_case X V hd hce hsl hL lwc_46 lwl_D_count lwl_M_count rfl rfl h0 hi (LC_count) hk hJ fin)
    | 47, _ => exact zl_in (off := 1508) (tgt := 1541) X hsw (by decide) (by decide) rfl (by decide) (zl_case X V hd hce hsl hL lwc_47 lwl_D_status lwl_M_status rfl rfl h0 hi (LC_status) hk hJ fin)
    | k + 48, h => exact absurd h (by omega)
  · exact zl_out (tgt := 1554) X hsw (by omega) (by decide) fin0

