set_option maxHeartbeats 4000000 in
set_option maxRecDepth 100000 in
theorem law_loop {p : Program} {l : Launch} {e : Env} {s : State} {m : MethodId} {below : List Frame} {meth : Method} {c : Code} {D : va_G} {cI cB cK cS : ClassId} {b L : Nat} {xs : Nat → Int32} {t ks kb : Nat → Nat} (hL : L ≤ 3072) (C0 : lw_At p s m meth c b L xs) (hK : va_K D vwCl (tyX cI cB cK cS) s) (hF : pFs t ks kb (fun q : Nat => s.heap.size ≤ q) s) : ∀ d k9 : Nat, L + 6 ≤ 6 * k9 + d → 6 * k9 ≤ L + 5 → ∀ {B S U Q V K Z Z2 Z3 Y : Nat → Nat} {f : Nat → Int32} {kv : Nat → Nat → Int32} {mv : Nat → Int32} {f2 : Nat → Int32} {kv2 : Nat → Nat → Int32} {mv2 : Nat → Int32} {f3 : Nat → Int32} {kv3 : Nat → Nat → Int32} {mv3 : Nat → Int32} {t_len : Int32} {t_end : Int32} {t_met : Nat → Int32} {p_len : Int32} {p_bytes : Nat → Int32} {d_place : Int32} {d_token : Int32} {d_value : Int32} {d_start : Int32} {d_fault : Int32} {d_num : Nat → Int32} {a_cnt : Int32} {a_way : Int32} {a_num : Int32} {a_many : Int32} {a_place : Int32} {a_print : Int32} {a_trace : Nat → Int32} {sv : Nat → Nat → Int32} {si : Nat → Nat → Int32} {g_landed : Int32} {g_fault : Int32} {g_find : Int32} {m_thrown : Int32} {m_status : Int32} {m_isThere : Int32} {m_kinds : Int32} {m_newKinds : Int32} {m_print : Int32} {m_low : Int32} {m_high : Int32} {m_lot : Int32} {m_taped : Int32} {m_latest : Int32} {m_length : Int32} {m_cursor : Int32} {m_token : Int32} {m_from : Int32} {m_till : Int32} {m_fault : Int32} {m_faultAt : Int32} {m_traced : Int32} {r_lane : Nat → Int32} {r_many : Nat → Int32} {r_item : Nat → Int32} {r_market : Nat → Int32} {r_of : Nat → Int32} {r_newMarket : Nat → Int32} {r_newStart : Nat → Int32} {r_newOf : Nat → Int32} {r_newCoin : Nat → Int32} {r_state : Nat → Int32} {r_kept : Nat → Int32} {r_tape : Nat → Int32} {r_brings : Nat → Int32} {r_seen : Nat → Int32} {r_seenOut : Nat → Int32} {r_trace : Nat → Int32} {H : Heap} {locs : List Loc} {ls : Array Slot}, va_P D vwCl (landW Z cK f kv mv ++ (landW Z2 cK f2 kv2 mv2 ++ (landW Z3 cK f3 kv3 mv3 ++ (trW V Z cI t_len t_end t_met ++ (tpW U cB p_len p_bytes ++ (rdW Q U cI d_place d_token d_value d_start d_fault d_num ++ (akW K cI a_cnt a_way a_num a_many a_place a_print a_trace ++ (shW S cI cS sv si ++ (pigW B S U Q V K Z2 Z3 g_landed g_fault g_find ++ (mdW Y cI m_thrown m_status m_isThere m_kinds m_newKinds m_print m_low m_high m_lot m_taped m_latest m_length m_cursor m_token m_from m_till m_fault m_faultAt m_traced r_lane r_many r_item r_market r_of r_newMarket r_newStart r_newOf r_newCoin r_state r_kept r_tape r_brings r_seen r_seenOut r_trace ++ [])))))))))) H → va_D (fun q : Nat => s.heap.size ≤ q) (landW Z cK f kv mv ++ (landW Z2 cK f2 kv2 mv2 ++ (landW Z3 cK f3 kv3 mv3 ++ (trW V Z cI t_len t_end t_met ++ (tpW U cB p_len p_bytes ++ (rdW Q U cI d_place d_token d_value d_start d_fault d_num ++ (akW K cI a_cnt a_way a_num a_many a_place a_print a_trace ++ (shW S cI cS sv si ++ (pigW B S U Q V K Z2 Z3 g_landed g_fault g_find ++ (mdW Y cI m_thrown m_status m_isThere m_kinds m_newKinds m_print m_low m_high m_lot m_taped m_latest m_length m_cursor m_token m_from m_till m_fault m_faultAt m_traced r_lane r_many r_item r_market r_of r_newMarket r_newStart r_newOf r_newCoin r_state r_kept r_tape r_brings r_seen r_seenOut r_trace ++ [])))))))))) → va_S (fun q : Nat => s.heap.size ≤ q) s.heap H locs → lv_has ls 4 [(0, .ref b), (1, .ref (B 0)), (2, .ref (Y 0)), (3, .int (nI (6 * k9)))] → INV k9 f2 kv2 mv2 kv3 sv si p_len p_bytes a_cnt a_trace g_landed g_fault g_find m_status m_isThere m_kinds m_print m_low m_high m_lot m_taped m_latest m_cursor m_from m_till m_traced r_lane r_many r_item r_market r_of r_state r_tape r_trace → W p l e room_1 s m #[Value.ref b] below meth c H locs 67 2415 (lw_Z below #[Value.ref b] s) (F0 m 18 ls []) := by
  obtain ⟨hx, hb, hr, hml, hown, hts, hX, hbl, hlocks, hgv⟩ := id C0
  have hbA : ¬ (fun q : Nat => s.heap.size ≤ q) b := Nat.not_le.mpr hbl
  have hsub : (Int32.ofNat L - 6).toInt = (L : Int) - 6 := by
    rw [Int32.toInt_sub, show (Int32.ofNat L).toInt = (L : Int) from pu_toInt (by omega), show (6 : Int32).toInt = 6 from rfl]
    exact Int.bmod_eq_of_le (by omega) (by omega)
  intro d
  induction d with
  | zero => intro k9 h1 h2; exact absurd h1 (by omega)
  | succ d ih =>
    intro k9 h1 h2 B S U Q V K Z Z2 Z3 Y f kv mv f2 kv2 mv2 f3 kv3 mv3 t_len t_end t_met p_len p_bytes d_place d_token d_value d_start d_fault d_num a_cnt a_way a_num a_many a_place a_print a_trace sv si g_landed g_fault g_find m_thrown m_status m_isThere m_kinds m_newKinds m_print m_low m_high m_lot m_taped m_latest m_length m_cursor m_token m_from m_till m_fault m_faultAt m_traced r_lane r_many r_item r_market r_of r_newMarket r_newStart r_newOf r_newCoin r_state r_kept r_tape r_brings r_seen r_seenOut r_trace H locs ls hP hD hS hl hinv
    refine lv_iload_n hx hb dL_law_18 rfl (lv_at hl 3 rfl) ?_
    refine lv_aload_n hx hb dL_law_19 rfl (lv_at hl 0 rfl) ?_
    refine va_slen hx hb hX hbl hbA hS dL_law_20 ?_
    refine lv_bipush (v := 6) hx hb dL_law_21 (by decide) ?_
    refine lv_isub hx hb dL_law_23 ?_
    refine lv_icmp_gt (tgt := 889) hx hb dL_law_24 (by decide) (fun _ => ?_) (fun cg => ?_)
    · refine lv_iconst (v := 1) hx hb dL_law_889 (by decide) ?_
      refine va_forget (fun q hq => hS.2.2 q hq) ?_
      refine W.widen (k := 600000) (n := 7302249) (by omega) (by omega) ?_
      exact lw_ret hx hb hr hlocks dL_law_890
    have hk9 : 6 * k9 + 6 ≤ L := by
      rw [Int32.lt_iff_toInt_lt, hsub, pu_toInt (by omega)] at cg
      omega
    have kont : lawK p l e s m below meth c D cI cB cK cS b k9 := by
      intro B S U Q V K Z Z2 Z3 Y f kv mv f2 kv2 mv2 f3 kv3 mv3 t_len t_end t_met p_len p_bytes d_place d_token d_value d_start d_fault d_num a_cnt a_way a_num a_many a_place a_print a_trace sv si g_landed g_fault g_find m_thrown m_status m_isThere m_kinds m_newKinds m_print m_low m_high m_lot m_taped m_latest m_length m_cursor m_token m_from m_till m_fault m_faultAt m_traced r_lane r_many r_item r_market r_of r_newMarket r_newStart r_newOf r_newCoin r_state r_kept r_tape r_brings r_seen r_seenOut r_trace H locs ls hP hD hS hl hinv
      refine lv_iinc (v := nI (6 * (k9 + 1))) (lv' := [(3, .int (nI (6 * (k9 + 1)))), (0, .ref b), (1, .ref (B 0)), (2, .ref (Y 0))]) hx hb dL_law_883 hl (k := 3) rfl (by rw [show Int32.ofInt 6 = nI 6 from rfl, pu_add]; rfl) (by decide) rfl (fun ls hl => ?_)
      refine lv_goto (tgt := 18) hx hb dL_law_886 (by decide) ?_
      exact ih (k9 + 1) (by omega) (by omega) hP hD hS (lv_sub hl [1, 2, 3, 0] rfl) hinv
    refine lv_aload_n hx hb dL_law_27 rfl (lv_at hl 0 rfl) ?_
    refine lv_iload_n hx hb dL_law_28 rfl (lv_at hl 3 rfl) ?_
    refine va_sld hx hb hX hbl hbA hS (vp_in_nI (by omega) (by omega)) dL_law_29 ?_
    refine lv_bipush (v := 31) hx hb dL_law_30 (by decide) ?_
    refine lv_iand hx hb dL_law_32 ?_
    generalize xs (nI (6 * k9)).toNatClampNeg &&& 31 = x9
    by_cases q0 : x9.toInt = 0
    · refine lv_tableIn (tgt := 148) hx hb dL_law_33 (by rw [q0]; decide) (by rw [q0]; decide) (by rw [q0]; rfl) (by decide) ?_
      exact law_sheet hL C0 hK hF hk9 kont hP hD hS hl hinv
    by_cases q1 : x9.toInt = 1
    · refine lv_tableIn (tgt := 191) hx hb dL_law_33 (by rw [q1]; decide) (by rw [q1]; decide) (by rw [q1]; rfl) (by decide) ?_
      exact law_set hL C0 hK hF hk9 kont hP hD hS hl hinv
    by_cases q2 : x9.toInt = 2
    · refine lv_tableIn (tgt := 234) hx hb dL_law_33 (by rw [q2]; decide) (by rw [q2]; decide) (by rw [q2]; rfl) (by decide) ?_
      exact law_copy hL C0 hK hF hk9 kont hP hD hS hl hinv
    by_cases q3 : x9.toInt = 3
    · refine lv_tableIn (tgt := 297) hx hb dL_law_33 (by rw [q3]; decide) (by rw [q3]; decide) (by rw [q3]; rfl) (by decide) ?_
      exact law_drop hL C0 hK hF hk9 kont hP hD hS hl hinv
    by_cases q4 : x9.toInt = 4
    · refine lv_tableIn (tgt := 320) hx hb dL_law_33 (by rw [q4]; decide) (by rw [q4]; decide) (by rw [q4]; rfl) (by decide) ?_
      exact law_feed hL C0 hK hF hk9 kont hP hD hS hl hinv
    by_cases q5 : x9.toInt = 5
    · refine lv_tableIn (tgt := 383) hx hb dL_law_33 (by rw [q5]; decide) (by rw [q5]; decide) (by rw [q5]; rfl) (by decide) ?_
      exact law_land hL C0 hK hF hk9 kont hP hD hS hl hinv
    by_cases q6 : x9.toInt = 6
    · refine lv_tableIn (tgt := 396) hx hb dL_law_33 (by rw [q6]; decide) (by rw [q6]; decide) (by rw [q6]; rfl) (by decide) ?_
      exact law_fault hL C0 hK hF hk9 kont hP hD hS hl hinv
    by_cases q7 : x9.toInt = 7
    · refine lv_tableIn (tgt := 409) hx hb dL_law_33 (by rw [q7]; decide) (by rw [q7]; decide) (by rw [q7]; rfl) (by decide) ?_
      exact law_farmers hL C0 hK hF hk9 kont hP hD hS hl hinv
    by_cases q8 : x9.toInt = 8
    · refine lv_tableIn (tgt := 442) hx hb dL_law_33 (by rw [q8]; decide) (by rw [q8]; decide) (by rw [q8]; rfl) (by decide) ?_
      exact law_print hL C0 hK hF hk9 kont hP hD hS hl hinv
    by_cases q9 : x9.toInt = 9
    · refine lv_tableIn (tgt := 465) hx hb dL_law_33 (by rw [q9]; decide) (by rw [q9]; decide) (by rw [q9]; rfl) (by decide) ?_
      exact law_ministry hL C0 hK hF hk9 kont hP hD hS hl hinv
    by_cases q10 : x9.toInt = 10
    · refine lv_tableIn (tgt := 508) hx hb dL_law_33 (by rw [q10]; decide) (by rw [q10]; decide) (by rw [q10]; rfl) (by decide) ?_
      exact law_years hL C0 hK hF hk9 kont hP hD hS hl hinv
    by_cases q11 : x9.toInt = 11
    · refine lv_tableIn (tgt := 531) hx hb dL_law_33 (by rw [q11]; decide) (by rw [q11]; decide) (by rw [q11]; rfl) (by decide) ?_
      exact law_now hL C0 hK hF hk9 kont hP hD hS hl hinv
    by_cases q12 : x9.toInt = 12
    · refine lv_tableIn (tgt := 554) hx hb dL_law_33 (by rw [q12]; decide) (by rw [q12]; decide) (by rw [q12]; rfl) (by decide) ?_
      exact law_dies hL C0 hK hF hk9 kont hP hD hS hl hinv
    by_cases q13 : x9.toInt = 13
    · refine lv_tableIn (tgt := 567) hx hb dL_law_33 (by rw [q13]; decide) (by rw [q13]; decide) (by rw [q13]; rfl) (by decide) ?_
      exact law_steep hL C0 hK hF hk9 kont hP hD hS hl hinv
    by_cases q14 : x9.toInt = 14
    · refine lv_tableIn (tgt := 580) hx hb dL_law_33 (by rw [q14]; decide) (by rw [q14]; decide) (by rw [q14]; rfl) (by decide) ?_
      exact law_round hL C0 hK hF hk9 kont hP hD hS hl hinv
    by_cases q15 : x9.toInt = 15
    · refine lv_tableIn (tgt := 603) hx hb dL_law_33 (by rw [q15]; decide) (by rw [q15]; decide) (by rw [q15]; rfl) (by decide) ?_
      exact law_bears hL C0 hK hF hk9 kont hP hD hS hl hinv
    by_cases q16 : x9.toInt = 16
    · refine lv_tableIn (tgt := 636) hx hb dL_law_33 (by rw [q16]; decide) (by rw [q16]; decide) (by rw [q16]; rfl) (by decide) ?_
      exact law_prints hL C0 hK hF hk9 kont hP hD hS hl hinv
    by_cases q17 : x9.toInt = 17
    · refine lv_tableIn (tgt := 659) hx hb dL_law_33 (by rw [q17]; decide) (by rw [q17]; decide) (by rw [q17]; rfl) (by decide) ?_
      exact law_calm hL C0 hK hF hk9 kont hP hD hS hl hinv
    by_cases q18 : x9.toInt = 18
    · refine lv_tableIn (tgt := 692) hx hb dL_law_33 (by rw [q18]; decide) (by rw [q18]; decide) (by rw [q18]; rfl) (by decide) ?_
      exact law_shown hL C0 hK hF hk9 kont hP hD hS hl hinv
    by_cases q19 : x9.toInt = 19
    · refine lv_tableIn (tgt := 735) hx hb dL_law_33 (by rw [q19]; decide) (by rw [q19]; decide) (by rw [q19]; rfl) (by decide) ?_
      exact law_kind hL C0 hK hF hk9 kont hP hD hS hl hinv
    by_cases q20 : x9.toInt = 20
    · refine lv_tableIn (tgt := 758) hx hb dL_law_33 (by rw [q20]; decide) (by rw [q20]; decide) (by rw [q20]; rfl) (by decide) ?_
      exact law_as hL C0 hK hF hk9 kont hP hD hS hl hinv
    by_cases q21 : x9.toInt = 21
    · refine lv_tableIn (tgt := 791) hx hb dL_law_33 (by rw [q21]; decide) (by rw [q21]; decide) (by rw [q21]; rfl) (by decide) ?_
      exact law_ask hL C0 hK hF hk9 kont hP hD hS hl hinv
    by_cases q22 : x9.toInt = 22
    · refine lv_tableIn (tgt := 824) hx hb dL_law_33 (by rw [q22]; decide) (by rw [q22]; decide) (by rw [q22]; rfl) (by decide) ?_
      exact law_trace hL C0 hK hF hk9 kont hP hD hS hl hinv
    by_cases q23 : x9.toInt = 23
    · refine lv_tableIn (tgt := 847) hx hb dL_law_33 (by rw [q23]; decide) (by rw [q23]; decide) (by rw [q23]; rfl) (by decide) ?_
      exact law_count hL C0 hK hF hk9 kont hP hD hS hl hinv
    by_cases q24 : x9.toInt = 24
    · refine lv_tableIn (tgt := 870) hx hb dL_law_33 (by rw [q24]; decide) (by rw [q24]; decide) (by rw [q24]; rfl) (by decide) ?_
      exact law_status hL C0 hK hF hk9 kont hP hD hS hl hinv
    refine lv_tableOut (tgt := 883) hx hb dL_law_33 (by omega) (by decide) ?_
    obtain ⟨⟨Yy, hYy, hLI⟩, hrest⟩ := hinv
    exact kont hP hD hS hl ⟨⟨Yy, by omega, hLI⟩, hrest⟩
