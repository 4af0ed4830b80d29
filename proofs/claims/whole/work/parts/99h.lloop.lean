/-! THE LAW'S LOOP -/
theorem sub7 {n i : Nat} (hn : n ≤ 3584) (hi : i ≤ 4000) (h : ¬ nI n - nI 7 < nI i) : i + 7 ≤ n := by
  by_cases h7 : 7 ≤ n
  · have e : nI n - nI 7 = nI (n - 7) := by
      have e1 : nI n = nI (n - 7) + nI 7 := by rw [nI_add]; congr 1; omega
      rw [e1]
      exact Int32.add_sub_cancel _ _
    rw [e, nI_ltI (by omega) (by omega)] at h
    omega
  · exfalso
    apply h
    have h0 : (0 : Int32) ≤ nI i := (nI_leI (a := 0) (by omega) (by omega)).mpr (Nat.zero_le _)
    have h1 : nI n - nI 7 < 0 := by
      rcases (by omega : n = 0 ∨ n = 1 ∨ n = 2 ∨ n = 3 ∨ n = 4 ∨ n = 5 ∨ n = 6) with rfl | rfl | rfl | rfl | rfl | rfl | rfl <;> decide +kernel
    exact Int32.lt_of_lt_of_le h1 h0
section LLoop
variable {G : GG} {p : Program} {l : Launch} {e : Env} {s : State} {m : MethodId} {args : Array Value} {below : List Frame} {meth : Method} {c : Code} {Q : State → Prop} {x : XS} {a : AS} {w : Int64} {nc ns n i : Nat} {xs : Nat → Int32}
set_option maxRecDepth 20000 in
theorem d_sw : decode code 40 = .ok (.tableswitch 2555 0 37 #[168, 241, 297, 365, 421, 477, 490, 503, 559, 627, 683, 739, 843, 899, 962, 1018, 1074, 1130, 1198, 1254, 1334, 1402, 1506, 1610, 1702, 1770, 1838, 1894, 1962, 2053, 2121, 2177, 2257, 2361, 2479, 2492, 2505, 2530], 168) := by decide +kernel
set_option maxHeartbeats 8000000 in
set_option maxRecDepth 20000 in
theorem law_sw (C : CL mLaw [] G p l s m args meth c) (S : SX G s n xs) (hi : i + 7 ≤ n) (hC : RC x a) (hR : RRf x a) (hA : AI a) (hb : nc + 1 ≤ 601024 ∧ ns + 6 ≤ 7293034) (k : KN G p l e s m args below meth c Q i nc ns) : PL mLaw G p l e room_1 s m args below meth c Q 40 (LI i) [.int (xs i &&& nI 63)] x w nc ns := by
  obtain ⟨j, hj, e9⟩ := pk_andE (xs i) (m := nI 63) 6 (by decide +kernel)
  have e9 : xs i &&& nI 63 = nI j := e9
  rw [e9]
  by_cases h38 : 38 ≤ j
  · refine l_tableOut (tgt := 2595) C d_sw (Or.inr ?_) (by decide) ?_
    · show (37 : Int) < (nI j).toInt
      rw [nI_toInt (by omega)]
      omega
    · exact PL.widen (Nat.le_succ _) (by omega) (k x w a hC hR hA)
  · rcases (by omega : j = 0 ∨ j = 1 ∨ j = 2 ∨ j = 3 ∨ j = 4 ∨ j = 5 ∨ j = 6 ∨ j = 7 ∨ j = 8 ∨ j = 9 ∨ j = 10 ∨ j = 11 ∨ j = 12 ∨ j = 13 ∨ j = 14 ∨ j = 15 ∨ j = 16 ∨ j = 17 ∨ j = 18 ∨ j = 19 ∨ j = 20 ∨ j = 21 ∨ j = 22 ∨ j = 23 ∨ j = 24 ∨ j = 25 ∨ j = 26 ∨ j = 27 ∨ j = 28 ∨ j = 29 ∨ j = 30 ∨ j = 31 ∨ j = 32 ∨ j = 33 ∨ j = 34 ∨ j = 35 ∨ j = 36 ∨ j = 37) with rfl | rfl | rfl | rfl | rfl | rfl | rfl | rfl | rfl | rfl | rfl | rfl | rfl | rfl | rfl | rfl | rfl | rfl | rfl | rfl | rfl | rfl | rfl | rfl | rfl | rfl | rfl | rfl | rfl | rfl | rfl | rfl | rfl | rfl | rfl | rfl | rfl | rfl
    · exact l_tableIn (off := 168) (tgt := 208) C d_sw (by decide +kernel) (by decide +kernel) (by decide +kernel) (by decide) (s_feed C S hi hC hR hA hb k)
    · exact l_tableIn (off := 241) (tgt := 281) C d_sw (by decide +kernel) (by decide +kernel) (by decide +kernel) (by decide) (s_house C S hi hC hR hA hb k)
    · exact l_tableIn (off := 297) (tgt := 337) C d_sw (by decide +kernel) (by decide +kernel) (by decide +kernel) (by decide) (s_law C S hi hC hR hA hb k)
    · exact l_tableIn (off := 365) (tgt := 405) C d_sw (by decide +kernel) (by decide +kernel) (by decide +kernel) (by decide) (s_work C S hi hC hR hA hb k)
    · exact l_tableIn (off := 421) (tgt := 461) C d_sw (by decide +kernel) (by decide +kernel) (by decide +kernel) (by decide) (s_book C S hi hC hR hA hb k)
    · exact l_tableIn (off := 477) (tgt := 517) C d_sw (by decide +kernel) (by decide +kernel) (by decide +kernel) (by decide) (s_fault C S hi hC hR hA hb k)
    · exact l_tableIn (off := 490) (tgt := 530) C d_sw (by decide +kernel) (by decide +kernel) (by decide +kernel) (by decide) (s_undo C S hi hC hR hA hb k)
    · exact l_tableIn (off := 503) (tgt := 543) C d_sw (by decide +kernel) (by decide +kernel) (by decide +kernel) (by decide) (s_told C S hi hC hR hA hb k)
    · exact l_tableIn (off := 559) (tgt := 599) C d_sw (by decide +kernel) (by decide +kernel) (by decide +kernel) (by decide) (s_sleeper C S hi hC hR hA hb k)
    · exact l_tableIn (off := 627) (tgt := 667) C d_sw (by decide +kernel) (by decide +kernel) (by decide +kernel) (by decide) (s_noise C S hi hC hR hA hb k)
    · exact l_tableIn (off := 683) (tgt := 723) C d_sw (by decide +kernel) (by decide +kernel) (by decide +kernel) (by decide) (s_loud C S hi hC hR hA hb k)
    · exact l_tableIn (off := 739) (tgt := 779) C d_sw (by decide +kernel) (by decide +kernel) (by decide +kernel) (by decide) (s_would C S hi hC hR hA hb k)
    · exact l_tableIn (off := 843) (tgt := 883) C d_sw (by decide +kernel) (by decide +kernel) (by decide +kernel) (by decide) (s_clock C S hi hC hR hA hb k)
    · exact l_tableIn (off := 899) (tgt := 939) C d_sw (by decide +kernel) (by decide +kernel) (by decide +kernel) (by decide) (s_changes C S hi hC hR hA hb k)
    · exact l_tableIn (off := 962) (tgt := 1002) C d_sw (by decide +kernel) (by decide +kernel) (by decide +kernel) (by decide) (s_loudest C S hi hC hR hA hb k)
    · exact l_tableIn (off := 1018) (tgt := 1058) C d_sw (by decide +kernel) (by decide +kernel) (by decide +kernel) (by decide) (s_soon C S hi hC hR hA hb k)
    · exact l_tableIn (off := 1074) (tgt := 1114) C d_sw (by decide +kernel) (by decide +kernel) (by decide +kernel) (by decide) (s_slept C S hi hC hR hA hb k)
    · exact l_tableIn (off := 1130) (tgt := 1170) C d_sw (by decide +kernel) (by decide +kernel) (by decide +kernel) (by decide) (s_sleeps C S hi hC hR hA hb k)
    · exact l_tableIn (off := 1198) (tgt := 1238) C d_sw (by decide +kernel) (by decide +kernel) (by decide +kernel) (by decide) (s_most C S hi hC hR hA hb k)
    · exact l_tableIn (off := 1254) (tgt := 1294) C d_sw (by decide +kernel) (by decide +kernel) (by decide +kernel) (by decide) (s_head C S hi hC hR hA hb k)
    · exact l_tableIn (off := 1334) (tgt := 1374) C d_sw (by decide +kernel) (by decide +kernel) (by decide +kernel) (by decide) (s_best C S hi hC hR hA hb k)
    · exact l_tableIn (off := 1402) (tgt := 1442) C d_sw (by decide +kernel) (by decide +kernel) (by decide +kernel) (by decide) (s_hurry C S hi hC hR hA hb k)
    · exact l_tableIn (off := 1506) (tgt := 1546) C d_sw (by decide +kernel) (by decide +kernel) (by decide +kernel) (by decide) (s_reads C S hi hC hR hA hb k)
    · exact l_tableIn (off := 1610) (tgt := 1650) C d_sw (by decide +kernel) (by decide +kernel) (by decide +kernel) (by decide) (s_nudges C S hi hC hR hA hb k)
    · exact l_tableIn (off := 1702) (tgt := 1742) C d_sw (by decide +kernel) (by decide +kernel) (by decide +kernel) (by decide) (s_rooms C S hi hC hR hA hb k)
    · exact l_tableIn (off := 1770) (tgt := 1810) C d_sw (by decide +kernel) (by decide +kernel) (by decide +kernel) (by decide) (s_inTurns C S hi hC hR hA hb k)
    · exact l_tableIn (off := 1838) (tgt := 1878) C d_sw (by decide +kernel) (by decide +kernel) (by decide +kernel) (by decide) (s_fits C S hi hC hR hA hb k)
    · exact l_tableIn (off := 1894) (tgt := 1934) C d_sw (by decide +kernel) (by decide +kernel) (by decide +kernel) (by decide) (s_listen C S hi hC hR hA hb k)
    · exact l_tableIn (off := 1962) (tgt := 2002) C d_sw (by decide +kernel) (by decide +kernel) (by decide +kernel) (by decide) (s_pauses C S hi hC hR hA hb k)
    · exact l_tableIn (off := 2053) (tgt := 2093) C d_sw (by decide +kernel) (by decide +kernel) (by decide +kernel) (by decide) (s_doctor C S hi hC hR hA hb k)
    · exact l_tableIn (off := 2121) (tgt := 2161) C d_sw (by decide +kernel) (by decide +kernel) (by decide +kernel) (by decide) (s_wall C S hi hC hR hA hb k)
    · exact l_tableIn (off := 2177) (tgt := 2217) C d_sw (by decide +kernel) (by decide +kernel) (by decide +kernel) (by decide) (s_plugs C S hi hC hR hA hb k)
    · exact l_tableIn (off := 2257) (tgt := 2297) C d_sw (by decide +kernel) (by decide +kernel) (by decide +kernel) (by decide) (s_nights C S hi hC hR hA hb k)
    · exact l_tableIn (off := 2361) (tgt := 2401) C d_sw (by decide +kernel) (by decide +kernel) (by decide +kernel) (by decide) (s_span C S hi hC hR hA hb k)
    · exact l_tableIn (off := 2479) (tgt := 2519) C d_sw (by decide +kernel) (by decide +kernel) (by decide +kernel) (by decide) (s_image C S hi hC hR hA hb k)
    · exact l_tableIn (off := 2492) (tgt := 2532) C d_sw (by decide +kernel) (by decide +kernel) (by decide +kernel) (by decide) (s_restore C S hi hC hR hA hb k)
    · exact l_tableIn (off := 2505) (tgt := 2545) C d_sw (by decide +kernel) (by decide +kernel) (by decide +kernel) (by decide) (s_status C S hi hC hR hA hb k)
    · exact l_tableIn (off := 2530) (tgt := 2570) C d_sw (by decide +kernel) (by decide +kernel) (by decide +kernel) (by decide) (s_count C S hi hC hR hA hb k)
set_option maxHeartbeats 8000000 in
set_option maxRecDepth 20000 in
theorem law_loop (C : CL mLaw [] G p l s m args meth c) (S : SX G s n xs) (hend : ∀ (i nc ns : Nat) (x : XS) (w : Int64), nc ≤ 601024 → ns ≤ 7293034 → PL mLaw G p l e room_1 s m args below meth c Q 2601 (LI i) [] x w nc ns) : ∀ (t i nc ns : Nat) (x : XS) (w : Int64) (a : AS), n < i + t → i ≤ 4000 → nc ≤ 200 + i → ns ≤ 12000 + i → RC x a → RRf x a → AI a → PL mLaw G p l e room_1 s m args below meth c Q 23 (LI i) [] x w nc ns
  | t, i, nc, ns, x, w, a, ht, h4, hnc, hns, hC, hR, hA => by
    have hn := S.2.2.2
    refine l_iload (i := 4) C (by decide +kernel) rfl ?_
    refine l_aload_n (k9 := 0) C (by decide +kernel) rfl rfl ?_
    refine l_slen C S (by decide +kernel) ?_
    refine l_bipush (n := 7) (v := nI 7) C (by decide +kernel) rfl ?_
    refine l_isub C (by decide +kernel) ?_
    refine l_icmp_gt (off := 2571) (tgt := 2601) C (by decide +kernel) (by decide) (fun _ => hend i nc ns x w (by omega) (by omega)) (fun hg => ?_)
    have h7 := sub7 hn h4 hg
    refine l_aload_n (k9 := 0) C (by decide +kernel) rfl rfl ?_
    refine l_iload (i := 4) C (by decide +kernel) rfl ?_
    refine l_sld C S (by decide +kernel) (vp_in_nI (by omega) (by omega)) ?_
    rw [nI_clamp (by omega)]
    refine l_bipush (n := 63) (v := nI 63) C (by decide +kernel) rfl ?_
    refine l_iand C (by decide +kernel) ?_
    refine law_sw C S h7 hC hR hA ⟨by omega, by omega⟩ (fun y w' a' hC' hR' hA' => ?_)
    refine l_iinc (i := 4) (n := 7) (v' := nI (i + 7)) C (by decide +kernel) rfl (nI_add i 7) (by decide) ?_
    refine l_goto (off := -2575) (tgt := 23) C (by decide +kernel) (by decide) ?_
    match t, ht with
    | 0, ht => omega
    | t + 1, ht => exact PL.loc (L' := LI (i + 7)) ⟨rfl, rfl, rfl, rfl, rfl, trivial⟩ (law_loop C S hend t (i + 7) (nc + 1) (ns + 6) y w' a' (by omega) (by omega) (by omega) (by omega) hC' hR' hA')
end LLoop
