/-! the law's loop, its start, the claim -/
theorem sub4T {L : Nat} (h : L < 2 ^ 31) : (nI L - 4).toInt = (L : Int) - 4 := by
  by_cases h4 : 4 ≤ L
  · rw [show nI L - 4 = nI (L - 4) from pk_sub (b := 4) h4, nI_toInt (by omega)]; omega
  · rcases (show L = 0 ∨ L = 1 ∨ L = 2 ∨ L = 3 by omega) with rfl | rfl | rfl | rfl <;> rfl
theorem and31 (v : Int32) : ∃ j : Nat, j < 32 ∧ v &&& 31 = nI j := by
  obtain ⟨j, hj, h⟩ := pk_andE v (m := 31) 5 (by decide)
  exact ⟨j, by omega, h⟩
set_option maxHeartbeats 8000000 in
set_option maxRecDepth 100000 in
theorem law_loop {p : Program} {e : Env} {s : State} {m : MethodId} {below : List Frame} {meth : Method} {c : Code} {b L : Nat} {xs : Nat → Int32} (C0 : lw_At p s m meth c b L xs) (hL : L ≤ 2051) (l : Launch) (hst : l.stackTraces = false) (D : va_G) (tw : Nat) (sa : Nat → Nat) (x sw e00 e01 sr e10 e11 br ra bq qa y ms mw mu mc mn mr mq md bi ne li sp q fs oo : Nat) (cB cI cL : ClassId) (hE : EV (fun q => s.heap.size ≤ q) tw s) (hEX : EX (fun q => s.heap.size ≤ q) sa s) (hEC : EC s) (hK : va_K D CLS [(cL, .long), (cB, .byte), (cI, .int)] s) (hdis : ∀ q, q ∈ [y, ms, mw, mu, mc, mn, mr, mq, md] → ¬ q ∈ [oo, x, sw, e00, e01, sr, e10, e11, br, ra, bq, qa]) (hAX : ∀ q, q ∈ [oo, x, sw, e00, e01, sr, e10, e11, br, ra, bq, qa] → s.heap.size ≤ q) (hAM : ∀ q, q ∈ [y, ms, mw, mu, mc, mn, mr, mq, md] → s.heap.size ≤ q) : ∀ (d i : Nat), L < 3 + 4 * i + 4 * d → i ≤ 512 → ∀ (fo : Nat → Int64) (lb : Int32) (pl0 rw0 pl1 rw1 s0 c0 n0 s1 c1 n1 s2 c2 n2 s3 c3 n3 u fi h : Nat) (f g : Nat → Int32) (th la at0 lk : Int32) (st lw su cu nu wr wq dr : Nat → Int32) (hR : REL li sp q fs lb pl0 rw0 pl1 rw1 s0 c0 n0 s1 c1 n1 s2 c2 n2 s3 c3 n3 u fi h f g st lw su cu nu wr wq) (hDX : va_D (fun _ => True) ((oo, .inl (cL, 1, .inr (.inl fo))) :: CWd x sw e00 e01 sr e10 e11 br ra bq qa cB bi ne li sp q fs lb pl0 rw0 pl1 rw1 s0 c0 n0 s1 c1 n1 s2 c2 n2 s3 c3 n3 u fi h f g)) (hDM : va_D (fun _ => True) (MWd y ms mw mu mc mn mr mq md cI cB bi ne li sp q lb u h th la at0 lk st lw su cu nu wr wq dr)) {H : Heap} {locs : List Loc} (hPX : va_P D CLS ((oo, .inl (cL, 1, .inr (.inl fo))) :: CWd x sw e00 e01 sr e10 e11 br ra bq qa cB bi ne li sp q fs lb pl0 rw0 pl1 rw1 s0 c0 n0 s1 c1 n1 s2 c2 n2 s3 c3 n3 u fi h f g) H) (hPM : va_P D CLS (MWd y ms mw mu mc mn mr mq md cI cB bi ne li sp q lb u h th la at0 lk st lw su cu nu wr wq dr) H) (hS : va_S (fun q => s.heap.size ≤ q) s.heap H locs) {ls : Array Slot} (hl : lv_has ls 7 [(4, .int (nI (3 + 4 * i))), (0, .ref b), (1, .ref x), (2, .ref y), (3, .ref oo)]), W p l e room_1 s m #[Value.ref b] below meth c H locs (21 + i) (14480 + 6 * i) (lw_Z below #[Value.ref b] s) (F0 m 53 ls []) := by
  obtain ⟨hx, hb, hr, hml, hown, hts, hX, hbl, hlocks, hgv⟩ := id C0
  have hown : s.vm.findClass "LineGolombLaw" = some m.cls := hown
  have hg : ∀ w ∈ GW, w.before #[Value.ref b] s = true := fun w h => hts w (GW_tbl h)
  have hbA : ¬ s.heap.size ≤ b := Nat.not_le.mpr hbl
  intro d
  induction d with
  | zero =>
    intro i hd hi512 fo lb pl0 rw0 pl1 rw1 s0 c0 n0 s1 c1 n1 s2 c2 n2 s3 c3 n3 u fi h f g th la at0 lk st lw su cu nu wr wq dr hR hDX hDM H locs hPX hPM hS ls hl
    refine lv_iload hx hb d_L_law_53 (lv_at hl 0 rfl) ?_
    refine lv_aload_n hx hb d_L_law_55 rfl (lv_at hl 1 rfl) ?_
    refine va_slen hx hb hX hbl hbA hS d_L_law_56 ?_
    refine lv_iconst (v := 4) hx hb d_L_law_57 (by decide) ?_
    refine lv_isub hx hb d_L_law_58 ?_
    refine lv_icmp_gt (tgt := 1117) hx hb d_L_law_59 (by decide) (fun c_1 => ?_) (fun c_1 => ?_)
    · skip
      refine lv_iconst (v := 1) hx hb d_L_law_1117 (by decide) ?_
      refine va_forget (fun q hq => hS.2.2 q hq) ?_
      refine W.widen (k := 1064) (n := 22786) (by omega) (by omega) ?_
      exact lw_ret hx hb hr hlocks d_L_law_1118
    · skip
      have hi : 3 + 4 * i + 4 ≤ L := by have h9 : ¬ (nI L - 4).toInt < (nI (3 + 4 * i)).toInt := fun q9 => c_1 (ltT.mpr q9); rw [sub4T (by omega), nI_toInt (by omega)] at h9; omega
      omega
  | succ d ih =>
    intro i hd hi512 fo lb pl0 rw0 pl1 rw1 s0 c0 n0 s1 c1 n1 s2 c2 n2 s3 c3 n3 u fi h f g th la at0 lk st lw su cu nu wr wq dr hR hDX hDM H locs hPX hPM hS ls hl
    refine lv_iload hx hb d_L_law_53 (lv_at hl 0 rfl) ?_
    refine lv_aload_n hx hb d_L_law_55 rfl (lv_at hl 1 rfl) ?_
    refine va_slen hx hb hX hbl hbA hS d_L_law_56 ?_
    refine lv_iconst (v := 4) hx hb d_L_law_57 (by decide) ?_
    refine lv_isub hx hb d_L_law_58 ?_
    refine lv_icmp_gt (tgt := 1117) hx hb d_L_law_59 (by decide) (fun c_2 => ?_) (fun c_2 => ?_)
    · skip
      refine lv_iconst (v := 1) hx hb d_L_law_1117 (by decide) ?_
      refine va_forget (fun q hq => hS.2.2 q hq) ?_
      refine W.widen (k := 1064) (n := 22786) (by omega) (by omega) ?_
      exact lw_ret hx hb hr hlocks d_L_law_1118
    · skip
      have hi : 3 + 4 * i + 4 ≤ L := by have h9 : ¬ (nI L - 4).toInt < (nI (3 + 4 * i)).toInt := fun q9 => c_2 (ltT.mpr q9); rw [sub4T (by omega), nI_toInt (by omega)] at h9; omega
      refine lv_aload_n hx hb d_L_law_62 rfl (lv_at hl 1 rfl) ?_
      refine lv_iload hx hb d_L_law_63 (lv_at hl 0 rfl) ?_
      refine va_sld hx hb hX hbl hbA hS (vp_in_nI (by omega) (by omega)) d_L_law_65 ?_
      refine tpi (y := xs (3 + 4 * i)) (by rw [nI_clamp (by omega)]) ?_
      refine lv_bipush (v := 31) hx hb d_L_law_66 (by decide) ?_
      refine lv_iand hx hb d_L_law_68 ?_
      obtain ⟨j, hj, hje⟩ := and31 (xs (3 + 4 * i))
      refine tpi (y := nI j) (hje) ?_
      have kk : ∀ (fo' : Nat → Int64) (lb' : Int32) (pl0' rw0' pl1' rw1' s0' c0' n0' s1' c1' n1' s2' c2' n2' s3' c3' n3' u' fi' h' : Nat) (f' g' : Nat → Int32) (th' la' at0' lk' : Int32) (st' lw' su' cu' nu' wr' wq' dr' : Nat → Int32) (H : Heap) (locs : List Loc) (ls : Array Slot), REL li sp q fs lb' pl0' rw0' pl1' rw1' s0' c0' n0' s1' c1' n1' s2' c2' n2' s3' c3' n3' u' fi' h' f' g' st' lw' su' cu' nu' wr' wq' → va_P D CLS ((oo, .inl (cL, 1, .inr (.inl fo'))) :: CWd x sw e00 e01 sr e10 e11 br ra bq qa cB bi ne li sp q fs lb' pl0' rw0' pl1' rw1' s0' c0' n0' s1' c1' n1' s2' c2' n2' s3' c3' n3' u' fi' h' f' g') H → va_P D CLS (MWd y ms mw mu mc mn mr mq md cI cB bi ne li sp q lb' u' h' th' la' at0' lk' st' lw' su' cu' nu' wr' wq' dr') H → va_S (fun q => s.heap.size ≤ q) s.heap H locs → lv_has ls 7 [(4, .int (nI (3 + 4 * i))), (0, .ref b), (1, .ref x), (2, .ref y), (3, .ref oo)] → W p l e room_1 s m #[Value.ref b] below meth c H locs (21 + i + 1) (14480 + 6 * i + 6) (lw_Z below #[Value.ref b] s) (F0 m 1111 ls []) := by
        intro fo' lb' pl0' rw0' pl1' rw1' s0' c0' n0' s1' c1' n1' s2' c2' n2' s3' c3' n3' u' fi' h' f' g' th' la' at0' lk' st' lw' su' cu' nu' wr' wq' dr' H locs ls hR1 hPX hPM hS hl
        refine lv_iinc (v := nI (3 + 4 * (i + 1))) (lv' := [(4, .int (nI (3 + 4 * (i + 1)))), (0, .ref b), (1, .ref x), (2, .ref y), (3, .ref oo)]) hx hb d_L_law_1111 hl (k := 0) rfl ((nI_add _ 4).trans (congrArg nI (by omega))) (by decide) rfl (fun ls hl => ?_)
        refine lv_goto (tgt := 53) hx hb d_L_law_1114 (by decide) ?_
        exact ih (i + 1) (by omega) (by omega) fo' lb' pl0' rw0' pl1' rw1' s0' c0' n0' s1' c1' n1' s2' c2' n2' s3' c3' n3' u' fi' h' f' g' th' la' at0' lk' st' lw' su' cu' nu' wr' wq' dr' hR1 (va_D_addr hDX rfl) (va_D_addr hDM rfl) hPX hPM hS (lv_sub hl [0, 1, 2, 3, 4] rfl)
      by_cases hj17 : 17 < j
      · skip
        refine lv_tableOut (tgt := 1111) hx hb d_L_law_69 (Or.inr (by rw [nI_toInt (by omega)]; omega)) (by decide) ?_
        refine W.widen (k := 21 + i + 1) (n := 14480 + 6 * i + 6) (by omega) (by omega) ?_
        exact kk fo lb pl0 rw0 pl1 rw1 s0 c0 n0 s1 c1 n1 s2 c2 n2 s3 c3 n3 u fi h f g th la at0 lk st lw su cu nu wr wq dr H locs ls hR hPX hPM hS (lv_sub hl [0, 1, 2, 3, 4] rfl)
      · skip
        rcases (show j = 0 ∨ j = 1 ∨ j = 2 ∨ j = 3 ∨ j = 4 ∨ j = 5 ∨ j = 6 ∨ j = 7 ∨ j = 8 ∨ j = 9 ∨ j = 10 ∨ j = 11 ∨ j = 12 ∨ j = 13 ∨ j = 14 ∨ j = 15 ∨ j = 16 ∨ j = 17 by omega) with rfl | rfl | rfl | rfl | rfl | rfl | rfl | rfl | rfl | rfl | rfl | rfl | rfl | rfl | rfl | rfl | rfl | rfl
        · skip
          refine lv_tableIn (off := 87) (tgt := 156) hx hb d_L_law_69 (by decide) (by decide) (by decide) (by decide) ?_
          exact lo_code C0 hL l hst D tw sa x sw e00 e01 sr e10 e11 br ra bq qa y ms mw mu mc mn mr mq md bi ne li sp q fs oo cB cI cL fo lb pl0 rw0 pl1 rw1 s0 c0 n0 s1 c1 n1 s2 c2 n2 s3 c3 n3 u fi h f g th la at0 lk st lw su cu nu wr wq dr hR hE hEX hEC hK hdis hAX hAM hDX hDM i hi hPX hPM hS (lv_sub hl [0, 1, 2, 3, 4] rfl) kk
        · skip
          refine lv_tableIn (off := 155) (tgt := 224) hx hb d_L_law_69 (by decide) (by decide) (by decide) (by decide) ?_
          exact lo_run C0 hL l hst D tw sa x sw e00 e01 sr e10 e11 br ra bq qa y ms mw mu mc mn mr mq md bi ne li sp q fs oo cB cI cL fo lb pl0 rw0 pl1 rw1 s0 c0 n0 s1 c1 n1 s2 c2 n2 s3 c3 n3 u fi h f g th la at0 lk st lw su cu nu wr wq dr hR hE hEX hEC hK hdis hAX hAM hDX hDM i hi hPX hPM hS (lv_sub hl [0, 1, 2, 3, 4] rfl) kk
        · skip
          refine lv_tableIn (off := 239) (tgt := 308) hx hb d_L_law_69 (by decide) (by decide) (by decide) (by decide) ?_
          exact lo_interrupt C0 hL l hst D tw sa x sw e00 e01 sr e10 e11 br ra bq qa y ms mw mu mc mn mr mq md bi ne li sp q fs oo cB cI cL fo lb pl0 rw0 pl1 rw1 s0 c0 n0 s1 c1 n1 s2 c2 n2 s3 c3 n3 u fi h f g th la at0 lk st lw su cu nu wr wq dr hR hE hEX hEC hK hdis hAX hAM hDX hDM i hi hPX hPM hS (lv_sub hl [0, 1, 2, 3, 4] rfl) kk
        · skip
          refine lv_tableIn (off := 307) (tgt := 376) hx hb d_L_law_69 (by decide) (by decide) (by decide) (by decide) ?_
          exact lo_bitAt C0 hL l hst D tw sa x sw e00 e01 sr e10 e11 br ra bq qa y ms mw mu mc mn mr mq md bi ne li sp q fs oo cB cI cL fo lb pl0 rw0 pl1 rw1 s0 c0 n0 s1 c1 n1 s2 c2 n2 s3 c3 n3 u fi h f g th la at0 lk st lw su cu nu wr wq dr hR hE hEX hEC hK hdis hAX hAM hDX hDM i hi hPX hPM hS (lv_sub hl [0, 1, 2, 3, 4] rfl) kk
        · skip
          refine lv_tableIn (off := 363) (tgt := 432) hx hb d_L_law_69 (by decide) (by decide) (by decide) (by decide) ?_
          exact lo_size C0 hL l hst D tw sa x sw e00 e01 sr e10 e11 br ra bq qa y ms mw mu mc mn mr mq md bi ne li sp q fs oo cB cI cL fo lb pl0 rw0 pl1 rw1 s0 c0 n0 s1 c1 n1 s2 c2 n2 s3 c3 n3 u fi h f g th la at0 lk st lw su cu nu wr wq dr hR hE hEX hEC hK hdis hAX hAM hDX hDM i hi hPX hPM hS (lv_sub hl [0, 1, 2, 3, 4] rfl) kk
        · skip
          refine lv_tableIn (off := 376) (tgt := 445) hx hb d_L_law_69 (by decide) (by decide) (by decide) (by decide) ?_
          exact lo_feed C0 hL l hst D tw sa x sw e00 e01 sr e10 e11 br ra bq qa y ms mw mu mc mn mr mq md bi ne li sp q fs oo cB cI cL fo lb pl0 rw0 pl1 rw1 s0 c0 n0 s1 c1 n1 s2 c2 n2 s3 c3 n3 u fi h f g th la at0 lk st lw su cu nu wr wq dr hR hE hEX hEC hK hdis hAX hAM hDX hDM i hi hPX hPM hS (lv_sub hl [0, 1, 2, 3, 4] rfl) kk
        · skip
          refine lv_tableIn (off := 439) (tgt := 508) hx hb d_L_law_69 (by decide) (by decide) (by decide) (by decide) ?_
          exact lo_pass C0 hL l hst D tw sa x sw e00 e01 sr e10 e11 br ra bq qa y ms mw mu mc mn mr mq md bi ne li sp q fs oo cB cI cL fo lb pl0 rw0 pl1 rw1 s0 c0 n0 s1 c1 n1 s2 c2 n2 s3 c3 n3 u fi h f g th la at0 lk st lw su cu nu wr wq dr hR hE hEX hEC hK hdis hAX hAM hDX hDM i hi hPX hPM hS (lv_sub hl [0, 1, 2, 3, 4] rfl) kk
        · skip
          refine lv_tableIn (off := 507) (tgt := 576) hx hb d_L_law_69 (by decide) (by decide) (by decide) (by decide) ?_
          exact lo_read C0 hL l hst D tw sa x sw e00 e01 sr e10 e11 br ra bq qa y ms mw mu mc mn mr mq md bi ne li sp q fs oo cB cI cL fo lb pl0 rw0 pl1 rw1 s0 c0 n0 s1 c1 n1 s2 c2 n2 s3 c3 n3 u fi h f g th la at0 lk st lw su cu nu wr wq dr hR hE hEX hEC hK hdis hAX hAM hDX hDM i hi hPX hPM hS (lv_sub hl [0, 1, 2, 3, 4] rfl) kk
        · skip
          refine lv_tableIn (off := 563) (tgt := 632) hx hb d_L_law_69 (by decide) (by decide) (by decide) (by decide) ?_
          exact lo_readRun C0 hL l hst D tw sa x sw e00 e01 sr e10 e11 br ra bq qa y ms mw mu mc mn mr mq md bi ne li sp q fs oo cB cI cL fo lb pl0 rw0 pl1 rw1 s0 c0 n0 s1 c1 n1 s2 c2 n2 s3 c3 n3 u fi h f g th la at0 lk st lw su cu nu wr wq dr hR hE hEX hEC hK hdis hAX hAM hDX hDM i hi hPX hPM hS (lv_sub hl [0, 1, 2, 3, 4] rfl) kk
        · skip
          refine lv_tableIn (off := 619) (tgt := 688) hx hb d_L_law_69 (by decide) (by decide) (by decide) (by decide) ?_
          exact lo_readInterrupt C0 hL l hst D tw sa x sw e00 e01 sr e10 e11 br ra bq qa y ms mw mu mc mn mr mq md bi ne li sp q fs oo cB cI cL fo lb pl0 rw0 pl1 rw1 s0 c0 n0 s1 c1 n1 s2 c2 n2 s3 c3 n3 u fi h f g th la at0 lk st lw su cu nu wr wq dr hR hE hEX hEC hK hdis hAX hAM hDX hDM i hi hPX hPM hS (lv_sub hl [0, 1, 2, 3, 4] rfl) kk
        · skip
          refine lv_tableIn (off := 675) (tgt := 744) hx hb d_L_law_69 (by decide) (by decide) (by decide) (by decide) ?_
          exact lo_wasEnded C0 hL l hst D tw sa x sw e00 e01 sr e10 e11 br ra bq qa y ms mw mu mc mn mr mq md bi ne li sp q fs oo cB cI cL fo lb pl0 rw0 pl1 rw1 s0 c0 n0 s1 c1 n1 s2 c2 n2 s3 c3 n3 u fi h f g th la at0 lk st lw su cu nu wr wq dr hR hE hEX hEC hK hdis hAX hAM hDX hDM i hi hPX hPM hS (lv_sub hl [0, 1, 2, 3, 4] rfl) kk
        · skip
          refine lv_tableIn (off := 688) (tgt := 757) hx hb d_L_law_69 (by decide) (by decide) (by decide) (by decide) ?_
          exact lo_waiting C0 hL l hst D tw sa x sw e00 e01 sr e10 e11 br ra bq qa y ms mw mu mc mn mr mq md bi ne li sp q fs oo cB cI cL fo lb pl0 rw0 pl1 rw1 s0 c0 n0 s1 c1 n1 s2 c2 n2 s3 c3 n3 u fi h f g th la at0 lk st lw su cu nu wr wq dr hR hE hEX hEC hK hdis hAX hAM hDX hDM i hi hPX hPM hS (lv_sub hl [0, 1, 2, 3, 4] rfl) kk
        · skip
          refine lv_tableIn (off := 701) (tgt := 770) hx hb d_L_law_69 (by decide) (by decide) (by decide) (by decide) ?_
          exact lo_map C0 hL l hst D tw sa x sw e00 e01 sr e10 e11 br ra bq qa y ms mw mu mc mn mr mq md bi ne li sp q fs oo cB cI cL fo lb pl0 rw0 pl1 rw1 s0 c0 n0 s1 c1 n1 s2 c2 n2 s3 c3 n3 u fi h f g th la at0 lk st lw su cu nu wr wq dr hR hE hEX hEC hK hdis hAX hAM hDX hDM i hi hPX hPM hS (lv_sub hl [0, 1, 2, 3, 4] rfl) kk
        · skip
          refine lv_tableIn (off := 785) (tgt := 854) hx hb d_L_law_69 (by decide) (by decide) (by decide) (by decide) ?_
          exact lo_unmap C0 hL l hst D tw sa x sw e00 e01 sr e10 e11 br ra bq qa y ms mw mu mc mn mr mq md bi ne li sp q fs oo cB cI cL fo lb pl0 rw0 pl1 rw1 s0 c0 n0 s1 c1 n1 s2 c2 n2 s3 c3 n3 u fi h f g th la at0 lk st lw su cu nu wr wq dr hR hE hEX hEC hK hdis hAX hAM hDX hDM i hi hPX hPM hS (lv_sub hl [0, 1, 2, 3, 4] rfl) kk
        · skip
          refine lv_tableIn (off := 869) (tgt := 938) hx hb d_L_law_69 (by decide) (by decide) (by decide) (by decide) ?_
          exact lo_step C0 hL l hst D tw sa x sw e00 e01 sr e10 e11 br ra bq qa y ms mw mu mc mn mr mq md bi ne li sp q fs oo cB cI cL fo lb pl0 rw0 pl1 rw1 s0 c0 n0 s1 c1 n1 s2 c2 n2 s3 c3 n3 u fi h f g th la at0 lk st lw su cu nu wr wq dr hR hE hEX hEC hK hdis hAX hAM hDX hDM i hi hPX hPM hS (lv_sub hl [0, 1, 2, 3, 4] rfl) kk
        · skip
          refine lv_tableIn (off := 910) (tgt := 979) hx hb d_L_law_69 (by decide) (by decide) (by decide) (by decide) ?_
          exact lo_state C0 hL l hst D tw sa x sw e00 e01 sr e10 e11 br ra bq qa y ms mw mu mc mn mr mq md bi ne li sp q fs oo cB cI cL fo lb pl0 rw0 pl1 rw1 s0 c0 n0 s1 c1 n1 s2 c2 n2 s3 c3 n3 u fi h f g th la at0 lk st lw su cu nu wr wq dr hR hE hEX hEC hK hdis hAX hAM hDX hDM i hi hPX hPM hS (lv_sub hl [0, 1, 2, 3, 4] rfl) kk
        · skip
          refine lv_tableIn (off := 1006) (tgt := 1075) hx hb d_L_law_69 (by decide) (by decide) (by decide) (by decide) ?_
          exact lo_told C0 hL l hst D tw sa x sw e00 e01 sr e10 e11 br ra bq qa y ms mw mu mc mn mr mq md bi ne li sp q fs oo cB cI cL fo lb pl0 rw0 pl1 rw1 s0 c0 n0 s1 c1 n1 s2 c2 n2 s3 c3 n3 u fi h f g th la at0 lk st lw su cu nu wr wq dr hR hE hEX hEC hK hdis hAX hAM hDX hDM i hi hPX hPM hS (lv_sub hl [0, 1, 2, 3, 4] rfl) kk
        · skip
          refine lv_tableIn (off := 1031) (tgt := 1100) hx hb d_L_law_69 (by decide) (by decide) (by decide) (by decide) ?_
          exact lo_clear C0 hL l hst D tw sa x sw e00 e01 sr e10 e11 br ra bq qa y ms mw mu mc mn mr mq md bi ne li sp q fs oo cB cI cL fo lb pl0 rw0 pl1 rw1 s0 c0 n0 s1 c1 n1 s2 c2 n2 s3 c3 n3 u fi h f g th la at0 lk st lw su cu nu wr wq dr hR hE hEX hEC hK hdis hAX hAM hDX hDM i hi hPX hPM hS (lv_sub hl [0, 1, 2, 3, 4] rfl) kk
theorem ap_dis {A : Nat → Prop} {w1 w2 : va_W} (h : va_D A (w1 ++ w2)) : ∀ q, ad w2 q → ¬ ad w1 q := fun q h2 h1 => by
  obtain ⟨z, hz, hzq⟩ := List.mem_map.mp h1
  obtain ⟨i, hi⟩ := List.getElem?_of_mem hz
  obtain ⟨y, hy, hyq⟩ := List.mem_map.mp h2
  obtain ⟨j, hj⟩ := List.getElem?_of_mem hy
  have hil : i < w1.length := (List.getElem?_eq_some_iff.mp hi).1
  have e1 : (w1 ++ w2)[i]? = some z := by rw [List.getElem?_append_left hil]; exact hi
  have e2 : (w1 ++ w2)[w1.length + j]? = some y := by rw [List.getElem?_append_right (by omega), Nat.add_sub_cancel_left]; exact hj
  have := h.1 i (w1.length + j) z y e1 e2 (hzq.trans hyq.symm)
  omega
set_option maxHeartbeats 8000000 in
set_option maxRecDepth 100000 in
theorem whole_start {p : Program} {e : Env} {s : State} {m : MethodId} {below : List Frame} {meth : Method} {c : Code} (l : Launch) (hst : l.stackTraces = false) {b L : Nat} {xs : Nat → Int32} (hL : L ≤ 2051) (C0 : lw_At p s m meth c b L xs) : W p l e room_1 s m #[Value.ref b] below meth c s.heap [] 0 0 (lw_Z below #[Value.ref b] s) (entryFrame m ([Value.ref b] : List Value).toArray 7) := by
  obtain ⟨hx, hb, hr, hml, hown, hts, hX, hbl, hlocks, hgv⟩ := id C0
  have hown : s.vm.findClass "LineGolombLaw" = some m.cls := hown
  have hg : ∀ w ∈ GW, w.before #[Value.ref b] s = true := fun w h => hts w (GW_tbl h)
  have hbA : ¬ s.heap.size ≤ b := Nat.not_le.mpr hbl
  have hfl := flat_of_before _ hgv
  obtain ⟨tw, hE⟩ := st_EV hts hfl
  obtain ⟨sa, hEX⟩ := st_EX hts hfl
  have hEC := st_EC hts hfl
  have hN : EVn s := hE.1
  have hA : ∀ q : Nat, s.heap.size ≤ q → (fun q => s.heap.size ≤ q) q := fun _ h => h
  obtain ⟨d0, iS0, hKn0⟩ := u_known (C := R_Q) (T := T_Q) (N := 3) (n := 3) hg in_Q (hg _ gw_38)
  obtain ⟨d1, iS1, hKn1⟩ := u_known (C := R_B) (T := T_B) (N := 2) (n := 2) hg in_B (hg _ gw_23)
  obtain ⟨d2, iS2, hKn2⟩ := u_known (C := R_E) (T := T_E) (N := 5) (n := 5) hg in_E (hg _ gw_73)
  obtain ⟨d3, iS3, hKn3⟩ := u_known (C := R_S) (T := T_S) (N := 4) (n := 4) hg in_S (hg _ gw_67)
  obtain ⟨d4, iS4, hKn4⟩ := u_known (C := R_X) (T := T_X) (N := 10) (n := 10) hg in_X (hg _ gw_15)
  obtain ⟨d5, iS5, hKn5⟩ := u_known (C := R_M) (T := T_M) (N := 20) (n := 20) hg in_M (hg _ gw_509)
  obtain ⟨D, hKc0⟩ : ∃ D : va_G, ∀ (k : Nat) (q : vw_C), CLS[k]? = some q → u_Kn s q.1 q.2.1 q.2.2 (D.1 k) (D.2 k) := by
    refine ⟨(fun k => match k with | 0 => d0 | 1 => d1 | 2 => d2 | 3 => d3 | 4 => d4 | _ => d5, fun k => match k with | 0 => iS0 | 1 => iS1 | 2 => iS2 | 3 => iS3 | 4 => iS4 | _ => iS5), ?_⟩
    intro k q hq
    match k, hq with
    | 0, hq => cases hq; exact hKn0
    | 1, hq => cases hq; exact hKn1
    | 2, hq => cases hq; exact hKn2
    | 3, hq => cases hq; exact hKn3
    | 4, hq => cases hq; exact hKn4
    | 5, hq => cases hq; exact hKn5
    | k + 6, hq => simp [CLS] at hq
  have hS : va_S (fun q => s.heap.size ≤ q) s.heap s.heap [] := va_S.rf
  have hK : va_K D CLS [] s := ⟨hKc0, fun k q h => by simp at h⟩
  have hP : va_P D CLS [] s.heap := fun k q h => by simp at h
  have hD : va_D (fun q => s.heap.size ≤ q) [] := ⟨fun i j p q h => by simp at h, fun k q h => by simp at h⟩
  have hl := lv_entry ([.ref b]) (n := 7) (Nat.le_of_ble_eq_true rfl)
  rw [lg_entry_eq]
  generalize (lg_sl ([.ref b]) ++ List.replicate (7 - (lg_sl ([.ref b])).length) Slot.unset).toArray = ls at hl ⊢
  have hl : lv_has ls 7 [(0, .ref b)] := hl
  obtain ⟨p0, hp0⟩ : ∃ v : Int32, v = (if 0 < L then xs 0 else 0) := ⟨_, rfl⟩
  obtain ⟨p1, hp1⟩ : ∃ v : Int32, v = (if 1 < L then xs 1 else 0) := ⟨_, rfl⟩
  obtain ⟨p2, hp2⟩ : ∃ v : Int32, v = (if 2 < L then xs 2 else 0) := ⟨_, rfl⟩
  obtain ⟨bi, hbi⟩ : ∃ v, v = clp p0 2 16 := ⟨_, rfl⟩
  obtain ⟨ne, hne⟩ : ∃ v, v = clp p1 0 (min 255 ((2 ^ bi - 1) / 2)) := ⟨_, rfl⟩
  obtain ⟨sp, hsp⟩ : ∃ v, v = (2 ^ bi - 1 + 2 * ne) / (2 * ne + 1) + 1 := ⟨_, rfl⟩
  have hbb := clp_b (v := p0) (a := 2) (b := 16) (by decide)
  rw [← hbi] at hbb
  have hnb := clp_b (v := p1) (a := 0) (b := min 255 ((2 ^ bi - 1) / 2)) (Nat.zero_le _)
  rw [← hne] at hnb
  have hsb := spn_b hbb.1 hbb.2 (by omega) hsp
  obtain ⟨q, hq, hq1, hq2⟩ := ex_K (T := sp) (c := 1) (by omega)
  rw [Nat.one_mul] at hq1
  have hq2 : ∀ j, j < q → 2 ^ j < sp := fun j hj => by have := hq2 j hj; rwa [Nat.one_mul] at this
  obtain ⟨li, hli⟩ : ∃ v, v = clp p2 (q + 18) 200 := ⟨_, rfl⟩
  have hlb := clp_b (v := p2) (a := q + 18) (b := 200) (by omega)
  rw [← hli] at hlb
  obtain ⟨fs, hfs⟩ : ∃ v, v = (if (sp + 32) / 64 < 2 then 2 else (sp + 32) / 64) := ⟨_, rfl⟩
  refine va_new (ci := 4) (fs := [.int (nI 0), .int (nI 0), .int (nI 0), .int (nI 0), .int (nI 0), .null, .null, .null, .null, .int (nI 0)]) (C := R_X) (T := T_X) (N := 10) hx hb hg in_X ty_X tok_X hown (hg _ gw_14) (hg _ gw_15) (hg _ gw_1) hK hP hD hS hA rfl (fun j hj => by rcases (show j = 0 ∨ j = 1 ∨ j = 2 ∨ j = 3 ∨ j = 4 ∨ j = 5 ∨ j = 6 ∨ j = 7 ∨ j = 8 ∨ j = 9 by omega) with rfl | rfl | rfl | rfl | rfl | rfl | rfl | rfl | rfl | rfl <;> rfl) (Nat.le_of_ble_eq_true rfl) (Nat.le_of_ble_eq_true rfl) d_L_law_0 (fun x H hP hD hS => ?_)
  have hP : va_P D CLS [(x, .inr (4, [.int (nI 0), .int (nI 0), .int (nI 0), .int (nI 0), .int (nI 0), .null, .null, .null, .null, .int (nI 0)]))] H := hP
  have hD : va_D (fun q => s.heap.size ≤ q) [(x, .inr (4, [.int (nI 0), .int (nI 0), .int (nI 0), .int (nI 0), .int (nI 0), .null, .null, .null, .null, .int (nI 0)]))] := hD
  refine lv_dup hx hb d_L_law_3 rfl ?_
  refine lv_aload_n hx hb d_L_law_4 rfl (lv_at hl 0 rfl) ?_
  refine lv_iconst (v := 0) hx hb d_L_law_5 (by decide) ?_
  refine tpi (y := nI 0) (rfl) ?_
  refine pci (va_runS (As := [.ref b, .int (nI 0)]) (rest := [.ref x, .ref x]) ⟨hx, hb, hml, hown, hg⟩ (c_L_cell l b L xs 0 (by decide) hL) (va_cwS 2 hg (gS gw_189 gw_190 gw_0 gw_191) rfl rfl rfl (by decide +kernel) ⟨by decide, by decide⟩) (preC hX hbl hbA hS) rfl rfl hl.1 rfl (lv_room (Nat.le_of_ble_eq_true rfl)) d_L_law_6 ⟨Nat.le_of_ble_eq_true rfl, Nat.le_of_ble_eq_true rfl⟩) ?_
  refine tpi (y := p0) (hp0.symm) ?_
  refine lv_aload_n hx hb d_L_law_9 rfl (lv_at hl 0 rfl) ?_
  refine lv_iconst (v := 1) hx hb d_L_law_10 (by decide) ?_
  refine tpi (y := nI 1) (rfl) ?_
  refine pci (va_runS (As := [.ref b, .int (nI 1)]) (rest := [.int p0, .ref x, .ref x]) ⟨hx, hb, hml, hown, hg⟩ (c_L_cell l b L xs 1 (by decide) hL) (va_cwS 2 hg (gS gw_189 gw_190 gw_0 gw_191) rfl rfl rfl (by decide +kernel) ⟨by decide, by decide⟩) (preC hX hbl hbA hS) rfl rfl hl.1 rfl (lv_room (Nat.le_of_ble_eq_true rfl)) d_L_law_11 ⟨Nat.le_of_ble_eq_true rfl, Nat.le_of_ble_eq_true rfl⟩) ?_
  refine tpi (y := p1) (hp1.symm) ?_
  refine lv_aload_n hx hb d_L_law_14 rfl (lv_at hl 0 rfl) ?_
  refine lv_iconst (v := 2) hx hb d_L_law_15 (by decide) ?_
  refine tpi (y := nI 2) (rfl) ?_
  refine pci (va_runS (As := [.ref b, .int (nI 2)]) (rest := [.int p1, .int p0, .ref x, .ref x]) ⟨hx, hb, hml, hown, hg⟩ (c_L_cell l b L xs 2 (by decide) hL) (va_cwS 2 hg (gS gw_189 gw_190 gw_0 gw_191) rfl rfl rfl (by decide +kernel) ⟨by decide, by decide⟩) (preC hX hbl hbA hS) rfl rfl hl.1 rfl (lv_room (Nat.le_of_ble_eq_true rfl)) d_L_law_16 ⟨Nat.le_of_ble_eq_true rfl, Nat.le_of_ble_eq_true rfl⟩) ?_
  refine tpi (y := p2) (hp2.symm) ?_
  have hPc := hP.sub (ws' := [(x, .inr (4, [.int (nI 0), .int (nI 0), .int (nI 0), .int (nI 0), .int (nI 0), .null, .null, .null, .null, .int (nI 0)]))]) [0] rfl
  have hDc := hD.sub (ws' := [(x, .inr (4, [.int (nI 0), .int (nI 0), .int (nI 0), .int (nI 0), .int (nI 0), .null, .null, .null, .null, .int (nI 0)]))]) [0] (by decide) rfl
  have hKc := hK.sub (tys' := []) [] rfl
  have hFc := va_free (wc := [(x, .inr (4, [.int (nI 0), .int (nI 0), .int (nI 0), .int (nI 0), .int (nI 0), .null, .null, .null, .null, .int (nI 0)]))]) hD hS hA [0] rfl
  refine va_callv (va_runI (As := [.int p0, .int p1, .int p2]) (rest := [.ref x]) ⟨hx, hb, hml, hown, hg⟩ (c_X_init l D H.size x bi ne li sp q fs p0 p1 p2 hbi hne hsp hq hq1 hq2 hli hfs) (cwI 3 hg (gI gw_18) rfl rfl rfl (hg _ gw_1) (hg _ gw_16) (hg _ gw_17) rfl (by decide +kernel) ⟨Nat.le_of_ble_eq_true rfl, Nat.le_of_ble_eq_true rfl⟩) ⟨fun a U g mk q => by obtain ⟨q0, q1, qP, qK, qD, qN⟩ := q; exact ⟨q0, q1, qP, va_K.moved (u := U) (U := U.calling g mk a) (Vm.Alike.refl U.vm) qK, qD, qN.warm (U := U.calling g mk a) (State.WarmedH.refl U)⟩, fun U hU hW => ⟨rfl, by rw [hU], by rw [hU]; exact hPc, va_K.moved hW.alike hKc, hDc.weaken (fun _ _ _ _ => trivial), hN.warm hW⟩⟩ rfl rfl hl.1 rfl (lv_room (Nat.le_of_ble_eq_true rfl)) d_L_law_19 ⟨Nat.le_of_ble_eq_true rfl, Nat.le_of_ble_eq_true rfl⟩) hS (fun q _ h => hFc q h) hFc (fun u9 t9 H1 locs ht hvm hw hB hz1 hk1 hS => ?_)
  obtain ⟨sw, e00, e01, sr, e10, e11, br, ra, bq, qa, cB, hP1, hK1, hD1⟩ := hB
  rw [ht] at hP1
  have hK1 := va_K.moved hvm.symm hK1
  obtain ⟨hP, hD⟩ := va_join (wr := []) (w1 := [(x, .inr (4, [.int (nI bi), .int (nI ne), .int (nI li), .int (nI sp), .int (nI q), .ref sw, .ref sr, .ref br, .ref bq, .int (nI 0)])), (sw, .inr (3, [.ref e00, .ref e01, .int (nI 0), .int (nI 0)])), (e00, .inr (2, [.int 0, .int (nI fs), .int (nI fs), .int (nI 1), .int (nI 0)])), (e01, .inr (2, [.int 1, .int (nI fs), .int (nI fs), .int (nI 1), .int (nI 0)])), (sr, .inr (3, [.ref e10, .ref e11, .int (nI 0), .int (nI 0)])), (e10, .inr (2, [.int 0, .int (nI fs), .int (nI fs), .int (nI 1), .int (nI 0)])), (e11, .inr (2, [.int 1, .int (nI fs), .int (nI fs), .int (nI 1), .int (nI 0)])), (br, .inr (1, [.ref ra, .int (nI 0)])), (ra, .inl (cB, 6000, .inl (fun _ => 0))), (bq, .inr (0, [.ref qa, .int (nI 0), .int (nI 0)])), (qa, .inl (cB, 1000, .inl (fun _ => 0)))]) hP hD [0] [] rfl rfl (by decide) (by decide) hk1 hFc hP1 hD1
  have hK := hK.app hK1
  generalize H1 = H at hP hS ⊢
  have hP : va_P D CLS [(x, .inr (4, [.int (nI bi), .int (nI ne), .int (nI li), .int (nI sp), .int (nI q), .ref sw, .ref sr, .ref br, .ref bq, .int (nI 0)])), (sw, .inr (3, [.ref e00, .ref e01, .int (nI 0), .int (nI 0)])), (e00, .inr (2, [.int 0, .int (nI fs), .int (nI fs), .int (nI 1), .int (nI 0)])), (e01, .inr (2, [.int 1, .int (nI fs), .int (nI fs), .int (nI 1), .int (nI 0)])), (sr, .inr (3, [.ref e10, .ref e11, .int (nI 0), .int (nI 0)])), (e10, .inr (2, [.int 0, .int (nI fs), .int (nI fs), .int (nI 1), .int (nI 0)])), (e11, .inr (2, [.int 1, .int (nI fs), .int (nI fs), .int (nI 1), .int (nI 0)])), (br, .inr (1, [.ref ra, .int (nI 0)])), (ra, .inl (cB, 6000, .inl (fun _ => 0))), (bq, .inr (0, [.ref qa, .int (nI 0), .int (nI 0)])), (qa, .inl (cB, 1000, .inl (fun _ => 0)))] H := hP
  have hD : va_D (fun q => s.heap.size ≤ q) [(x, .inr (4, [.int (nI bi), .int (nI ne), .int (nI li), .int (nI sp), .int (nI q), .ref sw, .ref sr, .ref br, .ref bq, .int (nI 0)])), (sw, .inr (3, [.ref e00, .ref e01, .int (nI 0), .int (nI 0)])), (e00, .inr (2, [.int 0, .int (nI fs), .int (nI fs), .int (nI 1), .int (nI 0)])), (e01, .inr (2, [.int 1, .int (nI fs), .int (nI fs), .int (nI 1), .int (nI 0)])), (sr, .inr (3, [.ref e10, .ref e11, .int (nI 0), .int (nI 0)])), (e10, .inr (2, [.int 0, .int (nI fs), .int (nI fs), .int (nI 1), .int (nI 0)])), (e11, .inr (2, [.int 1, .int (nI fs), .int (nI fs), .int (nI 1), .int (nI 0)])), (br, .inr (1, [.ref ra, .int (nI 0)])), (ra, .inl (cB, 6000, .inl (fun _ => 0))), (bq, .inr (0, [.ref qa, .int (nI 0), .int (nI 0)])), (qa, .inl (cB, 1000, .inl (fun _ => 0)))] := hD
  have hK : va_K D CLS [(cB, .byte)] s := hK
  refine lv_astore_n (lv' := [(1, .ref x), (0, .ref b)]) hx hb d_L_law_22 rfl hl (by decide) rfl (fun ls hl => ?_)
  refine va_new (ci := 5) (fs := [.int (nI 0), .int (nI 0), .int (nI 0), .int (nI 0), .int (nI 0), .int (nI 0), .null, .null, .null, .null, .null, .int (nI 0), .int (nI 0), .null, .int (nI 0), .null, .int (nI 0), .null, .int (nI 0), .int (nI 0)]) (C := R_M) (T := T_M) (N := 20) hx hb hg in_M ty_M tok_M hown (hg _ gw_508) (hg _ gw_509) (hg _ gw_7) hK hP hD hS hA rfl (fun j hj => by rcases (show j = 0 ∨ j = 1 ∨ j = 2 ∨ j = 3 ∨ j = 4 ∨ j = 5 ∨ j = 6 ∨ j = 7 ∨ j = 8 ∨ j = 9 ∨ j = 10 ∨ j = 11 ∨ j = 12 ∨ j = 13 ∨ j = 14 ∨ j = 15 ∨ j = 16 ∨ j = 17 ∨ j = 18 ∨ j = 19 by omega) with rfl | rfl | rfl | rfl | rfl | rfl | rfl | rfl | rfl | rfl | rfl | rfl | rfl | rfl | rfl | rfl | rfl | rfl | rfl | rfl <;> rfl) (Nat.le_of_ble_eq_true rfl) (Nat.le_of_ble_eq_true rfl) d_L_law_23 (fun y H hP hD hS => ?_)
  have hP : va_P D CLS [(x, .inr (4, [.int (nI bi), .int (nI ne), .int (nI li), .int (nI sp), .int (nI q), .ref sw, .ref sr, .ref br, .ref bq, .int (nI 0)])), (sw, .inr (3, [.ref e00, .ref e01, .int (nI 0), .int (nI 0)])), (e00, .inr (2, [.int 0, .int (nI fs), .int (nI fs), .int (nI 1), .int (nI 0)])), (e01, .inr (2, [.int 1, .int (nI fs), .int (nI fs), .int (nI 1), .int (nI 0)])), (sr, .inr (3, [.ref e10, .ref e11, .int (nI 0), .int (nI 0)])), (e10, .inr (2, [.int 0, .int (nI fs), .int (nI fs), .int (nI 1), .int (nI 0)])), (e11, .inr (2, [.int 1, .int (nI fs), .int (nI fs), .int (nI 1), .int (nI 0)])), (br, .inr (1, [.ref ra, .int (nI 0)])), (ra, .inl (cB, 6000, .inl (fun _ => 0))), (bq, .inr (0, [.ref qa, .int (nI 0), .int (nI 0)])), (qa, .inl (cB, 1000, .inl (fun _ => 0))), (y, .inr (5, [.int (nI 0), .int (nI 0), .int (nI 0), .int (nI 0), .int (nI 0), .int (nI 0), .null, .null, .null, .null, .null, .int (nI 0), .int (nI 0), .null, .int (nI 0), .null, .int (nI 0), .null, .int (nI 0), .int (nI 0)]))] H := hP
  have hD : va_D (fun q => s.heap.size ≤ q) [(x, .inr (4, [.int (nI bi), .int (nI ne), .int (nI li), .int (nI sp), .int (nI q), .ref sw, .ref sr, .ref br, .ref bq, .int (nI 0)])), (sw, .inr (3, [.ref e00, .ref e01, .int (nI 0), .int (nI 0)])), (e00, .inr (2, [.int 0, .int (nI fs), .int (nI fs), .int (nI 1), .int (nI 0)])), (e01, .inr (2, [.int 1, .int (nI fs), .int (nI fs), .int (nI 1), .int (nI 0)])), (sr, .inr (3, [.ref e10, .ref e11, .int (nI 0), .int (nI 0)])), (e10, .inr (2, [.int 0, .int (nI fs), .int (nI fs), .int (nI 1), .int (nI 0)])), (e11, .inr (2, [.int 1, .int (nI fs), .int (nI fs), .int (nI 1), .int (nI 0)])), (br, .inr (1, [.ref ra, .int (nI 0)])), (ra, .inl (cB, 6000, .inl (fun _ => 0))), (bq, .inr (0, [.ref qa, .int (nI 0), .int (nI 0)])), (qa, .inl (cB, 1000, .inl (fun _ => 0))), (y, .inr (5, [.int (nI 0), .int (nI 0), .int (nI 0), .int (nI 0), .int (nI 0), .int (nI 0), .null, .null, .null, .null, .null, .int (nI 0), .int (nI 0), .null, .int (nI 0), .null, .int (nI 0), .null, .int (nI 0), .int (nI 0)]))] := hD
  refine lv_dup hx hb d_L_law_26 rfl ?_
  refine lv_aload_n hx hb d_L_law_27 rfl (lv_at hl 1 rfl) ?_
  refine lv_iconst (v := 0) hx hb d_L_law_28 (by decide) ?_
  refine tpi (y := nI 0) (rfl) ?_
  refine pci (va_runS (As := [.ref b, .int (nI 0)]) (rest := [.ref y, .ref y]) ⟨hx, hb, hml, hown, hg⟩ (c_L_cell l b L xs 0 (by decide) hL) (va_cwS 2 hg (gS gw_189 gw_190 gw_0 gw_191) rfl rfl rfl (by decide +kernel) ⟨by decide, by decide⟩) (preC hX hbl hbA hS) rfl rfl hl.1 rfl (lv_room (Nat.le_of_ble_eq_true rfl)) d_L_law_29 ⟨Nat.le_of_ble_eq_true rfl, Nat.le_of_ble_eq_true rfl⟩) ?_
  refine tpi (y := p0) (hp0.symm) ?_
  refine lv_aload_n hx hb d_L_law_32 rfl (lv_at hl 1 rfl) ?_
  refine lv_iconst (v := 1) hx hb d_L_law_33 (by decide) ?_
  refine tpi (y := nI 1) (rfl) ?_
  refine pci (va_runS (As := [.ref b, .int (nI 1)]) (rest := [.int p0, .ref y, .ref y]) ⟨hx, hb, hml, hown, hg⟩ (c_L_cell l b L xs 1 (by decide) hL) (va_cwS 2 hg (gS gw_189 gw_190 gw_0 gw_191) rfl rfl rfl (by decide +kernel) ⟨by decide, by decide⟩) (preC hX hbl hbA hS) rfl rfl hl.1 rfl (lv_room (Nat.le_of_ble_eq_true rfl)) d_L_law_34 ⟨Nat.le_of_ble_eq_true rfl, Nat.le_of_ble_eq_true rfl⟩) ?_
  refine tpi (y := p1) (hp1.symm) ?_
  refine lv_aload_n hx hb d_L_law_37 rfl (lv_at hl 1 rfl) ?_
  refine lv_iconst (v := 2) hx hb d_L_law_38 (by decide) ?_
  refine tpi (y := nI 2) (rfl) ?_
  refine pci (va_runS (As := [.ref b, .int (nI 2)]) (rest := [.int p1, .int p0, .ref y, .ref y]) ⟨hx, hb, hml, hown, hg⟩ (c_L_cell l b L xs 2 (by decide) hL) (va_cwS 2 hg (gS gw_189 gw_190 gw_0 gw_191) rfl rfl rfl (by decide +kernel) ⟨by decide, by decide⟩) (preC hX hbl hbA hS) rfl rfl hl.1 rfl (lv_room (Nat.le_of_ble_eq_true rfl)) d_L_law_39 ⟨Nat.le_of_ble_eq_true rfl, Nat.le_of_ble_eq_true rfl⟩) ?_
  refine tpi (y := p2) (hp2.symm) ?_
  have hPc := hP.sub (ws' := [(y, .inr (5, [.int (nI 0), .int (nI 0), .int (nI 0), .int (nI 0), .int (nI 0), .int (nI 0), .null, .null, .null, .null, .null, .int (nI 0), .int (nI 0), .null, .int (nI 0), .null, .int (nI 0), .null, .int (nI 0), .int (nI 0)]))]) [11] rfl
  have hDc := hD.sub (ws' := [(y, .inr (5, [.int (nI 0), .int (nI 0), .int (nI 0), .int (nI 0), .int (nI 0), .int (nI 0), .null, .null, .null, .null, .null, .int (nI 0), .int (nI 0), .null, .int (nI 0), .null, .int (nI 0), .null, .int (nI 0), .int (nI 0)]))]) [11] (by decide) rfl
  have hKc := hK.sub (tys' := []) [] rfl
  have hFc := va_free (wc := [(y, .inr (5, [.int (nI 0), .int (nI 0), .int (nI 0), .int (nI 0), .int (nI 0), .int (nI 0), .null, .null, .null, .null, .null, .int (nI 0), .int (nI 0), .null, .int (nI 0), .null, .int (nI 0), .null, .int (nI 0), .int (nI 0)]))]) hD hS hA [11] rfl
  refine va_callv (va_runI (As := [.int p0, .int p1, .int p2]) (rest := [.ref y]) ⟨hx, hb, hml, hown, hg⟩ (c_M_init l D H.size y bi ne li sp q p0 p1 p2 hbi hne hsp hq hq1 hq2 hli) (cwI 3 hg (gI gw_512) rfl rfl rfl (hg _ gw_7) (hg _ gw_510) (hg _ gw_511) rfl (by decide +kernel) ⟨Nat.le_of_ble_eq_true rfl, Nat.le_of_ble_eq_true rfl⟩) ⟨fun a U g mk q => by obtain ⟨q0, q1, qP, qK, qD⟩ := q; exact ⟨q0, q1, qP, va_K.moved (u := U) (U := U.calling g mk a) (Vm.Alike.refl U.vm) qK, qD⟩, fun U hU hW => ⟨rfl, by rw [hU], by rw [hU]; exact hPc, va_K.moved hW.alike hKc, hDc.weaken (fun _ _ _ _ => trivial)⟩⟩ rfl rfl hl.1 rfl (lv_room (Nat.le_of_ble_eq_true rfl)) d_L_law_42 ⟨Nat.le_of_ble_eq_true rfl, Nat.le_of_ble_eq_true rfl⟩) hS (fun q _ h => hFc q h) hFc (fun u9 t9 H1 locs ht hvm hw hB hz1 hk1 hS => ?_)
  obtain ⟨ms, mw, mu, mc, mn, mr, mq, md, cI, cB2, hP1, hK1, hD1⟩ := hB
  rw [ht] at hP1
  have hK1 := va_K.moved hvm.symm hK1
  obtain ⟨hP, hD⟩ := va_join (wr := [(x, .inr (4, [.int (nI bi), .int (nI ne), .int (nI li), .int (nI sp), .int (nI q), .ref sw, .ref sr, .ref br, .ref bq, .int (nI 0)])), (sw, .inr (3, [.ref e00, .ref e01, .int (nI 0), .int (nI 0)])), (e00, .inr (2, [.int 0, .int (nI fs), .int (nI fs), .int (nI 1), .int (nI 0)])), (e01, .inr (2, [.int 1, .int (nI fs), .int (nI fs), .int (nI 1), .int (nI 0)])), (sr, .inr (3, [.ref e10, .ref e11, .int (nI 0), .int (nI 0)])), (e10, .inr (2, [.int 0, .int (nI fs), .int (nI fs), .int (nI 1), .int (nI 0)])), (e11, .inr (2, [.int 1, .int (nI fs), .int (nI fs), .int (nI 1), .int (nI 0)])), (br, .inr (1, [.ref ra, .int (nI 0)])), (ra, .inl (cB, 6000, .inl (fun _ => 0))), (bq, .inr (0, [.ref qa, .int (nI 0), .int (nI 0)])), (qa, .inl (cB, 1000, .inl (fun _ => 0)))]) (w1 := [(y, .inr (5, [.int (nI 0), .int (nI bi), .int (nI ne), .int (nI li), .int (nI sp), .int (nI q), .ref ms, .ref mw, .ref mu, .ref mc, .ref mn, .int 0, .int (nI 0), .ref mr, .int (nI 0), .ref mq, .int (nI 0), .ref md, .int (nI 0), .int (nI 0)])), (ms, .inl (cI, 2, .inl (upd (upd (fun _ => 0) 0 0) 1 0))), (mw, .inl (cI, 2, .inl (upd (upd (fun _ => 0) 0 0) 1 0))), (mu, .inl (cI, 4, .inl (upd (upd (upd (upd (fun _ => 0) 0 (nI (if (sp + 32) / 64 < 2 then 2 else (sp + 32) / 64))) 1 (nI (if (sp + 32) / 64 < 2 then 2 else (sp + 32) / 64))) 2 (nI (if (sp + 32) / 64 < 2 then 2 else (sp + 32) / 64))) 3 (nI (if (sp + 32) / 64 < 2 then 2 else (sp + 32) / 64))))), (mc, .inl (cI, 4, .inl (upd (upd (upd (upd (fun _ => 0) 0 1) 1 1) 2 1) 3 1))), (mn, .inl (cI, 4, .inl (upd (upd (upd (upd (fun _ => 0) 0 0) 1 0) 2 0) 3 0))), (mr, .inl (cB2, 6000, .inl (fun _ => 0))), (mq, .inl (cB2, 1000, .inl (fun _ => 0))), (md, .inl (cB2, 400, .inl (fun _ => 0)))]) hP hD [11] [0, 1, 2, 3, 4, 5, 6, 7, 8, 9, 10] rfl rfl (by decide) (by decide) hk1 hFc hP1 hD1
  have hK := hK.app hK1
  generalize H1 = H at hP hS ⊢
  have hP : va_P D CLS [(x, .inr (4, [.int (nI bi), .int (nI ne), .int (nI li), .int (nI sp), .int (nI q), .ref sw, .ref sr, .ref br, .ref bq, .int (nI 0)])), (sw, .inr (3, [.ref e00, .ref e01, .int (nI 0), .int (nI 0)])), (e00, .inr (2, [.int 0, .int (nI fs), .int (nI fs), .int (nI 1), .int (nI 0)])), (e01, .inr (2, [.int 1, .int (nI fs), .int (nI fs), .int (nI 1), .int (nI 0)])), (sr, .inr (3, [.ref e10, .ref e11, .int (nI 0), .int (nI 0)])), (e10, .inr (2, [.int 0, .int (nI fs), .int (nI fs), .int (nI 1), .int (nI 0)])), (e11, .inr (2, [.int 1, .int (nI fs), .int (nI fs), .int (nI 1), .int (nI 0)])), (br, .inr (1, [.ref ra, .int (nI 0)])), (ra, .inl (cB, 6000, .inl (fun _ => 0))), (bq, .inr (0, [.ref qa, .int (nI 0), .int (nI 0)])), (qa, .inl (cB, 1000, .inl (fun _ => 0))), (y, .inr (5, [.int (nI 0), .int (nI bi), .int (nI ne), .int (nI li), .int (nI sp), .int (nI q), .ref ms, .ref mw, .ref mu, .ref mc, .ref mn, .int 0, .int (nI 0), .ref mr, .int (nI 0), .ref mq, .int (nI 0), .ref md, .int (nI 0), .int (nI 0)])), (ms, .inl (cI, 2, .inl (upd (upd (fun _ => 0) 0 0) 1 0))), (mw, .inl (cI, 2, .inl (upd (upd (fun _ => 0) 0 0) 1 0))), (mu, .inl (cI, 4, .inl (upd (upd (upd (upd (fun _ => 0) 0 (nI (if (sp + 32) / 64 < 2 then 2 else (sp + 32) / 64))) 1 (nI (if (sp + 32) / 64 < 2 then 2 else (sp + 32) / 64))) 2 (nI (if (sp + 32) / 64 < 2 then 2 else (sp + 32) / 64))) 3 (nI (if (sp + 32) / 64 < 2 then 2 else (sp + 32) / 64))))), (mc, .inl (cI, 4, .inl (upd (upd (upd (upd (fun _ => 0) 0 1) 1 1) 2 1) 3 1))), (mn, .inl (cI, 4, .inl (upd (upd (upd (upd (fun _ => 0) 0 0) 1 0) 2 0) 3 0))), (mr, .inl (cB2, 6000, .inl (fun _ => 0))), (mq, .inl (cB2, 1000, .inl (fun _ => 0))), (md, .inl (cB2, 400, .inl (fun _ => 0)))] H := hP
  have hD : va_D (fun q => s.heap.size ≤ q) [(x, .inr (4, [.int (nI bi), .int (nI ne), .int (nI li), .int (nI sp), .int (nI q), .ref sw, .ref sr, .ref br, .ref bq, .int (nI 0)])), (sw, .inr (3, [.ref e00, .ref e01, .int (nI 0), .int (nI 0)])), (e00, .inr (2, [.int 0, .int (nI fs), .int (nI fs), .int (nI 1), .int (nI 0)])), (e01, .inr (2, [.int 1, .int (nI fs), .int (nI fs), .int (nI 1), .int (nI 0)])), (sr, .inr (3, [.ref e10, .ref e11, .int (nI 0), .int (nI 0)])), (e10, .inr (2, [.int 0, .int (nI fs), .int (nI fs), .int (nI 1), .int (nI 0)])), (e11, .inr (2, [.int 1, .int (nI fs), .int (nI fs), .int (nI 1), .int (nI 0)])), (br, .inr (1, [.ref ra, .int (nI 0)])), (ra, .inl (cB, 6000, .inl (fun _ => 0))), (bq, .inr (0, [.ref qa, .int (nI 0), .int (nI 0)])), (qa, .inl (cB, 1000, .inl (fun _ => 0))), (y, .inr (5, [.int (nI 0), .int (nI bi), .int (nI ne), .int (nI li), .int (nI sp), .int (nI q), .ref ms, .ref mw, .ref mu, .ref mc, .ref mn, .int 0, .int (nI 0), .ref mr, .int (nI 0), .ref mq, .int (nI 0), .ref md, .int (nI 0), .int (nI 0)])), (ms, .inl (cI, 2, .inl (upd (upd (fun _ => 0) 0 0) 1 0))), (mw, .inl (cI, 2, .inl (upd (upd (fun _ => 0) 0 0) 1 0))), (mu, .inl (cI, 4, .inl (upd (upd (upd (upd (fun _ => 0) 0 (nI (if (sp + 32) / 64 < 2 then 2 else (sp + 32) / 64))) 1 (nI (if (sp + 32) / 64 < 2 then 2 else (sp + 32) / 64))) 2 (nI (if (sp + 32) / 64 < 2 then 2 else (sp + 32) / 64))) 3 (nI (if (sp + 32) / 64 < 2 then 2 else (sp + 32) / 64))))), (mc, .inl (cI, 4, .inl (upd (upd (upd (upd (fun _ => 0) 0 1) 1 1) 2 1) 3 1))), (mn, .inl (cI, 4, .inl (upd (upd (upd (upd (fun _ => 0) 0 0) 1 0) 2 0) 3 0))), (mr, .inl (cB2, 6000, .inl (fun _ => 0))), (mq, .inl (cB2, 1000, .inl (fun _ => 0))), (md, .inl (cB2, 400, .inl (fun _ => 0)))] := hD
  have hK : va_K D CLS [(cB, .byte), (cI, .int), (cB2, .byte)] s := hK
  obtain rfl : cB = cB2 := Option.some.inj ((hK.2 0 (cB, .byte) rfl).2.symm.trans (hK.2 2 (cB2, .byte) rfl).2)
  have hK := hK.sub (tys' := [(cB, .byte), (cI, .int)]) [0, 1] rfl
  have hP : va_P D CLS [(x, .inr (4, [.int (nI bi), .int (nI ne), .int (nI li), .int (nI sp), .int (nI q), .ref sw, .ref sr, .ref br, .ref bq, .int (nI 0)])), (sw, .inr (3, [.ref e00, .ref e01, .int (nI 0), .int (nI 0)])), (e00, .inr (2, [.int 0, .int (nI fs), .int (nI fs), .int (nI 1), .int (nI 0)])), (e01, .inr (2, [.int 1, .int (nI fs), .int (nI fs), .int (nI 1), .int (nI 0)])), (sr, .inr (3, [.ref e10, .ref e11, .int (nI 0), .int (nI 0)])), (e10, .inr (2, [.int 0, .int (nI fs), .int (nI fs), .int (nI 1), .int (nI 0)])), (e11, .inr (2, [.int 1, .int (nI fs), .int (nI fs), .int (nI 1), .int (nI 0)])), (br, .inr (1, [.ref ra, .int (nI 0)])), (ra, .inl (cB, 6000, .inl (fun _ => 0))), (bq, .inr (0, [.ref qa, .int (nI 0), .int (nI 0)])), (qa, .inl (cB, 1000, .inl (fun _ => 0))), (y, .inr (5, [.int (nI 0), .int (nI bi), .int (nI ne), .int (nI li), .int (nI sp), .int (nI q), .ref ms, .ref mw, .ref mu, .ref mc, .ref mn, .int 0, .int (nI 0), .ref mr, .int (nI 0), .ref mq, .int (nI 0), .ref md, .int (nI 0), .int (nI 0)])), (ms, .inl (cI, 2, .inl (upd (upd (fun _ => 0) 0 0) 1 0))), (mw, .inl (cI, 2, .inl (upd (upd (fun _ => 0) 0 0) 1 0))), (mu, .inl (cI, 4, .inl (upd (upd (upd (upd (fun _ => 0) 0 (nI (if (sp + 32) / 64 < 2 then 2 else (sp + 32) / 64))) 1 (nI (if (sp + 32) / 64 < 2 then 2 else (sp + 32) / 64))) 2 (nI (if (sp + 32) / 64 < 2 then 2 else (sp + 32) / 64))) 3 (nI (if (sp + 32) / 64 < 2 then 2 else (sp + 32) / 64))))), (mc, .inl (cI, 4, .inl (upd (upd (upd (upd (fun _ => 0) 0 1) 1 1) 2 1) 3 1))), (mn, .inl (cI, 4, .inl (upd (upd (upd (upd (fun _ => 0) 0 0) 1 0) 2 0) 3 0))), (mr, .inl (cB, 6000, .inl (fun _ => 0))), (mq, .inl (cB, 1000, .inl (fun _ => 0))), (md, .inl (cB, 400, .inl (fun _ => 0)))] H := hP
  have hD : va_D (fun q => s.heap.size ≤ q) [(x, .inr (4, [.int (nI bi), .int (nI ne), .int (nI li), .int (nI sp), .int (nI q), .ref sw, .ref sr, .ref br, .ref bq, .int (nI 0)])), (sw, .inr (3, [.ref e00, .ref e01, .int (nI 0), .int (nI 0)])), (e00, .inr (2, [.int 0, .int (nI fs), .int (nI fs), .int (nI 1), .int (nI 0)])), (e01, .inr (2, [.int 1, .int (nI fs), .int (nI fs), .int (nI 1), .int (nI 0)])), (sr, .inr (3, [.ref e10, .ref e11, .int (nI 0), .int (nI 0)])), (e10, .inr (2, [.int 0, .int (nI fs), .int (nI fs), .int (nI 1), .int (nI 0)])), (e11, .inr (2, [.int 1, .int (nI fs), .int (nI fs), .int (nI 1), .int (nI 0)])), (br, .inr (1, [.ref ra, .int (nI 0)])), (ra, .inl (cB, 6000, .inl (fun _ => 0))), (bq, .inr (0, [.ref qa, .int (nI 0), .int (nI 0)])), (qa, .inl (cB, 1000, .inl (fun _ => 0))), (y, .inr (5, [.int (nI 0), .int (nI bi), .int (nI ne), .int (nI li), .int (nI sp), .int (nI q), .ref ms, .ref mw, .ref mu, .ref mc, .ref mn, .int 0, .int (nI 0), .ref mr, .int (nI 0), .ref mq, .int (nI 0), .ref md, .int (nI 0), .int (nI 0)])), (ms, .inl (cI, 2, .inl (upd (upd (fun _ => 0) 0 0) 1 0))), (mw, .inl (cI, 2, .inl (upd (upd (fun _ => 0) 0 0) 1 0))), (mu, .inl (cI, 4, .inl (upd (upd (upd (upd (fun _ => 0) 0 (nI (if (sp + 32) / 64 < 2 then 2 else (sp + 32) / 64))) 1 (nI (if (sp + 32) / 64 < 2 then 2 else (sp + 32) / 64))) 2 (nI (if (sp + 32) / 64 < 2 then 2 else (sp + 32) / 64))) 3 (nI (if (sp + 32) / 64 < 2 then 2 else (sp + 32) / 64))))), (mc, .inl (cI, 4, .inl (upd (upd (upd (upd (fun _ => 0) 0 1) 1 1) 2 1) 3 1))), (mn, .inl (cI, 4, .inl (upd (upd (upd (upd (fun _ => 0) 0 0) 1 0) 2 0) 3 0))), (mr, .inl (cB, 6000, .inl (fun _ => 0))), (mq, .inl (cB, 1000, .inl (fun _ => 0))), (md, .inl (cB, 400, .inl (fun _ => 0)))] := hD
  refine lv_astore_n (lv' := [(2, .ref y), (1, .ref x), (0, .ref b)]) hx hb d_L_law_45 rfl hl (by decide) rfl (fun ls hl => ?_)
  refine lv_iconst (v := 1) hx hb d_L_law_46 (by decide) ?_
  refine va_newa (atype := .long) (a0 := (1, .inr (.inl (fun _ => 0)))) (N' := 1) hx hb (hg _ gw_735) (ty := .long) rfl hK hP hD hS hA (fun _ => rfl) (by decide) (by decide) (by decide) (Nat.le_of_ble_eq_true rfl) (Nat.le_of_ble_eq_true rfl) d_L_law_47 (fun oo cL H hK hP hD hS => ?_)
  have hP : va_P D CLS [(x, .inr (4, [.int (nI bi), .int (nI ne), .int (nI li), .int (nI sp), .int (nI q), .ref sw, .ref sr, .ref br, .ref bq, .int (nI 0)])), (sw, .inr (3, [.ref e00, .ref e01, .int (nI 0), .int (nI 0)])), (e00, .inr (2, [.int 0, .int (nI fs), .int (nI fs), .int (nI 1), .int (nI 0)])), (e01, .inr (2, [.int 1, .int (nI fs), .int (nI fs), .int (nI 1), .int (nI 0)])), (sr, .inr (3, [.ref e10, .ref e11, .int (nI 0), .int (nI 0)])), (e10, .inr (2, [.int 0, .int (nI fs), .int (nI fs), .int (nI 1), .int (nI 0)])), (e11, .inr (2, [.int 1, .int (nI fs), .int (nI fs), .int (nI 1), .int (nI 0)])), (br, .inr (1, [.ref ra, .int (nI 0)])), (ra, .inl (cB, 6000, .inl (fun _ => 0))), (bq, .inr (0, [.ref qa, .int (nI 0), .int (nI 0)])), (qa, .inl (cB, 1000, .inl (fun _ => 0))), (y, .inr (5, [.int (nI 0), .int (nI bi), .int (nI ne), .int (nI li), .int (nI sp), .int (nI q), .ref ms, .ref mw, .ref mu, .ref mc, .ref mn, .int 0, .int (nI 0), .ref mr, .int (nI 0), .ref mq, .int (nI 0), .ref md, .int (nI 0), .int (nI 0)])), (ms, .inl (cI, 2, .inl (upd (upd (fun _ => 0) 0 0) 1 0))), (mw, .inl (cI, 2, .inl (upd (upd (fun _ => 0) 0 0) 1 0))), (mu, .inl (cI, 4, .inl (upd (upd (upd (upd (fun _ => 0) 0 (nI (if (sp + 32) / 64 < 2 then 2 else (sp + 32) / 64))) 1 (nI (if (sp + 32) / 64 < 2 then 2 else (sp + 32) / 64))) 2 (nI (if (sp + 32) / 64 < 2 then 2 else (sp + 32) / 64))) 3 (nI (if (sp + 32) / 64 < 2 then 2 else (sp + 32) / 64))))), (mc, .inl (cI, 4, .inl (upd (upd (upd (upd (fun _ => 0) 0 1) 1 1) 2 1) 3 1))), (mn, .inl (cI, 4, .inl (upd (upd (upd (upd (fun _ => 0) 0 0) 1 0) 2 0) 3 0))), (mr, .inl (cB, 6000, .inl (fun _ => 0))), (mq, .inl (cB, 1000, .inl (fun _ => 0))), (md, .inl (cB, 400, .inl (fun _ => 0))), (oo, .inl (cL, 1, .inr (.inl (fun _ => 0))))] H := hP
  have hD : va_D (fun q => s.heap.size ≤ q) [(x, .inr (4, [.int (nI bi), .int (nI ne), .int (nI li), .int (nI sp), .int (nI q), .ref sw, .ref sr, .ref br, .ref bq, .int (nI 0)])), (sw, .inr (3, [.ref e00, .ref e01, .int (nI 0), .int (nI 0)])), (e00, .inr (2, [.int 0, .int (nI fs), .int (nI fs), .int (nI 1), .int (nI 0)])), (e01, .inr (2, [.int 1, .int (nI fs), .int (nI fs), .int (nI 1), .int (nI 0)])), (sr, .inr (3, [.ref e10, .ref e11, .int (nI 0), .int (nI 0)])), (e10, .inr (2, [.int 0, .int (nI fs), .int (nI fs), .int (nI 1), .int (nI 0)])), (e11, .inr (2, [.int 1, .int (nI fs), .int (nI fs), .int (nI 1), .int (nI 0)])), (br, .inr (1, [.ref ra, .int (nI 0)])), (ra, .inl (cB, 6000, .inl (fun _ => 0))), (bq, .inr (0, [.ref qa, .int (nI 0), .int (nI 0)])), (qa, .inl (cB, 1000, .inl (fun _ => 0))), (y, .inr (5, [.int (nI 0), .int (nI bi), .int (nI ne), .int (nI li), .int (nI sp), .int (nI q), .ref ms, .ref mw, .ref mu, .ref mc, .ref mn, .int 0, .int (nI 0), .ref mr, .int (nI 0), .ref mq, .int (nI 0), .ref md, .int (nI 0), .int (nI 0)])), (ms, .inl (cI, 2, .inl (upd (upd (fun _ => 0) 0 0) 1 0))), (mw, .inl (cI, 2, .inl (upd (upd (fun _ => 0) 0 0) 1 0))), (mu, .inl (cI, 4, .inl (upd (upd (upd (upd (fun _ => 0) 0 (nI (if (sp + 32) / 64 < 2 then 2 else (sp + 32) / 64))) 1 (nI (if (sp + 32) / 64 < 2 then 2 else (sp + 32) / 64))) 2 (nI (if (sp + 32) / 64 < 2 then 2 else (sp + 32) / 64))) 3 (nI (if (sp + 32) / 64 < 2 then 2 else (sp + 32) / 64))))), (mc, .inl (cI, 4, .inl (upd (upd (upd (upd (fun _ => 0) 0 1) 1 1) 2 1) 3 1))), (mn, .inl (cI, 4, .inl (upd (upd (upd (upd (fun _ => 0) 0 0) 1 0) 2 0) 3 0))), (mr, .inl (cB, 6000, .inl (fun _ => 0))), (mq, .inl (cB, 1000, .inl (fun _ => 0))), (md, .inl (cB, 400, .inl (fun _ => 0))), (oo, .inl (cL, 1, .inr (.inl (fun _ => 0))))] := hD
  have hK : va_K D CLS [(cB, .byte), (cI, .int), (cL, .long)] s := hK
  refine lv_astore_n (lv' := [(3, .ref oo), (2, .ref y), (1, .ref x), (0, .ref b)]) hx hb d_L_law_49 rfl hl (by decide) rfl (fun ls hl => ?_)
  refine lv_iconst (v := 3) hx hb d_L_law_50 (by decide) ?_
  refine tpi (y := nI (3 + 4 * 0)) (rfl) ?_
  refine lv_istore (lv' := [(4, .int (nI (3 + 4 * 0))), (3, .ref oo), (2, .ref y), (1, .ref x), (0, .ref b)]) hx hb d_L_law_51 hl (by decide) rfl (fun ls hl => ?_)
  have hPX : va_P D CLS ((oo, .inl (cL, 1, .inr (.inl (fun _ => 0)))) :: CWd x sw e00 e01 sr e10 e11 br ra bq qa cB bi ne li sp q fs 0 0 0 0 0 fs 1 0 fs 1 0 fs 1 0 fs 1 0 0 0 0 (fun _ => 0) (fun _ => 0)) H := hP.sub [20, 0, 1, 2, 3, 4, 5, 6, 7, 8, 9, 10] rfl
  have hPM : va_P D CLS (MWd y ms mw mu mc mn mr mq md cI cB bi ne li sp q 0 0 0 (nI 0) (nI 0) (nI 0) (nI 0) (upd (upd (fun _ => 0) 0 0) 1 0) (upd (upd (fun _ => 0) 0 0) 1 0) (upd (upd (upd (upd (fun _ => 0) 0 (nI (if (sp + 32) / 64 < 2 then 2 else (sp + 32) / 64))) 1 (nI (if (sp + 32) / 64 < 2 then 2 else (sp + 32) / 64))) 2 (nI (if (sp + 32) / 64 < 2 then 2 else (sp + 32) / 64))) 3 (nI (if (sp + 32) / 64 < 2 then 2 else (sp + 32) / 64))) (upd (upd (upd (upd (fun _ => 0) 0 1) 1 1) 2 1) 3 1) (upd (upd (upd (upd (fun _ => 0) 0 0) 1 0) 2 0) 3 0) (fun _ => 0) (fun _ => 0) (fun _ => 0)) H := hP.sub [11, 12, 13, 14, 15, 16, 17, 18, 19] rfl
  have hDXM : va_D (fun q => s.heap.size ≤ q) (((oo, .inl (cL, 1, .inr (.inl (fun _ => 0)))) :: CWd x sw e00 e01 sr e10 e11 br ra bq qa cB bi ne li sp q fs 0 0 0 0 0 fs 1 0 fs 1 0 fs 1 0 fs 1 0 0 0 0 (fun _ => 0) (fun _ => 0)) ++ (MWd y ms mw mu mc mn mr mq md cI cB bi ne li sp q 0 0 0 (nI 0) (nI 0) (nI 0) (nI 0) (upd (upd (fun _ => 0) 0 0) 1 0) (upd (upd (fun _ => 0) 0 0) 1 0) (upd (upd (upd (upd (fun _ => 0) 0 (nI (if (sp + 32) / 64 < 2 then 2 else (sp + 32) / 64))) 1 (nI (if (sp + 32) / 64 < 2 then 2 else (sp + 32) / 64))) 2 (nI (if (sp + 32) / 64 < 2 then 2 else (sp + 32) / 64))) 3 (nI (if (sp + 32) / 64 < 2 then 2 else (sp + 32) / 64))) (upd (upd (upd (upd (fun _ => 0) 0 1) 1 1) 2 1) 3 1) (upd (upd (upd (upd (fun _ => 0) 0 0) 1 0) 2 0) 3 0) (fun _ => 0) (fun _ => 0) (fun _ => 0))) := hD.sub [20, 0, 1, 2, 3, 4, 5, 6, 7, 8, 9, 10, 11, 12, 13, 14, 15, 16, 17, 18, 19] (by decide) rfl
  have hDX : va_D (fun q => s.heap.size ≤ q) ((oo, .inl (cL, 1, .inr (.inl (fun _ => 0)))) :: CWd x sw e00 e01 sr e10 e11 br ra bq qa cB bi ne li sp q fs 0 0 0 0 0 fs 1 0 fs 1 0 fs 1 0 fs 1 0 0 0 0 (fun _ => 0) (fun _ => 0)) := hD.sub [20, 0, 1, 2, 3, 4, 5, 6, 7, 8, 9, 10] (by decide) rfl
  have hDM : va_D (fun q => s.heap.size ≤ q) (MWd y ms mw mu mc mn mr mq md cI cB bi ne li sp q 0 0 0 (nI 0) (nI 0) (nI 0) (nI 0) (upd (upd (fun _ => 0) 0 0) 1 0) (upd (upd (fun _ => 0) 0 0) 1 0) (upd (upd (upd (upd (fun _ => 0) 0 (nI (if (sp + 32) / 64 < 2 then 2 else (sp + 32) / 64))) 1 (nI (if (sp + 32) / 64 < 2 then 2 else (sp + 32) / 64))) 2 (nI (if (sp + 32) / 64 < 2 then 2 else (sp + 32) / 64))) 3 (nI (if (sp + 32) / 64 < 2 then 2 else (sp + 32) / 64))) (upd (upd (upd (upd (fun _ => 0) 0 1) 1 1) 2 1) 3 1) (upd (upd (upd (upd (fun _ => 0) 0 0) 1 0) 2 0) 3 0) (fun _ => 0) (fun _ => 0) (fun _ => 0)) := hD.sub [11, 12, 13, 14, 15, 16, 17, 18, 19] (by decide) rfl
  have hK3 := hK.sub (tys' := [(cL, .long), (cB, .byte), (cI, .int)]) [2, 0, 1] rfl
  have hfl1 : fs ≤ 32768 * 1 := by rw [hfs]; split <;> omega
  have hR : REL li sp q fs 0 0 0 0 0 fs 1 0 fs 1 0 fs 1 0 fs 1 0 0 0 0 (fun _ => 0) (fun _ => 0) (upd (upd (fun _ => 0) 0 0) 1 0) (upd (upd (fun _ => 0) 0 0) 1 0) (upd (upd (upd (upd (fun _ => 0) 0 (nI (if (sp + 32) / 64 < 2 then 2 else (sp + 32) / 64))) 1 (nI (if (sp + 32) / 64 < 2 then 2 else (sp + 32) / 64))) 2 (nI (if (sp + 32) / 64 < 2 then 2 else (sp + 32) / 64))) 3 (nI (if (sp + 32) / 64 < 2 then 2 else (sp + 32) / 64))) (upd (upd (upd (upd (fun _ => 0) 0 1) 1 1) 2 1) 3 1) (upd (upd (upd (upd (fun _ => 0) 0 0) 1 0) 2 0) 3 0) (fun _ => 0) (fun _ => 0) := ⟨⟨hq, hlb.1, hlb.2, hsb.1, hsb.2, hfs⟩, Or.inl rfl, ⟨by decide, by decide, by decide, by decide, rfl, rfl, rfl, rfl⟩, ⟨by rw [hfs]; rfl, rfl, rfl, by decide, by decide, by decide, hfl1⟩, ⟨by rw [hfs]; rfl, rfl, rfl, by decide, by decide, by decide, hfl1⟩, ⟨by rw [hfs]; rfl, rfl, rfl, by decide, by decide, by decide, hfl1⟩, ⟨by rw [hfs]; rfl, rfl, rfl, by decide, by decide, by decide, hfl1⟩, ⟨by decide, fun j hj => absurd hj (Nat.not_lt_zero _)⟩, ⟨by decide, by decide, fun j hj => absurd hj (Nat.not_lt_zero _)⟩⟩
  refine W.widen (k := 21 + 0) (n := 14480 + 6 * 0) (Nat.le_of_ble_eq_true rfl) (Nat.le_of_ble_eq_true rfl) ?_
  exact law_loop C0 hL l hst D tw sa x sw e00 e01 sr e10 e11 br ra bq qa y ms mw mu mc mn mr mq md bi ne li sp q fs oo cB cI cL hE hEX hEC hK3 (ap_dis hDXM) (adD hDX) (adD hDM) 513 0 (by omega) (by omega) (fun _ => 0) 0 0 0 0 0 fs 1 0 fs 1 0 fs 1 0 fs 1 0 0 0 0 (fun _ => 0) (fun _ => 0) (nI 0) (nI 0) (nI 0) (nI 0) (upd (upd (fun _ => 0) 0 0) 1 0) (upd (upd (fun _ => 0) 0 0) 1 0) (upd (upd (upd (upd (fun _ => 0) 0 (nI (if (sp + 32) / 64 < 2 then 2 else (sp + 32) / 64))) 1 (nI (if (sp + 32) / 64 < 2 then 2 else (sp + 32) / 64))) 2 (nI (if (sp + 32) / 64 < 2 then 2 else (sp + 32) / 64))) 3 (nI (if (sp + 32) / 64 < 2 then 2 else (sp + 32) / 64))) (upd (upd (upd (upd (fun _ => 0) 0 1) 1 1) 2 1) 3 1) (upd (upd (upd (upd (fun _ => 0) 0 0) 1 0) 2 0) 3 0) (fun _ => 0) (fun _ => 0) (fun _ => 0) hR (hDX.weaken (fun _ _ _ _ => trivial)) (hDM.weaken (fun _ _ _ _ => trivial)) hPX hPM hS (lv_sub hl [0, 4, 3, 2, 1] rfl)
set_option maxHeartbeats 4000000 in
theorem lw_walk (l : Launch) (hst : l.stackTraces = false) (b : Addr) (xs : List Int32) : MetFree l x (headSpec (Jvm.Cond.code x code maxLocals ret :: tables_1) room_1) (lw_P b xs) (fun _ _ _ _ _ => True) lw_Q := by
  refine MetFree.of_bodyS (code := code) (maxLocals := maxLocals) (ret := ret) (by decide) ?_ ?_
  · intro args s m h hn
    obtain ⟨meth, c, h1, h2, h3, h4, h5, h6, -, -⟩ := Cond.code_spec hn (atoms_spec (ws := Jvm.Cond.code x code maxLocals ret :: tables_1) h _ List.mem_cons_self)
    exact ⟨meth, c, h1, h2, h3, h4, h5, h6⟩
  · intro p e s m args below meth c s₁ B hml0 hP _
    obtain ⟨rfl, hx, hbd, hgv⟩ := hP
    obtain ⟨scr, harrAt, hlist, hof, hsmall⟩ := hx
    obtain ⟨hcb, hkn, -, -⟩ := State.arrayAt?_spec harrAt
    have hown : s.vm.findClass R_law = some m.cls := findClass_of_methodNamed B.named
    have hts0 : ∀ c ∈ (Jvm.Cond.code x code maxLocals ret :: tables_1), c.before #[Value.ref b] s = true := atoms_spec (ws := Jvm.Cond.code x code maxLocals ret :: tables_1) B.pre
    have hts : ∀ w ∈ lw_tbl, w.before #[Value.ref b] s = true := k2_hts_sels lw_privs (fun w hw => hts0 w (List.mem_cons_of_mem _ hw)) lw_privs_ok
    have hml : c.maxLocals = 7 := B.maxLocals_eq (hts0 _ List.mem_cons_self)
    have X₀ : Stand p l e room_1 s m #[Value.ref b] below meth c s₁ [] 0 0 := Stand.of_body B
    have hh0 : s₁.heap = s.heap := by rw [B.state]; rfl
    have hsz : scr.slots.size = xs.length := by rw [← Array.length_toList, hlist, List.length_map]
    have hval : ∀ j : Nat, j < xs.length → scr.slots[j]? = some (.int (xs.getD j 0)) := fun j hj => by
      rw [← Array.getElem?_toList, hlist]
      simp [hj]
    have hbl : b < s.heap.size := (Array.getElem?_eq_some_iff.mp hcb).1
    have hX : va_X b xs.length (fun j => xs.getD j 0) s s.heap := ⟨scr, hcb, hof, hkn, hsz, hval⟩
    have K : W p l e room_1 s m #[Value.ref b] below meth c s₁.heap [] 0 0 (lw_Z below #[Value.ref b] s) (entryFrame m ([Value.ref b] : List Value).toArray 7) := by
      rw [hh0]
      exact whole_start l hst hbd ⟨B.exec, B.bytes, B.returns, hml, hown, hts, hX, hbl, B.notSynchronized, hgv⟩
    obtain ⟨t, a1, o, b1, b2, b3⟩ := K s₁ rfl X₀
    exact ⟨t, o, a1, b1, b2, b3⟩
theorem lw_pre_spec {args : Array Value} {s : State} (h : (Jvm.Cond.and given_1 narrow_1).before args s = true) (hr : rest_1_c.before args s = true) : ∃ (b : Addr) (xs : List Int32), lw_P b xs args s := by
  have hs := flat_of_before _ h
  have hq := flat_of_before _ hr
  have hc : (Cond.count 1).before args s = true := hs _ (by decide +kernel)
  have harr : (Cond.arrayOf (.arg 0) .int).before args s = true := hs _ (by decide +kernel)
  have hle : (Cond.le (.length (.arg 0)) (.int 2051)).before args s = true := hs _ (by decide +kernel)
  have hlen : (Cond.isInt (.length (.arg 0))).before args s = true := hq _ (by decide +kernel)
  have hall : (Cond.all (.arg 0) (.isInt (.elem (.arg 0) (.index 0)))).before args s = true := hq _ (by decide +kernel)
  obtain ⟨b, xs, hb, hx⟩ := State.ints_of_pre rfl harr hlen hall
  have hsm : xs.length < 2 ^ 31 := hx.choose_spec.2.2.2
  have hev : (Term.length (.arg 0)).eval args s none [] s = some (.int xs.length.toInt32) := hx.length_eval hb
  have hv := Cond.le_ints hev (show (Term.int 2051).eval args s none [] s = some (.int 2051) from rfl)
  have hd : xs.length.toInt32 ≤ 2051 := by
    simpa [Cond.before, Cond.holds, hv] using hle
  have hN : xs.length ≤ 2051 := (Int32.ofNat_le_ofNat hsm (by decide)).mp (show Int32.ofNat xs.length ≤ Int32.ofNat 2051 from hd)
  exact ⟨b, xs, Cond.one_arg hc (show args[0]? = some (.ref b) from hb), hx, hN, h⟩
theorem lw_comes (l : Launch) (hst : l.stackTraces = false) : Comes l x (Jvm.Cond.code x code maxLocals ret :: tables_1) room_1 (fun tb e args s => Calls_1 tb e args s ∧ rest_1 tb e args s ∧ Pre_1 tb e args s)
    (fun _ _ args s o t => lw_Q args s o t) := by
  intro p e ha hc hk s m args below hf hfit hheap happ hpre
  obtain ⟨b, xs, hP⟩ := lw_pre_spec hpre.2.2 hpre.2.1
  obtain ⟨k, o, h1, h2, h3, hQ⟩ := lw_walk l hst b xs p e ha hc hk s m args below hf ((Spec.applies_iff_loose hf).mp happ).1 hP trivial
  exact ⟨k, o, h1, h2, h3, hQ⟩
theorem lw_frame {s t : State} {o : Outcome} {args : Array Value} (h : Framed s o t [] 1064 22786) :
    Framed s o t (fieldLocs frame_1_writes args s ++ arrayLocs frame_1_arrays args s ++ staticLocs frame_1_statics s) 1064 22786 := h
theorem lw_limb (L : Cond) (hL : ∀ (args : Array Value) (s t : State), L.after args s (.returned (some (.int 1))) t = true) :
    ArmFor flags0 classFile x code maxLocals ret World_1 tables_1 room_1 Calls_1 rest_1 Pre_1
      (fun tb e a s o t => postC L tb e a s o t ∧ Framed s o t (fieldLocs frame_1_writes a s ++ arrayLocs frame_1_arrays a s ++ staticLocs frame_1_statics s) 1064 22786) := by
  intro l hfl _ _ p e ha hc hk s m args below hf hfit hheap happ hpre
  have hst : l.stackTraces = false := by show (!l.flags.contains Jvm.noTraceFlag) = false; rw [hfl]; decide +kernel
  obtain ⟨k, o, h1, h2, h3, rfl, hF⟩ := lw_comes l hst p e ha hc hk s m args below hf hfit hheap happ hpre
  exact ⟨k, _, h1, h2, h3, hL args s _, lw_frame hF⟩
theorem i_vc : Claimed_1_1 ∧ Claimed_1_2 := ⟨lw_limb limb_1_1 (fun args s t => by simp [limb_1_1, Cond.after, Cond.holds, Cond.value]), lw_limb limb_1_2 (fun args s t => Cond.after_iff.mpr (by
  first | (rw [show limb_1_2 = Cond.eq .result (.int 1) from rfl, Cond.eq_ints (x := 1) (y := 1) rfl rfl]; simp; done) | (simp [limb_1_2, Cond.value, Term.eval]; done)))⟩
