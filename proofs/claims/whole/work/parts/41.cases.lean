/-! the law's cases -/
theorem disH {A : Nat → Prop} {o : Nat × va_E} {w V : va_W} (hD : va_D A (o :: w)) (hV : ∀ q, ad V q → ¬ ad (o :: w) q) : ∀ q, ad (o :: V) q → ¬ ad w q := fun q h1 h2 => by
  rcases List.mem_cons.mp (show q ∈ o.1 :: V.map (·.1) from h1) with e | e
  · subst e; exact headN hD h2
  · exact hV q e (List.mem_cons_of_mem _ h2)
set_option maxHeartbeats 4000000 in
set_option maxRecDepth 100000 in
theorem lo_code {p : Program} {e : Env} {s : State} {m : MethodId} {below : List Frame} {meth : Method} {c : Code} {b L : Nat} {xs : Nat → Int32} (C0 : lw_At p s m meth c b L xs) (hL : L ≤ 2051) (l : Launch) (hst : l.stackTraces = false) (D : va_G) (tw : Nat) (sa : Nat → Nat) (x sw e00 e01 sr e10 e11 br ra bq qa y ms mw mu mc mn mr mq md bi ne li sp q fs oo : Nat) (cB cI cL : ClassId) (fo : Nat → Int64) (lb : Int32) (pl0 rw0 pl1 rw1 s0 c0 n0 s1 c1 n1 s2 c2 n2 s3 c3 n3 u fi h : Nat) (f g : Nat → Int32) (th la at0 lk : Int32) (st lw su cu nu wr wq dr : Nat → Int32) (hR : REL li sp q fs lb pl0 rw0 pl1 rw1 s0 c0 n0 s1 c1 n1 s2 c2 n2 s3 c3 n3 u fi h f g st lw su cu nu wr wq) (hE : EV (fun q => s.heap.size ≤ q) tw s) (hEX : EX (fun q => s.heap.size ≤ q) sa s) (hEC : EC s) (hK : va_K D CLS [(cL, .long), (cB, .byte), (cI, .int)] s) (hdis : ∀ q, q ∈ [y, ms, mw, mu, mc, mn, mr, mq, md] → ¬ q ∈ [oo, x, sw, e00, e01, sr, e10, e11, br, ra, bq, qa]) (hAX : ∀ q, q ∈ [oo, x, sw, e00, e01, sr, e10, e11, br, ra, bq, qa] → s.heap.size ≤ q) (hAM : ∀ q, q ∈ [y, ms, mw, mu, mc, mn, mr, mq, md] → s.heap.size ≤ q) (hDX : va_D (fun _ => True) ((oo, .inl (cL, 1, .inr (.inl fo))) :: CWd x sw e00 e01 sr e10 e11 br ra bq qa cB bi ne li sp q fs lb pl0 rw0 pl1 rw1 s0 c0 n0 s1 c1 n1 s2 c2 n2 s3 c3 n3 u fi h f g)) (hDM : va_D (fun _ => True) (MWd y ms mw mu mc mn mr mq md cI cB bi ne li sp q lb u h th la at0 lk st lw su cu nu wr wq dr)) (i : Nat) (hi : 3 + 4 * i + 4 ≤ L) {H : Heap} {locs : List Loc} (hPX : va_P D CLS ((oo, .inl (cL, 1, .inr (.inl fo))) :: CWd x sw e00 e01 sr e10 e11 br ra bq qa cB bi ne li sp q fs lb pl0 rw0 pl1 rw1 s0 c0 n0 s1 c1 n1 s2 c2 n2 s3 c3 n3 u fi h f g) H) (hPM : va_P D CLS (MWd y ms mw mu mc mn mr mq md cI cB bi ne li sp q lb u h th la at0 lk st lw su cu nu wr wq dr) H) (hS : va_S (fun q => s.heap.size ≤ q) s.heap H locs) {ls : Array Slot} (hl : lv_has ls 7 [(4, .int (nI (3 + 4 * i))), (0, .ref b), (1, .ref x), (2, .ref y), (3, .ref oo)]) (kk : ∀ (fo' : Nat → Int64) (lb' : Int32) (pl0' rw0' pl1' rw1' s0' c0' n0' s1' c1' n1' s2' c2' n2' s3' c3' n3' u' fi' h' : Nat) (f' g' : Nat → Int32) (th' la' at0' lk' : Int32) (st' lw' su' cu' nu' wr' wq' dr' : Nat → Int32) (H : Heap) (locs : List Loc) (ls : Array Slot), REL li sp q fs lb' pl0' rw0' pl1' rw1' s0' c0' n0' s1' c1' n1' s2' c2' n2' s3' c3' n3' u' fi' h' f' g' st' lw' su' cu' nu' wr' wq' → va_P D CLS ((oo, .inl (cL, 1, .inr (.inl fo'))) :: CWd x sw e00 e01 sr e10 e11 br ra bq qa cB bi ne li sp q fs lb' pl0' rw0' pl1' rw1' s0' c0' n0' s1' c1' n1' s2' c2' n2' s3' c3' n3' u' fi' h' f' g') H → va_P D CLS (MWd y ms mw mu mc mn mr mq md cI cB bi ne li sp q lb' u' h' th' la' at0' lk' st' lw' su' cu' nu' wr' wq' dr') H → va_S (fun q => s.heap.size ≤ q) s.heap H locs → lv_has ls 7 [(4, .int (nI (3 + 4 * i))), (0, .ref b), (1, .ref x), (2, .ref y), (3, .ref oo)] → W p l e room_1 s m #[Value.ref b] below meth c H locs (21 + i + 1) (14480 + 6 * i + 6) (lw_Z below #[Value.ref b] s) (F0 m 1111 ls [])) : W p l e room_1 s m #[Value.ref b] below meth c H locs (21 + i) (14480 + 6 * i) (lw_Z below #[Value.ref b] s) (F0 m 156 ls []) := by
  obtain ⟨hx, hb, hr, hml, hown, hts, hX, hbl, hlocks, hgv⟩ := id C0
  have hown : s.vm.findClass "LineGolombLaw" = some m.cls := hown
  have hg : ∀ w ∈ GW, w.before #[Value.ref b] s = true := fun w h => hts w (GW_tbl h)
  have hbA : ¬ s.heap.size ≤ b := Nat.not_le.mpr hbl
  have hKX := hK.sub (tys' := [(cL, .long), (cB, .byte)]) [0, 1] rfl
  have hKC := hK.sub (tys' := [(cB, .byte)]) [1] rfl
  have hKM := hK.sub (tys' := [(cI, .int), (cB, .byte)]) [2, 1] rfl
  refine lv_aload_n hx hb d_L_law_156 rfl (lv_at hl 2 rfl) ?_
  refine lv_aload_n hx hb d_L_law_157 rfl (lv_at hl 1 rfl) ?_
  refine lv_iload hx hb d_L_law_158 (lv_at hl 0 rfl) ?_
  refine lv_iconst (v := 1) hx hb d_L_law_160 (by decide) ?_
  refine lv_iadd hx hb d_L_law_161 ?_
  refine tpi (y := nI (3 + 4 * i + 1)) (nI_add _ 1) ?_
  refine va_sld hx hb hX hbl hbA hS (vp_in_nI (by omega) (by omega)) d_L_law_162 ?_
  refine tpi (y := xs (3 + 4 * i + 1)) (by rw [nI_clamp (by omega)]) ?_
  refine lv_aload_n hx hb d_L_law_163 rfl (lv_at hl 1 rfl) ?_
  refine lv_iload hx hb d_L_law_164 (lv_at hl 0 rfl) ?_
  refine lv_iconst (v := 2) hx hb d_L_law_166 (by decide) ?_
  refine lv_iadd hx hb d_L_law_167 ?_
  refine tpi (y := nI (3 + 4 * i + 2)) (nI_add _ 2) ?_
  refine va_sld hx hb hX hbl hbA hS (vp_in_nI (by omega) (by omega)) d_L_law_168 ?_
  refine tpi (y := xs (3 + 4 * i + 2)) (by rw [nI_clamp (by omega)]) ?_
  refine lv_aload_n hx hb d_L_law_169 rfl (lv_at hl 4 rfl) ?_
  obtain ⟨lb', pl0', rw0', pl1', rw1', s0', c0', n0', s1', c1', n1', s2', c2', n2', s3', c3', n3', u', fi', h', f', g', th', la', at0', lk', st', lw', su', cu', nu', wr', wq', dr', bb, fo1, hLT, hMT, heq, hR1⟩ := pr_code l hst D tw sa x sw e00 e01 sr e10 e11 br ra bq qa y ms mw mu mc mn mr mq md bi ne li sp q fs oo cB cI cL fo lb pl0 rw0 pl1 rw1 s0 c0 n0 s1 c1 n1 s2 c2 n2 s3 c3 n3 u fi h f g th la at0 lk st lw su cu nu wr wq dr hR (xs (3 + 4 * i + 1)) (xs (3 + 4 * i + 2))
  refine cal (vx_runSW (As := [.ref x, .int (xs (3 + 4 * i + 1)), .int (xs (3 + 4 * i + 2)), .ref oo]) (rest := []) ⟨hx, hb, hml, hown, hg⟩ hLT (vx_cwSW 4 hg (gSH gw_192 gw_193 gw_0 gw_194) rfl rfl rfl (by decide +kernel) ⟨by decide, by decide⟩) (preL hE hEX hEC hKX hPX hDX hS hAX) rfl rfl hl.1 rfl (lv_room (Nat.le_of_ble_eq_true rfl)) d_L_law_170 ⟨by show 21 + i + 1 ≤ 1064; omega, by show 14480 + 6 * i + 6 ≤ 22786; omega⟩) hS hPM hdis hAX (fun H locs hPX hPM hS => ?_)
  refine lv_istore (lv' := [(5, .int th'), (4, .int (nI (3 + 4 * i))), (0, .ref b), (1, .ref x), (2, .ref y), (3, .ref oo)]) hx hb d_L_law_173 hl (by decide) rfl (fun ls hl => ?_)
  refine lv_aload_n hx hb d_L_law_175 rfl (lv_at hl 4 rfl) ?_
  refine lv_aload_n hx hb d_L_law_176 rfl (lv_at hl 2 rfl) ?_
  refine lv_iload hx hb d_L_law_177 (lv_at hl 1 rfl) ?_
  refine lv_iconst (v := 1) hx hb d_L_law_179 (by decide) ?_
  refine lv_iadd hx hb d_L_law_180 ?_
  refine tpi (y := nI (3 + 4 * i + 1)) (nI_add _ 1) ?_
  refine va_sld hx hb hX hbl hbA hS (vp_in_nI (by omega) (by omega)) d_L_law_181 ?_
  refine tpi (y := xs (3 + 4 * i + 1)) (by rw [nI_clamp (by omega)]) ?_
  refine lv_aload_n hx hb d_L_law_182 rfl (lv_at hl 2 rfl) ?_
  refine lv_iload hx hb d_L_law_183 (lv_at hl 1 rfl) ?_
  refine lv_iconst (v := 2) hx hb d_L_law_185 (by decide) ?_
  refine lv_iadd hx hb d_L_law_186 ?_
  refine tpi (y := nI (3 + 4 * i + 2)) (nI_add _ 2) ?_
  refine va_sld hx hb hX hbl hbA hS (vp_in_nI (by omega) (by omega)) d_L_law_187 ?_
  refine tpi (y := xs (3 + 4 * i + 2)) (by rw [nI_clamp (by omega)]) ?_
  refine cal (va_runV (As := [.int (xs (3 + 4 * i + 1)), .int (xs (3 + 4 * i + 2))]) (rest := []) ⟨hx, hb, hml, hown, hg⟩ (hMT) (cwV 2 hg (gV gw_590 gw_591 gw_592 gw_7 gw_593) rfl rfl rfl (by decide +kernel) ⟨by decide, by decide⟩) (preM hKM hPM (va_D_addr hDM rfl)) rfl rfl hl.1 rfl (lv_room (Nat.le_of_ble_eq_true rfl)) d_L_law_188 ⟨by show 21 + i + 1 + 0 ≤ 1064; omega, by show 14480 + 6 * i + 6 + 0 ≤ 22786; omega⟩) hS hPX (fun q h1 h2 => hdis q h2 h1) hAM (fun H locs hPM hPX hS => ?_)
  refine lv_istore (lv' := [(6, .int bb), (5, .int th'), (4, .int (nI (3 + 4 * i))), (0, .ref b), (1, .ref x), (2, .ref y), (3, .ref oo)]) hx hb d_L_law_191 hl (by decide) rfl (fun ls hl => ?_)
  refine lv_aload_n hx hb d_L_law_193 rfl (lv_at hl 5 rfl) ?_
  refine pci (va_runV (As := []) (rest := []) ⟨hx, hb, hml, hown, hg⟩ (c_M_thrown l D y ms mw mu mc mn mr mq md bi ne li sp q u' h' th' lb' la' at0' lk') (cwV 0 hg (gV gw_586 gw_587 gw_588 gw_7 gw_589) rfl rfl rfl (by decide +kernel) ⟨by decide, by decide⟩) (preT hKM hPM) rfl rfl hl.1 rfl (lv_room (Nat.le_of_ble_eq_true rfl)) d_L_law_194 ⟨by show 21 + i + 1 + 0 + 0 ≤ 1064; omega, by show 14480 + 6 * i + 6 + 0 + 0 ≤ 22786; omega⟩) ?_
  refine lv_iload hx hb d_L_law_197 (lv_at hl 1 rfl) ?_
  refine lv_icmp_eq (tgt := 204) hx hb d_L_law_199 (by decide) (fun c_1 => ?_) (fun c_1 => ?_)
  · skip
    refine lv_iload hx hb d_L_law_204 (lv_at hl 1 rfl) ?_
    refine lv_if_ne (tgt := 221) hx hb d_L_law_206 (by decide) (fun c_2 => ?_) (fun c_2 => ?_)
    · skip
      refine lv_goto (tgt := 1111) hx hb d_L_law_221 (by decide) ?_
      exact kk fo1 lb' pl0' rw0' pl1' rw1' s0' c0' n0' s1' c1' n1' s2' c2' n2' s3' c3' n3' u' fi' h' f' g' th' la' at0' lk' st' lw' su' cu' nu' wr' wq' dr' H locs ls hR1 hPX hPM hS (lv_sub hl [2, 3, 4, 5, 6] rfl)
    · skip
      have hth : th' = 0 := c_2
      have heq := heq hth
      refine lv_aload_n hx hb d_L_law_209 rfl (lv_at hl 6 rfl) ?_
      refine lv_iconst (v := 0) hx hb d_L_law_210 (by decide) ?_
      refine va_lald hx hb hKX hPX 0 0 rfl rfl (vp_in_nI (n := 0) (by decide) (by decide)) d_L_law_211 ?_
      refine tpl (y := fo1 0) (rfl) ?_
      refine lv_iload hx hb d_L_law_212 (lv_at hl 0 rfl) ?_
      refine lv_i2l (v := bb.toInt64) hx hb d_L_law_214 (rfl) ?_
      have heq9 := heq
      refine W.lcmp hx hb d_L_law_215 ?_
      refine lv_if_eq (tgt := 221) hx hb d_L_law_216 (by decide) (fun c_3 => ?_) (fun c_3 => ?_)
      · skip
        refine lv_goto (tgt := 1111) hx hb d_L_law_221 (by decide) ?_
        exact kk fo1 lb' pl0' rw0' pl1' rw1' s0' c0' n0' s1' c1' n1' s2' c2' n2' s3' c3' n3' u' fi' h' f' g' th' la' at0' lk' st' lw' su' cu' nu' wr' wq' dr' H locs ls hR1 hPX hPM hS (lv_sub hl [2, 3, 4, 5, 6] rfl)
      · skip
        exact absurd ((lg_cmp_eq _ _).mpr heq9) c_3
  · skip
    exact absurd rfl c_1
set_option maxHeartbeats 4000000 in
set_option maxRecDepth 100000 in
theorem lo_run {p : Program} {e : Env} {s : State} {m : MethodId} {below : List Frame} {meth : Method} {c : Code} {b L : Nat} {xs : Nat → Int32} (C0 : lw_At p s m meth c b L xs) (hL : L ≤ 2051) (l : Launch) (hst : l.stackTraces = false) (D : va_G) (tw : Nat) (sa : Nat → Nat) (x sw e00 e01 sr e10 e11 br ra bq qa y ms mw mu mc mn mr mq md bi ne li sp q fs oo : Nat) (cB cI cL : ClassId) (fo : Nat → Int64) (lb : Int32) (pl0 rw0 pl1 rw1 s0 c0 n0 s1 c1 n1 s2 c2 n2 s3 c3 n3 u fi h : Nat) (f g : Nat → Int32) (th la at0 lk : Int32) (st lw su cu nu wr wq dr : Nat → Int32) (hR : REL li sp q fs lb pl0 rw0 pl1 rw1 s0 c0 n0 s1 c1 n1 s2 c2 n2 s3 c3 n3 u fi h f g st lw su cu nu wr wq) (hE : EV (fun q => s.heap.size ≤ q) tw s) (hEX : EX (fun q => s.heap.size ≤ q) sa s) (hEC : EC s) (hK : va_K D CLS [(cL, .long), (cB, .byte), (cI, .int)] s) (hdis : ∀ q, q ∈ [y, ms, mw, mu, mc, mn, mr, mq, md] → ¬ q ∈ [oo, x, sw, e00, e01, sr, e10, e11, br, ra, bq, qa]) (hAX : ∀ q, q ∈ [oo, x, sw, e00, e01, sr, e10, e11, br, ra, bq, qa] → s.heap.size ≤ q) (hAM : ∀ q, q ∈ [y, ms, mw, mu, mc, mn, mr, mq, md] → s.heap.size ≤ q) (hDX : va_D (fun _ => True) ((oo, .inl (cL, 1, .inr (.inl fo))) :: CWd x sw e00 e01 sr e10 e11 br ra bq qa cB bi ne li sp q fs lb pl0 rw0 pl1 rw1 s0 c0 n0 s1 c1 n1 s2 c2 n2 s3 c3 n3 u fi h f g)) (hDM : va_D (fun _ => True) (MWd y ms mw mu mc mn mr mq md cI cB bi ne li sp q lb u h th la at0 lk st lw su cu nu wr wq dr)) (i : Nat) (hi : 3 + 4 * i + 4 ≤ L) {H : Heap} {locs : List Loc} (hPX : va_P D CLS ((oo, .inl (cL, 1, .inr (.inl fo))) :: CWd x sw e00 e01 sr e10 e11 br ra bq qa cB bi ne li sp q fs lb pl0 rw0 pl1 rw1 s0 c0 n0 s1 c1 n1 s2 c2 n2 s3 c3 n3 u fi h f g) H) (hPM : va_P D CLS (MWd y ms mw mu mc mn mr mq md cI cB bi ne li sp q lb u h th la at0 lk st lw su cu nu wr wq dr) H) (hS : va_S (fun q => s.heap.size ≤ q) s.heap H locs) {ls : Array Slot} (hl : lv_has ls 7 [(4, .int (nI (3 + 4 * i))), (0, .ref b), (1, .ref x), (2, .ref y), (3, .ref oo)]) (kk : ∀ (fo' : Nat → Int64) (lb' : Int32) (pl0' rw0' pl1' rw1' s0' c0' n0' s1' c1' n1' s2' c2' n2' s3' c3' n3' u' fi' h' : Nat) (f' g' : Nat → Int32) (th' la' at0' lk' : Int32) (st' lw' su' cu' nu' wr' wq' dr' : Nat → Int32) (H : Heap) (locs : List Loc) (ls : Array Slot), REL li sp q fs lb' pl0' rw0' pl1' rw1' s0' c0' n0' s1' c1' n1' s2' c2' n2' s3' c3' n3' u' fi' h' f' g' st' lw' su' cu' nu' wr' wq' → va_P D CLS ((oo, .inl (cL, 1, .inr (.inl fo'))) :: CWd x sw e00 e01 sr e10 e11 br ra bq qa cB bi ne li sp q fs lb' pl0' rw0' pl1' rw1' s0' c0' n0' s1' c1' n1' s2' c2' n2' s3' c3' n3' u' fi' h' f' g') H → va_P D CLS (MWd y ms mw mu mc mn mr mq md cI cB bi ne li sp q lb' u' h' th' la' at0' lk' st' lw' su' cu' nu' wr' wq' dr') H → va_S (fun q => s.heap.size ≤ q) s.heap H locs → lv_has ls 7 [(4, .int (nI (3 + 4 * i))), (0, .ref b), (1, .ref x), (2, .ref y), (3, .ref oo)] → W p l e room_1 s m #[Value.ref b] below meth c H locs (21 + i + 1) (14480 + 6 * i + 6) (lw_Z below #[Value.ref b] s) (F0 m 1111 ls [])) : W p l e room_1 s m #[Value.ref b] below meth c H locs (21 + i) (14480 + 6 * i) (lw_Z below #[Value.ref b] s) (F0 m 224 ls []) := by
  obtain ⟨hx, hb, hr, hml, hown, hts, hX, hbl, hlocks, hgv⟩ := id C0
  have hown : s.vm.findClass "LineGolombLaw" = some m.cls := hown
  have hg : ∀ w ∈ GW, w.before #[Value.ref b] s = true := fun w h => hts w (GW_tbl h)
  have hbA : ¬ s.heap.size ≤ b := Nat.not_le.mpr hbl
  have hKX := hK.sub (tys' := [(cL, .long), (cB, .byte)]) [0, 1] rfl
  have hKC := hK.sub (tys' := [(cB, .byte)]) [1] rfl
  have hKM := hK.sub (tys' := [(cI, .int), (cB, .byte)]) [2, 1] rfl
  refine lv_aload_n hx hb d_L_law_224 rfl (lv_at hl 2 rfl) ?_
  refine lv_aload_n hx hb d_L_law_225 rfl (lv_at hl 1 rfl) ?_
  refine lv_iload hx hb d_L_law_226 (lv_at hl 0 rfl) ?_
  refine lv_iconst (v := 1) hx hb d_L_law_228 (by decide) ?_
  refine lv_iadd hx hb d_L_law_229 ?_
  refine tpi (y := nI (3 + 4 * i + 1)) (nI_add _ 1) ?_
  refine va_sld hx hb hX hbl hbA hS (vp_in_nI (by omega) (by omega)) d_L_law_230 ?_
  refine tpi (y := xs (3 + 4 * i + 1)) (by rw [nI_clamp (by omega)]) ?_
  refine lv_aload_n hx hb d_L_law_231 rfl (lv_at hl 1 rfl) ?_
  refine lv_iload hx hb d_L_law_232 (lv_at hl 0 rfl) ?_
  refine lv_iconst (v := 2) hx hb d_L_law_234 (by decide) ?_
  refine lv_iadd hx hb d_L_law_235 ?_
  refine tpi (y := nI (3 + 4 * i + 2)) (nI_add _ 2) ?_
  refine va_sld hx hb hX hbl hbA hS (vp_in_nI (by omega) (by omega)) d_L_law_236 ?_
  refine tpi (y := xs (3 + 4 * i + 2)) (by rw [nI_clamp (by omega)]) ?_
  refine lv_if_eq (tgt := 244) hx hb d_L_law_237 (by decide) (fun c_1 => ?_) (fun c_1 => ?_)
  · skip
    have hz1 := c_1
    have hb1 : (0 : Int32) = 0 ∨ (0 : Int32) = 1 := Or.inl rfl
    refine lv_iconst (v := 0) hx hb d_L_law_244 (by decide) ?_
    refine lv_aload_n hx hb d_L_law_245 rfl (lv_at hl 4 rfl) ?_
    obtain ⟨lb', pl0', rw0', pl1', rw1', s0', c0', n0', s1', c1', n1', s2', c2', n2', s3', c3', n3', u', fi', h', f', g', th', la', at0', lk', st', lw', su', cu', nu', wr', wq', dr', bb, fo1, hLT, hMT, heq, hR1⟩ := pr_run l hst D tw sa x sw e00 e01 sr e10 e11 br ra bq qa y ms mw mu mc mn mr mq md bi ne li sp q fs oo cB cI cL fo lb pl0 rw0 pl1 rw1 s0 c0 n0 s1 c1 n1 s2 c2 n2 s3 c3 n3 u fi h f g th la at0 lk st lw su cu nu wr wq dr hR (xs (3 + 4 * i + 1)) 0 hb1
    refine cal (vx_runSW (As := [.ref x, .int (xs (3 + 4 * i + 1)), .int 0, .ref oo]) (rest := []) ⟨hx, hb, hml, hown, hg⟩ hLT (vx_cwSW 4 hg (gSH gw_310 gw_311 gw_0 gw_312) rfl rfl rfl (by decide +kernel) ⟨by decide, by decide⟩) (preL hE hEX hEC hKX hPX hDX hS hAX) rfl rfl hl.1 rfl (lv_room (Nat.le_of_ble_eq_true rfl)) d_L_law_246 ⟨by show 21 + i + 1 ≤ 1064; omega, by show 14480 + 6 * i + 6 ≤ 22786; omega⟩) hS hPM hdis hAX (fun H locs hPX hPM hS => ?_)
    refine lv_istore (lv' := [(5, .int th'), (4, .int (nI (3 + 4 * i))), (0, .ref b), (1, .ref x), (2, .ref y), (3, .ref oo)]) hx hb d_L_law_249 hl (by decide) rfl (fun ls hl => ?_)
    refine lv_aload_n hx hb d_L_law_251 rfl (lv_at hl 4 rfl) ?_
    refine lv_aload_n hx hb d_L_law_252 rfl (lv_at hl 2 rfl) ?_
    refine lv_iload hx hb d_L_law_253 (lv_at hl 1 rfl) ?_
    refine lv_iconst (v := 1) hx hb d_L_law_255 (by decide) ?_
    refine lv_iadd hx hb d_L_law_256 ?_
    refine tpi (y := nI (3 + 4 * i + 1)) (nI_add _ 1) ?_
    refine va_sld hx hb hX hbl hbA hS (vp_in_nI (by omega) (by omega)) d_L_law_257 ?_
    refine tpi (y := xs (3 + 4 * i + 1)) (by rw [nI_clamp (by omega)]) ?_
    refine lv_aload_n hx hb d_L_law_258 rfl (lv_at hl 2 rfl) ?_
    refine lv_iload hx hb d_L_law_259 (lv_at hl 1 rfl) ?_
    refine lv_iconst (v := 2) hx hb d_L_law_261 (by decide) ?_
    refine lv_iadd hx hb d_L_law_262 ?_
    refine tpi (y := nI (3 + 4 * i + 2)) (nI_add _ 2) ?_
    refine va_sld hx hb hX hbl hbA hS (vp_in_nI (by omega) (by omega)) d_L_law_263 ?_
    refine tpi (y := xs (3 + 4 * i + 2)) (by rw [nI_clamp (by omega)]) ?_
    refine lv_if_eq (tgt := 271) hx hb d_L_law_264 (by decide) (fun c_2 => ?_) (fun c_2 => ?_)
    · skip
      refine lv_iconst (v := 0) hx hb d_L_law_271 (by decide) ?_
      refine cal (va_runV (As := [.int (xs (3 + 4 * i + 1)), .int 0]) (rest := []) ⟨hx, hb, hml, hown, hg⟩ (hMT) (cwV 2 hg (gV gw_614 gw_615 gw_616 gw_7 gw_617) rfl rfl rfl (by decide +kernel) ⟨by decide, by decide⟩) (preM hKM hPM (va_D_addr hDM rfl)) rfl rfl hl.1 rfl (lv_room (Nat.le_of_ble_eq_true rfl)) d_L_law_272 ⟨by show 21 + i + 1 + 0 ≤ 1064; omega, by show 14480 + 6 * i + 6 + 0 ≤ 22786; omega⟩) hS hPX (fun q h1 h2 => hdis q h2 h1) hAM (fun H locs hPM hPX hS => ?_)
      refine lv_istore (lv' := [(6, .int bb), (5, .int th'), (4, .int (nI (3 + 4 * i))), (0, .ref b), (1, .ref x), (2, .ref y), (3, .ref oo)]) hx hb d_L_law_275 hl (by decide) rfl (fun ls hl => ?_)
      refine lv_aload_n hx hb d_L_law_277 rfl (lv_at hl 5 rfl) ?_
      refine pci (va_runV (As := []) (rest := []) ⟨hx, hb, hml, hown, hg⟩ (c_M_thrown l D y ms mw mu mc mn mr mq md bi ne li sp q u' h' th' lb' la' at0' lk') (cwV 0 hg (gV gw_586 gw_587 gw_588 gw_7 gw_589) rfl rfl rfl (by decide +kernel) ⟨by decide, by decide⟩) (preT hKM hPM) rfl rfl hl.1 rfl (lv_room (Nat.le_of_ble_eq_true rfl)) d_L_law_278 ⟨by show 21 + i + 1 + 0 + 0 ≤ 1064; omega, by show 14480 + 6 * i + 6 + 0 + 0 ≤ 22786; omega⟩) ?_
      refine lv_iload hx hb d_L_law_281 (lv_at hl 1 rfl) ?_
      refine lv_icmp_eq (tgt := 288) hx hb d_L_law_283 (by decide) (fun c_3 => ?_) (fun c_3 => ?_)
      · skip
        refine lv_iload hx hb d_L_law_288 (lv_at hl 1 rfl) ?_
        refine lv_if_ne (tgt := 305) hx hb d_L_law_290 (by decide) (fun c_4 => ?_) (fun c_4 => ?_)
        · skip
          refine lv_goto (tgt := 1111) hx hb d_L_law_305 (by decide) ?_
          exact kk fo1 lb' pl0' rw0' pl1' rw1' s0' c0' n0' s1' c1' n1' s2' c2' n2' s3' c3' n3' u' fi' h' f' g' th' la' at0' lk' st' lw' su' cu' nu' wr' wq' dr' H locs ls hR1 hPX hPM hS (lv_sub hl [2, 3, 4, 5, 6] rfl)
        · skip
          have hth : th' = 0 := c_4
          have heq := heq hth
          refine lv_aload_n hx hb d_L_law_293 rfl (lv_at hl 6 rfl) ?_
          refine lv_iconst (v := 0) hx hb d_L_law_294 (by decide) ?_
          refine va_lald hx hb hKX hPX 0 0 rfl rfl (vp_in_nI (n := 0) (by decide) (by decide)) d_L_law_295 ?_
          refine tpl (y := fo1 0) (rfl) ?_
          refine lv_iload hx hb d_L_law_296 (lv_at hl 0 rfl) ?_
          refine lv_i2l (v := bb.toInt64) hx hb d_L_law_298 (rfl) ?_
          have heq9 := heq
          refine W.lcmp hx hb d_L_law_299 ?_
          refine lv_if_eq (tgt := 305) hx hb d_L_law_300 (by decide) (fun c_5 => ?_) (fun c_5 => ?_)
          · skip
            refine lv_goto (tgt := 1111) hx hb d_L_law_305 (by decide) ?_
            exact kk fo1 lb' pl0' rw0' pl1' rw1' s0' c0' n0' s1' c1' n1' s2' c2' n2' s3' c3' n3' u' fi' h' f' g' th' la' at0' lk' st' lw' su' cu' nu' wr' wq' dr' H locs ls hR1 hPX hPM hS (lv_sub hl [2, 3, 4, 5, 6] rfl)
          · skip
            exact absurd ((lg_cmp_eq _ _).mpr heq9) c_5
      · skip
        exact absurd rfl c_3
    · skip
      exact absurd hz1 c_2
  · skip
    have hz1 := c_1
    have hb1 : (1 : Int32) = 0 ∨ (1 : Int32) = 1 := Or.inr rfl
    refine lv_iconst (v := 1) hx hb d_L_law_240 (by decide) ?_
    refine lv_goto (tgt := 245) hx hb d_L_law_241 (by decide) ?_
    refine lv_aload_n hx hb d_L_law_245 rfl (lv_at hl 4 rfl) ?_
    obtain ⟨lb', pl0', rw0', pl1', rw1', s0', c0', n0', s1', c1', n1', s2', c2', n2', s3', c3', n3', u', fi', h', f', g', th', la', at0', lk', st', lw', su', cu', nu', wr', wq', dr', bb, fo1, hLT, hMT, heq, hR1⟩ := pr_run l hst D tw sa x sw e00 e01 sr e10 e11 br ra bq qa y ms mw mu mc mn mr mq md bi ne li sp q fs oo cB cI cL fo lb pl0 rw0 pl1 rw1 s0 c0 n0 s1 c1 n1 s2 c2 n2 s3 c3 n3 u fi h f g th la at0 lk st lw su cu nu wr wq dr hR (xs (3 + 4 * i + 1)) 1 hb1
    refine cal (vx_runSW (As := [.ref x, .int (xs (3 + 4 * i + 1)), .int 1, .ref oo]) (rest := []) ⟨hx, hb, hml, hown, hg⟩ hLT (vx_cwSW 4 hg (gSH gw_310 gw_311 gw_0 gw_312) rfl rfl rfl (by decide +kernel) ⟨by decide, by decide⟩) (preL hE hEX hEC hKX hPX hDX hS hAX) rfl rfl hl.1 rfl (lv_room (Nat.le_of_ble_eq_true rfl)) d_L_law_246 ⟨by show 21 + i + 1 ≤ 1064; omega, by show 14480 + 6 * i + 6 ≤ 22786; omega⟩) hS hPM hdis hAX (fun H locs hPX hPM hS => ?_)
    refine lv_istore (lv' := [(5, .int th'), (4, .int (nI (3 + 4 * i))), (0, .ref b), (1, .ref x), (2, .ref y), (3, .ref oo)]) hx hb d_L_law_249 hl (by decide) rfl (fun ls hl => ?_)
    refine lv_aload_n hx hb d_L_law_251 rfl (lv_at hl 4 rfl) ?_
    refine lv_aload_n hx hb d_L_law_252 rfl (lv_at hl 2 rfl) ?_
    refine lv_iload hx hb d_L_law_253 (lv_at hl 1 rfl) ?_
    refine lv_iconst (v := 1) hx hb d_L_law_255 (by decide) ?_
    refine lv_iadd hx hb d_L_law_256 ?_
    refine tpi (y := nI (3 + 4 * i + 1)) (nI_add _ 1) ?_
    refine va_sld hx hb hX hbl hbA hS (vp_in_nI (by omega) (by omega)) d_L_law_257 ?_
    refine tpi (y := xs (3 + 4 * i + 1)) (by rw [nI_clamp (by omega)]) ?_
    refine lv_aload_n hx hb d_L_law_258 rfl (lv_at hl 2 rfl) ?_
    refine lv_iload hx hb d_L_law_259 (lv_at hl 1 rfl) ?_
    refine lv_iconst (v := 2) hx hb d_L_law_261 (by decide) ?_
    refine lv_iadd hx hb d_L_law_262 ?_
    refine tpi (y := nI (3 + 4 * i + 2)) (nI_add _ 2) ?_
    refine va_sld hx hb hX hbl hbA hS (vp_in_nI (by omega) (by omega)) d_L_law_263 ?_
    refine tpi (y := xs (3 + 4 * i + 2)) (by rw [nI_clamp (by omega)]) ?_
    refine lv_if_eq (tgt := 271) hx hb d_L_law_264 (by decide) (fun c_6 => ?_) (fun c_6 => ?_)
    · skip
      exact absurd c_6 hz1
    · skip
      refine lv_iconst (v := 1) hx hb d_L_law_267 (by decide) ?_
      refine lv_goto (tgt := 272) hx hb d_L_law_268 (by decide) ?_
      refine cal (va_runV (As := [.int (xs (3 + 4 * i + 1)), .int 1]) (rest := []) ⟨hx, hb, hml, hown, hg⟩ (hMT) (cwV 2 hg (gV gw_614 gw_615 gw_616 gw_7 gw_617) rfl rfl rfl (by decide +kernel) ⟨by decide, by decide⟩) (preM hKM hPM (va_D_addr hDM rfl)) rfl rfl hl.1 rfl (lv_room (Nat.le_of_ble_eq_true rfl)) d_L_law_272 ⟨by show 21 + i + 1 + 0 ≤ 1064; omega, by show 14480 + 6 * i + 6 + 0 ≤ 22786; omega⟩) hS hPX (fun q h1 h2 => hdis q h2 h1) hAM (fun H locs hPM hPX hS => ?_)
      refine lv_istore (lv' := [(6, .int bb), (5, .int th'), (4, .int (nI (3 + 4 * i))), (0, .ref b), (1, .ref x), (2, .ref y), (3, .ref oo)]) hx hb d_L_law_275 hl (by decide) rfl (fun ls hl => ?_)
      refine lv_aload_n hx hb d_L_law_277 rfl (lv_at hl 5 rfl) ?_
      refine pci (va_runV (As := []) (rest := []) ⟨hx, hb, hml, hown, hg⟩ (c_M_thrown l D y ms mw mu mc mn mr mq md bi ne li sp q u' h' th' lb' la' at0' lk') (cwV 0 hg (gV gw_586 gw_587 gw_588 gw_7 gw_589) rfl rfl rfl (by decide +kernel) ⟨by decide, by decide⟩) (preT hKM hPM) rfl rfl hl.1 rfl (lv_room (Nat.le_of_ble_eq_true rfl)) d_L_law_278 ⟨by show 21 + i + 1 + 0 + 0 ≤ 1064; omega, by show 14480 + 6 * i + 6 + 0 + 0 ≤ 22786; omega⟩) ?_
      refine lv_iload hx hb d_L_law_281 (lv_at hl 1 rfl) ?_
      refine lv_icmp_eq (tgt := 288) hx hb d_L_law_283 (by decide) (fun c_7 => ?_) (fun c_7 => ?_)
      · skip
        refine lv_iload hx hb d_L_law_288 (lv_at hl 1 rfl) ?_
        refine lv_if_ne (tgt := 305) hx hb d_L_law_290 (by decide) (fun c_8 => ?_) (fun c_8 => ?_)
        · skip
          refine lv_goto (tgt := 1111) hx hb d_L_law_305 (by decide) ?_
          exact kk fo1 lb' pl0' rw0' pl1' rw1' s0' c0' n0' s1' c1' n1' s2' c2' n2' s3' c3' n3' u' fi' h' f' g' th' la' at0' lk' st' lw' su' cu' nu' wr' wq' dr' H locs ls hR1 hPX hPM hS (lv_sub hl [2, 3, 4, 5, 6] rfl)
        · skip
          have hth : th' = 0 := c_8
          have heq := heq hth
          refine lv_aload_n hx hb d_L_law_293 rfl (lv_at hl 6 rfl) ?_
          refine lv_iconst (v := 0) hx hb d_L_law_294 (by decide) ?_
          refine va_lald hx hb hKX hPX 0 0 rfl rfl (vp_in_nI (n := 0) (by decide) (by decide)) d_L_law_295 ?_
          refine tpl (y := fo1 0) (rfl) ?_
          refine lv_iload hx hb d_L_law_296 (lv_at hl 0 rfl) ?_
          refine lv_i2l (v := bb.toInt64) hx hb d_L_law_298 (rfl) ?_
          have heq9 := heq
          refine W.lcmp hx hb d_L_law_299 ?_
          refine lv_if_eq (tgt := 305) hx hb d_L_law_300 (by decide) (fun c_9 => ?_) (fun c_9 => ?_)
          · skip
            refine lv_goto (tgt := 1111) hx hb d_L_law_305 (by decide) ?_
            exact kk fo1 lb' pl0' rw0' pl1' rw1' s0' c0' n0' s1' c1' n1' s2' c2' n2' s3' c3' n3' u' fi' h' f' g' th' la' at0' lk' st' lw' su' cu' nu' wr' wq' dr' H locs ls hR1 hPX hPM hS (lv_sub hl [2, 3, 4, 5, 6] rfl)
          · skip
            exact absurd ((lg_cmp_eq _ _).mpr heq9) c_9
      · skip
        exact absurd rfl c_7
set_option maxHeartbeats 4000000 in
set_option maxRecDepth 100000 in
theorem lo_interrupt {p : Program} {e : Env} {s : State} {m : MethodId} {below : List Frame} {meth : Method} {c : Code} {b L : Nat} {xs : Nat → Int32} (C0 : lw_At p s m meth c b L xs) (hL : L ≤ 2051) (l : Launch) (hst : l.stackTraces = false) (D : va_G) (tw : Nat) (sa : Nat → Nat) (x sw e00 e01 sr e10 e11 br ra bq qa y ms mw mu mc mn mr mq md bi ne li sp q fs oo : Nat) (cB cI cL : ClassId) (fo : Nat → Int64) (lb : Int32) (pl0 rw0 pl1 rw1 s0 c0 n0 s1 c1 n1 s2 c2 n2 s3 c3 n3 u fi h : Nat) (f g : Nat → Int32) (th la at0 lk : Int32) (st lw su cu nu wr wq dr : Nat → Int32) (hR : REL li sp q fs lb pl0 rw0 pl1 rw1 s0 c0 n0 s1 c1 n1 s2 c2 n2 s3 c3 n3 u fi h f g st lw su cu nu wr wq) (hE : EV (fun q => s.heap.size ≤ q) tw s) (hEX : EX (fun q => s.heap.size ≤ q) sa s) (hEC : EC s) (hK : va_K D CLS [(cL, .long), (cB, .byte), (cI, .int)] s) (hdis : ∀ q, q ∈ [y, ms, mw, mu, mc, mn, mr, mq, md] → ¬ q ∈ [oo, x, sw, e00, e01, sr, e10, e11, br, ra, bq, qa]) (hAX : ∀ q, q ∈ [oo, x, sw, e00, e01, sr, e10, e11, br, ra, bq, qa] → s.heap.size ≤ q) (hAM : ∀ q, q ∈ [y, ms, mw, mu, mc, mn, mr, mq, md] → s.heap.size ≤ q) (hDX : va_D (fun _ => True) ((oo, .inl (cL, 1, .inr (.inl fo))) :: CWd x sw e00 e01 sr e10 e11 br ra bq qa cB bi ne li sp q fs lb pl0 rw0 pl1 rw1 s0 c0 n0 s1 c1 n1 s2 c2 n2 s3 c3 n3 u fi h f g)) (hDM : va_D (fun _ => True) (MWd y ms mw mu mc mn mr mq md cI cB bi ne li sp q lb u h th la at0 lk st lw su cu nu wr wq dr)) (i : Nat) (hi : 3 + 4 * i + 4 ≤ L) {H : Heap} {locs : List Loc} (hPX : va_P D CLS ((oo, .inl (cL, 1, .inr (.inl fo))) :: CWd x sw e00 e01 sr e10 e11 br ra bq qa cB bi ne li sp q fs lb pl0 rw0 pl1 rw1 s0 c0 n0 s1 c1 n1 s2 c2 n2 s3 c3 n3 u fi h f g) H) (hPM : va_P D CLS (MWd y ms mw mu mc mn mr mq md cI cB bi ne li sp q lb u h th la at0 lk st lw su cu nu wr wq dr) H) (hS : va_S (fun q => s.heap.size ≤ q) s.heap H locs) {ls : Array Slot} (hl : lv_has ls 7 [(4, .int (nI (3 + 4 * i))), (0, .ref b), (1, .ref x), (2, .ref y), (3, .ref oo)]) (kk : ∀ (fo' : Nat → Int64) (lb' : Int32) (pl0' rw0' pl1' rw1' s0' c0' n0' s1' c1' n1' s2' c2' n2' s3' c3' n3' u' fi' h' : Nat) (f' g' : Nat → Int32) (th' la' at0' lk' : Int32) (st' lw' su' cu' nu' wr' wq' dr' : Nat → Int32) (H : Heap) (locs : List Loc) (ls : Array Slot), REL li sp q fs lb' pl0' rw0' pl1' rw1' s0' c0' n0' s1' c1' n1' s2' c2' n2' s3' c3' n3' u' fi' h' f' g' st' lw' su' cu' nu' wr' wq' → va_P D CLS ((oo, .inl (cL, 1, .inr (.inl fo'))) :: CWd x sw e00 e01 sr e10 e11 br ra bq qa cB bi ne li sp q fs lb' pl0' rw0' pl1' rw1' s0' c0' n0' s1' c1' n1' s2' c2' n2' s3' c3' n3' u' fi' h' f' g') H → va_P D CLS (MWd y ms mw mu mc mn mr mq md cI cB bi ne li sp q lb' u' h' th' la' at0' lk' st' lw' su' cu' nu' wr' wq' dr') H → va_S (fun q => s.heap.size ≤ q) s.heap H locs → lv_has ls 7 [(4, .int (nI (3 + 4 * i))), (0, .ref b), (1, .ref x), (2, .ref y), (3, .ref oo)] → W p l e room_1 s m #[Value.ref b] below meth c H locs (21 + i + 1) (14480 + 6 * i + 6) (lw_Z below #[Value.ref b] s) (F0 m 1111 ls [])) : W p l e room_1 s m #[Value.ref b] below meth c H locs (21 + i) (14480 + 6 * i) (lw_Z below #[Value.ref b] s) (F0 m 308 ls []) := by
  obtain ⟨hx, hb, hr, hml, hown, hts, hX, hbl, hlocks, hgv⟩ := id C0
  have hown : s.vm.findClass "LineGolombLaw" = some m.cls := hown
  have hg : ∀ w ∈ GW, w.before #[Value.ref b] s = true := fun w h => hts w (GW_tbl h)
  have hbA : ¬ s.heap.size ≤ b := Nat.not_le.mpr hbl
  have hKX := hK.sub (tys' := [(cL, .long), (cB, .byte)]) [0, 1] rfl
  have hKC := hK.sub (tys' := [(cB, .byte)]) [1] rfl
  have hKM := hK.sub (tys' := [(cI, .int), (cB, .byte)]) [2, 1] rfl
  refine lv_aload_n hx hb d_L_law_308 rfl (lv_at hl 2 rfl) ?_
  refine lv_aload_n hx hb d_L_law_309 rfl (lv_at hl 1 rfl) ?_
  refine lv_iload hx hb d_L_law_310 (lv_at hl 0 rfl) ?_
  refine lv_iconst (v := 1) hx hb d_L_law_312 (by decide) ?_
  refine lv_iadd hx hb d_L_law_313 ?_
  refine tpi (y := nI (3 + 4 * i + 1)) (nI_add _ 1) ?_
  refine va_sld hx hb hX hbl hbA hS (vp_in_nI (by omega) (by omega)) d_L_law_314 ?_
  refine tpi (y := xs (3 + 4 * i + 1)) (by rw [nI_clamp (by omega)]) ?_
  refine lv_aload_n hx hb d_L_law_315 rfl (lv_at hl 1 rfl) ?_
  refine lv_iload hx hb d_L_law_316 (lv_at hl 0 rfl) ?_
  refine lv_iconst (v := 2) hx hb d_L_law_318 (by decide) ?_
  refine lv_iadd hx hb d_L_law_319 ?_
  refine tpi (y := nI (3 + 4 * i + 2)) (nI_add _ 2) ?_
  refine va_sld hx hb hX hbl hbA hS (vp_in_nI (by omega) (by omega)) d_L_law_320 ?_
  refine tpi (y := xs (3 + 4 * i + 2)) (by rw [nI_clamp (by omega)]) ?_
  refine lv_aload_n hx hb d_L_law_321 rfl (lv_at hl 4 rfl) ?_
  obtain ⟨lb', pl0', rw0', pl1', rw1', s0', c0', n0', s1', c1', n1', s2', c2', n2', s3', c3', n3', u', fi', h', f', g', th', la', at0', lk', st', lw', su', cu', nu', wr', wq', dr', bb, fo1, hLT, hMT, heq, hR1⟩ := pr_interrupt l hst D tw sa x sw e00 e01 sr e10 e11 br ra bq qa y ms mw mu mc mn mr mq md bi ne li sp q fs oo cB cI cL fo lb pl0 rw0 pl1 rw1 s0 c0 n0 s1 c1 n1 s2 c2 n2 s3 c3 n3 u fi h f g th la at0 lk st lw su cu nu wr wq dr hR (xs (3 + 4 * i + 1)) (xs (3 + 4 * i + 2))
  refine cal (vx_runSW (As := [.ref x, .int (xs (3 + 4 * i + 1)), .int (xs (3 + 4 * i + 2)), .ref oo]) (rest := []) ⟨hx, hb, hml, hown, hg⟩ hLT (vx_cwSW 4 hg (gSH gw_335 gw_336 gw_0 gw_337) rfl rfl rfl (by decide +kernel) ⟨by decide, by decide⟩) (preL hE hEX hEC hKX hPX hDX hS hAX) rfl rfl hl.1 rfl (lv_room (Nat.le_of_ble_eq_true rfl)) d_L_law_322 ⟨by show 21 + i + 1 ≤ 1064; omega, by show 14480 + 6 * i + 6 ≤ 22786; omega⟩) hS hPM hdis hAX (fun H locs hPX hPM hS => ?_)
  refine lv_istore (lv' := [(5, .int th'), (4, .int (nI (3 + 4 * i))), (0, .ref b), (1, .ref x), (2, .ref y), (3, .ref oo)]) hx hb d_L_law_325 hl (by decide) rfl (fun ls hl => ?_)
  refine lv_aload_n hx hb d_L_law_327 rfl (lv_at hl 4 rfl) ?_
  refine lv_aload_n hx hb d_L_law_328 rfl (lv_at hl 2 rfl) ?_
  refine lv_iload hx hb d_L_law_329 (lv_at hl 1 rfl) ?_
  refine lv_iconst (v := 1) hx hb d_L_law_331 (by decide) ?_
  refine lv_iadd hx hb d_L_law_332 ?_
  refine tpi (y := nI (3 + 4 * i + 1)) (nI_add _ 1) ?_
  refine va_sld hx hb hX hbl hbA hS (vp_in_nI (by omega) (by omega)) d_L_law_333 ?_
  refine tpi (y := xs (3 + 4 * i + 1)) (by rw [nI_clamp (by omega)]) ?_
  refine lv_aload_n hx hb d_L_law_334 rfl (lv_at hl 2 rfl) ?_
  refine lv_iload hx hb d_L_law_335 (lv_at hl 1 rfl) ?_
  refine lv_iconst (v := 2) hx hb d_L_law_337 (by decide) ?_
  refine lv_iadd hx hb d_L_law_338 ?_
  refine tpi (y := nI (3 + 4 * i + 2)) (nI_add _ 2) ?_
  refine va_sld hx hb hX hbl hbA hS (vp_in_nI (by omega) (by omega)) d_L_law_339 ?_
  refine tpi (y := xs (3 + 4 * i + 2)) (by rw [nI_clamp (by omega)]) ?_
  refine cal (va_runV (As := [.int (xs (3 + 4 * i + 1)), .int (xs (3 + 4 * i + 2))]) (rest := []) ⟨hx, hb, hml, hown, hg⟩ (hMT) (cwV 2 hg (gV gw_622 gw_623 gw_624 gw_7 gw_625) rfl rfl rfl (by decide +kernel) ⟨by decide, by decide⟩) (preM hKM hPM (va_D_addr hDM rfl)) rfl rfl hl.1 rfl (lv_room (Nat.le_of_ble_eq_true rfl)) d_L_law_340 ⟨by show 21 + i + 1 + 0 ≤ 1064; omega, by show 14480 + 6 * i + 6 + 0 ≤ 22786; omega⟩) hS hPX (fun q h1 h2 => hdis q h2 h1) hAM (fun H locs hPM hPX hS => ?_)
  refine lv_istore (lv' := [(6, .int bb), (5, .int th'), (4, .int (nI (3 + 4 * i))), (0, .ref b), (1, .ref x), (2, .ref y), (3, .ref oo)]) hx hb d_L_law_343 hl (by decide) rfl (fun ls hl => ?_)
  refine lv_aload_n hx hb d_L_law_345 rfl (lv_at hl 5 rfl) ?_
  refine pci (va_runV (As := []) (rest := []) ⟨hx, hb, hml, hown, hg⟩ (c_M_thrown l D y ms mw mu mc mn mr mq md bi ne li sp q u' h' th' lb' la' at0' lk') (cwV 0 hg (gV gw_586 gw_587 gw_588 gw_7 gw_589) rfl rfl rfl (by decide +kernel) ⟨by decide, by decide⟩) (preT hKM hPM) rfl rfl hl.1 rfl (lv_room (Nat.le_of_ble_eq_true rfl)) d_L_law_346 ⟨by show 21 + i + 1 + 0 + 0 ≤ 1064; omega, by show 14480 + 6 * i + 6 + 0 + 0 ≤ 22786; omega⟩) ?_
  refine lv_iload hx hb d_L_law_349 (lv_at hl 1 rfl) ?_
  refine lv_icmp_eq (tgt := 356) hx hb d_L_law_351 (by decide) (fun c_1 => ?_) (fun c_1 => ?_)
  · skip
    refine lv_iload hx hb d_L_law_356 (lv_at hl 1 rfl) ?_
    refine lv_if_ne (tgt := 373) hx hb d_L_law_358 (by decide) (fun c_2 => ?_) (fun c_2 => ?_)
    · skip
      refine lv_goto (tgt := 1111) hx hb d_L_law_373 (by decide) ?_
      exact kk fo1 lb' pl0' rw0' pl1' rw1' s0' c0' n0' s1' c1' n1' s2' c2' n2' s3' c3' n3' u' fi' h' f' g' th' la' at0' lk' st' lw' su' cu' nu' wr' wq' dr' H locs ls hR1 hPX hPM hS (lv_sub hl [2, 3, 4, 5, 6] rfl)
    · skip
      have hth : th' = 0 := c_2
      have heq := heq hth
      refine lv_aload_n hx hb d_L_law_361 rfl (lv_at hl 6 rfl) ?_
      refine lv_iconst (v := 0) hx hb d_L_law_362 (by decide) ?_
      refine va_lald hx hb hKX hPX 0 0 rfl rfl (vp_in_nI (n := 0) (by decide) (by decide)) d_L_law_363 ?_
      refine tpl (y := fo1 0) (rfl) ?_
      refine lv_iload hx hb d_L_law_364 (lv_at hl 0 rfl) ?_
      refine lv_i2l (v := bb.toInt64) hx hb d_L_law_366 (rfl) ?_
      have heq9 := heq
      refine W.lcmp hx hb d_L_law_367 ?_
      refine lv_if_eq (tgt := 373) hx hb d_L_law_368 (by decide) (fun c_3 => ?_) (fun c_3 => ?_)
      · skip
        refine lv_goto (tgt := 1111) hx hb d_L_law_373 (by decide) ?_
        exact kk fo1 lb' pl0' rw0' pl1' rw1' s0' c0' n0' s1' c1' n1' s2' c2' n2' s3' c3' n3' u' fi' h' f' g' th' la' at0' lk' st' lw' su' cu' nu' wr' wq' dr' H locs ls hR1 hPX hPM hS (lv_sub hl [2, 3, 4, 5, 6] rfl)
      · skip
        exact absurd ((lg_cmp_eq _ _).mpr heq9) c_3
  · skip
    exact absurd rfl c_1
set_option maxHeartbeats 4000000 in
set_option maxRecDepth 100000 in
theorem lo_bitAt {p : Program} {e : Env} {s : State} {m : MethodId} {below : List Frame} {meth : Method} {c : Code} {b L : Nat} {xs : Nat → Int32} (C0 : lw_At p s m meth c b L xs) (hL : L ≤ 2051) (l : Launch) (hst : l.stackTraces = false) (D : va_G) (tw : Nat) (sa : Nat → Nat) (x sw e00 e01 sr e10 e11 br ra bq qa y ms mw mu mc mn mr mq md bi ne li sp q fs oo : Nat) (cB cI cL : ClassId) (fo : Nat → Int64) (lb : Int32) (pl0 rw0 pl1 rw1 s0 c0 n0 s1 c1 n1 s2 c2 n2 s3 c3 n3 u fi h : Nat) (f g : Nat → Int32) (th la at0 lk : Int32) (st lw su cu nu wr wq dr : Nat → Int32) (hR : REL li sp q fs lb pl0 rw0 pl1 rw1 s0 c0 n0 s1 c1 n1 s2 c2 n2 s3 c3 n3 u fi h f g st lw su cu nu wr wq) (hE : EV (fun q => s.heap.size ≤ q) tw s) (hEX : EX (fun q => s.heap.size ≤ q) sa s) (hEC : EC s) (hK : va_K D CLS [(cL, .long), (cB, .byte), (cI, .int)] s) (hdis : ∀ q, q ∈ [y, ms, mw, mu, mc, mn, mr, mq, md] → ¬ q ∈ [oo, x, sw, e00, e01, sr, e10, e11, br, ra, bq, qa]) (hAX : ∀ q, q ∈ [oo, x, sw, e00, e01, sr, e10, e11, br, ra, bq, qa] → s.heap.size ≤ q) (hAM : ∀ q, q ∈ [y, ms, mw, mu, mc, mn, mr, mq, md] → s.heap.size ≤ q) (hDX : va_D (fun _ => True) ((oo, .inl (cL, 1, .inr (.inl fo))) :: CWd x sw e00 e01 sr e10 e11 br ra bq qa cB bi ne li sp q fs lb pl0 rw0 pl1 rw1 s0 c0 n0 s1 c1 n1 s2 c2 n2 s3 c3 n3 u fi h f g)) (hDM : va_D (fun _ => True) (MWd y ms mw mu mc mn mr mq md cI cB bi ne li sp q lb u h th la at0 lk st lw su cu nu wr wq dr)) (i : Nat) (hi : 3 + 4 * i + 4 ≤ L) {H : Heap} {locs : List Loc} (hPX : va_P D CLS ((oo, .inl (cL, 1, .inr (.inl fo))) :: CWd x sw e00 e01 sr e10 e11 br ra bq qa cB bi ne li sp q fs lb pl0 rw0 pl1 rw1 s0 c0 n0 s1 c1 n1 s2 c2 n2 s3 c3 n3 u fi h f g) H) (hPM : va_P D CLS (MWd y ms mw mu mc mn mr mq md cI cB bi ne li sp q lb u h th la at0 lk st lw su cu nu wr wq dr) H) (hS : va_S (fun q => s.heap.size ≤ q) s.heap H locs) {ls : Array Slot} (hl : lv_has ls 7 [(4, .int (nI (3 + 4 * i))), (0, .ref b), (1, .ref x), (2, .ref y), (3, .ref oo)]) (kk : ∀ (fo' : Nat → Int64) (lb' : Int32) (pl0' rw0' pl1' rw1' s0' c0' n0' s1' c1' n1' s2' c2' n2' s3' c3' n3' u' fi' h' : Nat) (f' g' : Nat → Int32) (th' la' at0' lk' : Int32) (st' lw' su' cu' nu' wr' wq' dr' : Nat → Int32) (H : Heap) (locs : List Loc) (ls : Array Slot), REL li sp q fs lb' pl0' rw0' pl1' rw1' s0' c0' n0' s1' c1' n1' s2' c2' n2' s3' c3' n3' u' fi' h' f' g' st' lw' su' cu' nu' wr' wq' → va_P D CLS ((oo, .inl (cL, 1, .inr (.inl fo'))) :: CWd x sw e00 e01 sr e10 e11 br ra bq qa cB bi ne li sp q fs lb' pl0' rw0' pl1' rw1' s0' c0' n0' s1' c1' n1' s2' c2' n2' s3' c3' n3' u' fi' h' f' g') H → va_P D CLS (MWd y ms mw mu mc mn mr mq md cI cB bi ne li sp q lb' u' h' th' la' at0' lk' st' lw' su' cu' nu' wr' wq' dr') H → va_S (fun q => s.heap.size ≤ q) s.heap H locs → lv_has ls 7 [(4, .int (nI (3 + 4 * i))), (0, .ref b), (1, .ref x), (2, .ref y), (3, .ref oo)] → W p l e room_1 s m #[Value.ref b] below meth c H locs (21 + i + 1) (14480 + 6 * i + 6) (lw_Z below #[Value.ref b] s) (F0 m 1111 ls [])) : W p l e room_1 s m #[Value.ref b] below meth c H locs (21 + i) (14480 + 6 * i) (lw_Z below #[Value.ref b] s) (F0 m 376 ls []) := by
  obtain ⟨hx, hb, hr, hml, hown, hts, hX, hbl, hlocks, hgv⟩ := id C0
  have hown : s.vm.findClass "LineGolombLaw" = some m.cls := hown
  have hg : ∀ w ∈ GW, w.before #[Value.ref b] s = true := fun w h => hts w (GW_tbl h)
  have hbA : ¬ s.heap.size ≤ b := Nat.not_le.mpr hbl
  have hKX := hK.sub (tys' := [(cL, .long), (cB, .byte)]) [0, 1] rfl
  have hKC := hK.sub (tys' := [(cB, .byte)]) [1] rfl
  have hKM := hK.sub (tys' := [(cI, .int), (cB, .byte)]) [2, 1] rfl
  refine lv_aload_n hx hb d_L_law_376 rfl (lv_at hl 2 rfl) ?_
  refine lv_aload_n hx hb d_L_law_377 rfl (lv_at hl 1 rfl) ?_
  refine lv_iload hx hb d_L_law_378 (lv_at hl 0 rfl) ?_
  refine lv_iconst (v := 1) hx hb d_L_law_380 (by decide) ?_
  refine lv_iadd hx hb d_L_law_381 ?_
  refine tpi (y := nI (3 + 4 * i + 1)) (nI_add _ 1) ?_
  refine va_sld hx hb hX hbl hbA hS (vp_in_nI (by omega) (by omega)) d_L_law_382 ?_
  refine tpi (y := xs (3 + 4 * i + 1)) (by rw [nI_clamp (by omega)]) ?_
  refine lv_aload_n hx hb d_L_law_383 rfl (lv_at hl 4 rfl) ?_
  obtain ⟨lb', pl0', rw0', pl1', rw1', s0', c0', n0', s1', c1', n1', s2', c2', n2', s3', c3', n3', u', fi', h', f', g', th', la', at0', lk', st', lw', su', cu', nu', wr', wq', dr', bb, fo1, hLT, hMT, heq, hR1⟩ := pr_bitAt l hst D tw sa x sw e00 e01 sr e10 e11 br ra bq qa y ms mw mu mc mn mr mq md bi ne li sp q fs oo cB cI cL fo lb pl0 rw0 pl1 rw1 s0 c0 n0 s1 c1 n1 s2 c2 n2 s3 c3 n3 u fi h f g th la at0 lk st lw su cu nu wr wq dr hR (xs (3 + 4 * i + 1))
  refine cal (vx_runSW (As := [.ref x, .int (xs (3 + 4 * i + 1)), .ref oo]) (rest := []) ⟨hx, hb, hml, hown, hg⟩ hLT (vx_cwSW 3 hg (gSH gw_394 gw_395 gw_0 gw_396) rfl rfl rfl (by decide +kernel) ⟨by decide, by decide⟩) (preL hE hEX hEC hKX hPX hDX hS hAX) rfl rfl hl.1 rfl (lv_room (Nat.le_of_ble_eq_true rfl)) d_L_law_384 ⟨by show 21 + i + 1 ≤ 1064; omega, by show 14480 + 6 * i + 6 ≤ 22786; omega⟩) hS hPM hdis hAX (fun H locs hPX hPM hS => ?_)
  refine lv_istore (lv' := [(5, .int th'), (4, .int (nI (3 + 4 * i))), (0, .ref b), (1, .ref x), (2, .ref y), (3, .ref oo)]) hx hb d_L_law_387 hl (by decide) rfl (fun ls hl => ?_)
  refine lv_aload_n hx hb d_L_law_389 rfl (lv_at hl 4 rfl) ?_
  refine lv_aload_n hx hb d_L_law_390 rfl (lv_at hl 2 rfl) ?_
  refine lv_iload hx hb d_L_law_391 (lv_at hl 1 rfl) ?_
  refine lv_iconst (v := 1) hx hb d_L_law_393 (by decide) ?_
  refine lv_iadd hx hb d_L_law_394 ?_
  refine tpi (y := nI (3 + 4 * i + 1)) (nI_add _ 1) ?_
  refine va_sld hx hb hX hbl hbA hS (vp_in_nI (by omega) (by omega)) d_L_law_395 ?_
  refine tpi (y := xs (3 + 4 * i + 1)) (by rw [nI_clamp (by omega)]) ?_
  refine cal (va_runV (As := [.int (xs (3 + 4 * i + 1))]) (rest := []) ⟨hx, hb, hml, hown, hg⟩ (hMT) (cwV 1 hg (gV gw_650 gw_651 gw_652 gw_7 gw_653) rfl rfl rfl (by decide +kernel) ⟨by decide, by decide⟩) (preM hKM hPM (va_D_addr hDM rfl)) rfl rfl hl.1 rfl (lv_room (Nat.le_of_ble_eq_true rfl)) d_L_law_396 ⟨by show 21 + i + 1 + 0 ≤ 1064; omega, by show 14480 + 6 * i + 6 + 0 ≤ 22786; omega⟩) hS hPX (fun q h1 h2 => hdis q h2 h1) hAM (fun H locs hPM hPX hS => ?_)
  refine lv_istore (lv' := [(6, .int bb), (5, .int th'), (4, .int (nI (3 + 4 * i))), (0, .ref b), (1, .ref x), (2, .ref y), (3, .ref oo)]) hx hb d_L_law_399 hl (by decide) rfl (fun ls hl => ?_)
  refine lv_aload_n hx hb d_L_law_401 rfl (lv_at hl 5 rfl) ?_
  refine pci (va_runV (As := []) (rest := []) ⟨hx, hb, hml, hown, hg⟩ (c_M_thrown l D y ms mw mu mc mn mr mq md bi ne li sp q u' h' th' lb' la' at0' lk') (cwV 0 hg (gV gw_586 gw_587 gw_588 gw_7 gw_589) rfl rfl rfl (by decide +kernel) ⟨by decide, by decide⟩) (preT hKM hPM) rfl rfl hl.1 rfl (lv_room (Nat.le_of_ble_eq_true rfl)) d_L_law_402 ⟨by show 21 + i + 1 + 0 + 0 ≤ 1064; omega, by show 14480 + 6 * i + 6 + 0 + 0 ≤ 22786; omega⟩) ?_
  refine lv_iload hx hb d_L_law_405 (lv_at hl 1 rfl) ?_
  refine lv_icmp_eq (tgt := 412) hx hb d_L_law_407 (by decide) (fun c_1 => ?_) (fun c_1 => ?_)
  · skip
    refine lv_iload hx hb d_L_law_412 (lv_at hl 1 rfl) ?_
    refine lv_if_ne (tgt := 429) hx hb d_L_law_414 (by decide) (fun c_2 => ?_) (fun c_2 => ?_)
    · skip
      refine lv_goto (tgt := 1111) hx hb d_L_law_429 (by decide) ?_
      exact kk fo1 lb' pl0' rw0' pl1' rw1' s0' c0' n0' s1' c1' n1' s2' c2' n2' s3' c3' n3' u' fi' h' f' g' th' la' at0' lk' st' lw' su' cu' nu' wr' wq' dr' H locs ls hR1 hPX hPM hS (lv_sub hl [2, 3, 4, 5, 6] rfl)
    · skip
      have hth : th' = 0 := c_2
      have heq := heq hth
      refine lv_aload_n hx hb d_L_law_417 rfl (lv_at hl 6 rfl) ?_
      refine lv_iconst (v := 0) hx hb d_L_law_418 (by decide) ?_
      refine va_lald hx hb hKX hPX 0 0 rfl rfl (vp_in_nI (n := 0) (by decide) (by decide)) d_L_law_419 ?_
      refine tpl (y := fo1 0) (rfl) ?_
      refine lv_iload hx hb d_L_law_420 (lv_at hl 0 rfl) ?_
      refine lv_i2l (v := bb.toInt64) hx hb d_L_law_422 (rfl) ?_
      have heq9 := heq
      refine W.lcmp hx hb d_L_law_423 ?_
      refine lv_if_eq (tgt := 429) hx hb d_L_law_424 (by decide) (fun c_3 => ?_) (fun c_3 => ?_)
      · skip
        refine lv_goto (tgt := 1111) hx hb d_L_law_429 (by decide) ?_
        exact kk fo1 lb' pl0' rw0' pl1' rw1' s0' c0' n0' s1' c1' n1' s2' c2' n2' s3' c3' n3' u' fi' h' f' g' th' la' at0' lk' st' lw' su' cu' nu' wr' wq' dr' H locs ls hR1 hPX hPM hS (lv_sub hl [2, 3, 4, 5, 6] rfl)
      · skip
        exact absurd ((lg_cmp_eq _ _).mpr heq9) c_3
  · skip
    exact absurd rfl c_1
set_option maxHeartbeats 4000000 in
set_option maxRecDepth 100000 in
theorem lo_size {p : Program} {e : Env} {s : State} {m : MethodId} {below : List Frame} {meth : Method} {c : Code} {b L : Nat} {xs : Nat → Int32} (C0 : lw_At p s m meth c b L xs) (hL : L ≤ 2051) (l : Launch) (hst : l.stackTraces = false) (D : va_G) (tw : Nat) (sa : Nat → Nat) (x sw e00 e01 sr e10 e11 br ra bq qa y ms mw mu mc mn mr mq md bi ne li sp q fs oo : Nat) (cB cI cL : ClassId) (fo : Nat → Int64) (lb : Int32) (pl0 rw0 pl1 rw1 s0 c0 n0 s1 c1 n1 s2 c2 n2 s3 c3 n3 u fi h : Nat) (f g : Nat → Int32) (th la at0 lk : Int32) (st lw su cu nu wr wq dr : Nat → Int32) (hR : REL li sp q fs lb pl0 rw0 pl1 rw1 s0 c0 n0 s1 c1 n1 s2 c2 n2 s3 c3 n3 u fi h f g st lw su cu nu wr wq) (hE : EV (fun q => s.heap.size ≤ q) tw s) (hEX : EX (fun q => s.heap.size ≤ q) sa s) (hEC : EC s) (hK : va_K D CLS [(cL, .long), (cB, .byte), (cI, .int)] s) (hdis : ∀ q, q ∈ [y, ms, mw, mu, mc, mn, mr, mq, md] → ¬ q ∈ [oo, x, sw, e00, e01, sr, e10, e11, br, ra, bq, qa]) (hAX : ∀ q, q ∈ [oo, x, sw, e00, e01, sr, e10, e11, br, ra, bq, qa] → s.heap.size ≤ q) (hAM : ∀ q, q ∈ [y, ms, mw, mu, mc, mn, mr, mq, md] → s.heap.size ≤ q) (hDX : va_D (fun _ => True) ((oo, .inl (cL, 1, .inr (.inl fo))) :: CWd x sw e00 e01 sr e10 e11 br ra bq qa cB bi ne li sp q fs lb pl0 rw0 pl1 rw1 s0 c0 n0 s1 c1 n1 s2 c2 n2 s3 c3 n3 u fi h f g)) (hDM : va_D (fun _ => True) (MWd y ms mw mu mc mn mr mq md cI cB bi ne li sp q lb u h th la at0 lk st lw su cu nu wr wq dr)) (i : Nat) (hi : 3 + 4 * i + 4 ≤ L) {H : Heap} {locs : List Loc} (hPX : va_P D CLS ((oo, .inl (cL, 1, .inr (.inl fo))) :: CWd x sw e00 e01 sr e10 e11 br ra bq qa cB bi ne li sp q fs lb pl0 rw0 pl1 rw1 s0 c0 n0 s1 c1 n1 s2 c2 n2 s3 c3 n3 u fi h f g) H) (hPM : va_P D CLS (MWd y ms mw mu mc mn mr mq md cI cB bi ne li sp q lb u h th la at0 lk st lw su cu nu wr wq dr) H) (hS : va_S (fun q => s.heap.size ≤ q) s.heap H locs) {ls : Array Slot} (hl : lv_has ls 7 [(4, .int (nI (3 + 4 * i))), (0, .ref b), (1, .ref x), (2, .ref y), (3, .ref oo)]) (kk : ∀ (fo' : Nat → Int64) (lb' : Int32) (pl0' rw0' pl1' rw1' s0' c0' n0' s1' c1' n1' s2' c2' n2' s3' c3' n3' u' fi' h' : Nat) (f' g' : Nat → Int32) (th' la' at0' lk' : Int32) (st' lw' su' cu' nu' wr' wq' dr' : Nat → Int32) (H : Heap) (locs : List Loc) (ls : Array Slot), REL li sp q fs lb' pl0' rw0' pl1' rw1' s0' c0' n0' s1' c1' n1' s2' c2' n2' s3' c3' n3' u' fi' h' f' g' st' lw' su' cu' nu' wr' wq' → va_P D CLS ((oo, .inl (cL, 1, .inr (.inl fo'))) :: CWd x sw e00 e01 sr e10 e11 br ra bq qa cB bi ne li sp q fs lb' pl0' rw0' pl1' rw1' s0' c0' n0' s1' c1' n1' s2' c2' n2' s3' c3' n3' u' fi' h' f' g') H → va_P D CLS (MWd y ms mw mu mc mn mr mq md cI cB bi ne li sp q lb' u' h' th' la' at0' lk' st' lw' su' cu' nu' wr' wq' dr') H → va_S (fun q => s.heap.size ≤ q) s.heap H locs → lv_has ls 7 [(4, .int (nI (3 + 4 * i))), (0, .ref b), (1, .ref x), (2, .ref y), (3, .ref oo)] → W p l e room_1 s m #[Value.ref b] below meth c H locs (21 + i + 1) (14480 + 6 * i + 6) (lw_Z below #[Value.ref b] s) (F0 m 1111 ls [])) : W p l e room_1 s m #[Value.ref b] below meth c H locs (21 + i) (14480 + 6 * i) (lw_Z below #[Value.ref b] s) (F0 m 432 ls []) := by
  obtain ⟨hx, hb, hr, hml, hown, hts, hX, hbl, hlocks, hgv⟩ := id C0
  have hown : s.vm.findClass "LineGolombLaw" = some m.cls := hown
  have hg : ∀ w ∈ GW, w.before #[Value.ref b] s = true := fun w h => hts w (GW_tbl h)
  have hbA : ¬ s.heap.size ≤ b := Nat.not_le.mpr hbl
  have hKX := hK.sub (tys' := [(cL, .long), (cB, .byte)]) [0, 1] rfl
  have hKC := hK.sub (tys' := [(cB, .byte)]) [1] rfl
  have hKM := hK.sub (tys' := [(cI, .int), (cB, .byte)]) [2, 1] rfl
  refine lv_aload_n hx hb d_L_law_432 rfl (lv_at hl 2 rfl) ?_
  obtain ⟨bb, hCT, hMT⟩ := pr_size l hst D tw sa x sw e00 e01 sr e10 e11 br ra bq qa y ms mw mu mc mn mr mq md bi ne li sp q fs oo cB cI cL fo lb pl0 rw0 pl1 rw1 s0 c0 n0 s1 c1 n1 s2 c2 n2 s3 c3 n3 u fi h f g th la at0 lk st lw su cu nu wr wq dr hR 
  have hPO : va_P D CLS ((oo, .inl (cL, 1, .inr (.inl fo))) :: MWd y ms mw mu mc mn mr mq md cI cB bi ne li sp q lb u h th la at0 lk st lw su cu nu wr wq dr) H := fun k q hk => by cases k with | zero => exact hPX 0 q hk | succ k => exact hPM k q hk
  refine cal (V := (oo, .inl (cL, 1, .inr (.inl fo))) :: MWd y ms mw mu mc mn mr mq md cI cB bi ne li sp q lb u h th la at0 lk st lw su cu nu wr wq dr) (va_runV (As := []) (rest := []) ⟨hx, hb, hml, hown, hg⟩ (hCT) (cwV 0 hg (gV gw_147 gw_148 gw_149 gw_1 gw_150) rfl rfl rfl (by decide +kernel) ⟨by decide, by decide⟩) (preE hE hKC (tlP hPX) (tlD hDX) hS (fun q h => hAX q (List.mem_cons_of_mem _ h))) rfl rfl hl.1 rfl (lv_room (Nat.le_of_ble_eq_true rfl)) d_L_law_433 ⟨by show 21 + i + 0 ≤ 1064; omega, by show 14480 + 6 * i + 0 ≤ 22786; omega⟩) hS hPO (disH hDX hdis) (fun q h => hAX q (List.mem_cons_of_mem _ h)) (fun H locs hPX9 hPO hS => ?_)
  have hPX : va_P D CLS ((oo, .inl (cL, 1, .inr (.inl fo))) :: CWd x sw e00 e01 sr e10 e11 br ra bq qa cB bi ne li sp q fs lb pl0 rw0 pl1 rw1 s0 c0 n0 s1 c1 n1 s2 c2 n2 s3 c3 n3 u fi h f g) H := fun k q hk => by cases k with | zero => exact hPO 0 q hk | succ k => exact hPX9 k q hk
  have hPM := tlP hPO
  refine lv_aload_n hx hb d_L_law_436 rfl (lv_at hl 3 rfl) ?_
  refine cal (va_runV (As := []) (rest := [.int bb]) ⟨hx, hb, hml, hown, hg⟩ (hMT) (cwV 0 hg (gV gw_654 gw_655 gw_656 gw_7 gw_657) rfl rfl rfl (by decide +kernel) ⟨by decide, by decide⟩) (preM hKM hPM (va_D_addr hDM rfl)) rfl rfl hl.1 rfl (lv_room (Nat.le_of_ble_eq_true rfl)) d_L_law_437 ⟨by show 21 + i + 0 + 0 ≤ 1064; omega, by show 14480 + 6 * i + 0 + 0 ≤ 22786; omega⟩) hS hPX (fun q h1 h2 => hdis q h2 h1) hAM (fun H locs hPM hPX hS => ?_)
  refine lv_icmp_eq (tgt := 1111) hx hb d_L_law_440 (by decide) (fun c_1 => ?_) (fun c_1 => ?_)
  · skip
    refine W.widen (k := 21 + i + 1) (n := 14480 + 6 * i + 6) (by omega) (by omega) ?_
    exact kk fo lb pl0 rw0 pl1 rw1 s0 c0 n0 s1 c1 n1 s2 c2 n2 s3 c3 n3 u fi h f g 0 la at0 lk st lw su cu nu wr wq dr H locs ls hR hPX hPM hS (lv_sub hl [0, 1, 2, 3, 4] rfl)
  · skip
    exact absurd rfl c_1
set_option maxHeartbeats 4000000 in
set_option maxRecDepth 100000 in
theorem lo_feed {p : Program} {e : Env} {s : State} {m : MethodId} {below : List Frame} {meth : Method} {c : Code} {b L : Nat} {xs : Nat → Int32} (C0 : lw_At p s m meth c b L xs) (hL : L ≤ 2051) (l : Launch) (hst : l.stackTraces = false) (D : va_G) (tw : Nat) (sa : Nat → Nat) (x sw e00 e01 sr e10 e11 br ra bq qa y ms mw mu mc mn mr mq md bi ne li sp q fs oo : Nat) (cB cI cL : ClassId) (fo : Nat → Int64) (lb : Int32) (pl0 rw0 pl1 rw1 s0 c0 n0 s1 c1 n1 s2 c2 n2 s3 c3 n3 u fi h : Nat) (f g : Nat → Int32) (th la at0 lk : Int32) (st lw su cu nu wr wq dr : Nat → Int32) (hR : REL li sp q fs lb pl0 rw0 pl1 rw1 s0 c0 n0 s1 c1 n1 s2 c2 n2 s3 c3 n3 u fi h f g st lw su cu nu wr wq) (hE : EV (fun q => s.heap.size ≤ q) tw s) (hEX : EX (fun q => s.heap.size ≤ q) sa s) (hEC : EC s) (hK : va_K D CLS [(cL, .long), (cB, .byte), (cI, .int)] s) (hdis : ∀ q, q ∈ [y, ms, mw, mu, mc, mn, mr, mq, md] → ¬ q ∈ [oo, x, sw, e00, e01, sr, e10, e11, br, ra, bq, qa]) (hAX : ∀ q, q ∈ [oo, x, sw, e00, e01, sr, e10, e11, br, ra, bq, qa] → s.heap.size ≤ q) (hAM : ∀ q, q ∈ [y, ms, mw, mu, mc, mn, mr, mq, md] → s.heap.size ≤ q) (hDX : va_D (fun _ => True) ((oo, .inl (cL, 1, .inr (.inl fo))) :: CWd x sw e00 e01 sr e10 e11 br ra bq qa cB bi ne li sp q fs lb pl0 rw0 pl1 rw1 s0 c0 n0 s1 c1 n1 s2 c2 n2 s3 c3 n3 u fi h f g)) (hDM : va_D (fun _ => True) (MWd y ms mw mu mc mn mr mq md cI cB bi ne li sp q lb u h th la at0 lk st lw su cu nu wr wq dr)) (i : Nat) (hi : 3 + 4 * i + 4 ≤ L) {H : Heap} {locs : List Loc} (hPX : va_P D CLS ((oo, .inl (cL, 1, .inr (.inl fo))) :: CWd x sw e00 e01 sr e10 e11 br ra bq qa cB bi ne li sp q fs lb pl0 rw0 pl1 rw1 s0 c0 n0 s1 c1 n1 s2 c2 n2 s3 c3 n3 u fi h f g) H) (hPM : va_P D CLS (MWd y ms mw mu mc mn mr mq md cI cB bi ne li sp q lb u h th la at0 lk st lw su cu nu wr wq dr) H) (hS : va_S (fun q => s.heap.size ≤ q) s.heap H locs) {ls : Array Slot} (hl : lv_has ls 7 [(4, .int (nI (3 + 4 * i))), (0, .ref b), (1, .ref x), (2, .ref y), (3, .ref oo)]) (kk : ∀ (fo' : Nat → Int64) (lb' : Int32) (pl0' rw0' pl1' rw1' s0' c0' n0' s1' c1' n1' s2' c2' n2' s3' c3' n3' u' fi' h' : Nat) (f' g' : Nat → Int32) (th' la' at0' lk' : Int32) (st' lw' su' cu' nu' wr' wq' dr' : Nat → Int32) (H : Heap) (locs : List Loc) (ls : Array Slot), REL li sp q fs lb' pl0' rw0' pl1' rw1' s0' c0' n0' s1' c1' n1' s2' c2' n2' s3' c3' n3' u' fi' h' f' g' st' lw' su' cu' nu' wr' wq' → va_P D CLS ((oo, .inl (cL, 1, .inr (.inl fo'))) :: CWd x sw e00 e01 sr e10 e11 br ra bq qa cB bi ne li sp q fs lb' pl0' rw0' pl1' rw1' s0' c0' n0' s1' c1' n1' s2' c2' n2' s3' c3' n3' u' fi' h' f' g') H → va_P D CLS (MWd y ms mw mu mc mn mr mq md cI cB bi ne li sp q lb' u' h' th' la' at0' lk' st' lw' su' cu' nu' wr' wq' dr') H → va_S (fun q => s.heap.size ≤ q) s.heap H locs → lv_has ls 7 [(4, .int (nI (3 + 4 * i))), (0, .ref b), (1, .ref x), (2, .ref y), (3, .ref oo)] → W p l e room_1 s m #[Value.ref b] below meth c H locs (21 + i + 1) (14480 + 6 * i + 6) (lw_Z below #[Value.ref b] s) (F0 m 1111 ls [])) : W p l e room_1 s m #[Value.ref b] below meth c H locs (21 + i) (14480 + 6 * i) (lw_Z below #[Value.ref b] s) (F0 m 445 ls []) := by
  obtain ⟨hx, hb, hr, hml, hown, hts, hX, hbl, hlocks, hgv⟩ := id C0
  have hown : s.vm.findClass "LineGolombLaw" = some m.cls := hown
  have hg : ∀ w ∈ GW, w.before #[Value.ref b] s = true := fun w h => hts w (GW_tbl h)
  have hbA : ¬ s.heap.size ≤ b := Nat.not_le.mpr hbl
  have hKX := hK.sub (tys' := [(cL, .long), (cB, .byte)]) [0, 1] rfl
  have hKC := hK.sub (tys' := [(cB, .byte)]) [1] rfl
  have hKM := hK.sub (tys' := [(cI, .int), (cB, .byte)]) [2, 1] rfl
  refine lv_aload_n hx hb d_L_law_445 rfl (lv_at hl 2 rfl) ?_
  refine lv_aload_n hx hb d_L_law_446 rfl (lv_at hl 1 rfl) ?_
  refine lv_iload hx hb d_L_law_447 (lv_at hl 0 rfl) ?_
  refine lv_iconst (v := 1) hx hb d_L_law_449 (by decide) ?_
  refine lv_iadd hx hb d_L_law_450 ?_
  refine tpi (y := nI (3 + 4 * i + 1)) (nI_add _ 1) ?_
  refine va_sld hx hb hX hbl hbA hS (vp_in_nI (by omega) (by omega)) d_L_law_451 ?_
  refine tpi (y := xs (3 + 4 * i + 1)) (by rw [nI_clamp (by omega)]) ?_
  refine lv_aload_n hx hb d_L_law_452 rfl (lv_at hl 4 rfl) ?_
  obtain ⟨lb', pl0', rw0', pl1', rw1', s0', c0', n0', s1', c1', n1', s2', c2', n2', s3', c3', n3', u', fi', h', f', g', th', la', at0', lk', st', lw', su', cu', nu', wr', wq', dr', bb, fo1, hLT, hMT, heq, hR1⟩ := pr_feed l hst D tw sa x sw e00 e01 sr e10 e11 br ra bq qa y ms mw mu mc mn mr mq md bi ne li sp q fs oo cB cI cL fo lb pl0 rw0 pl1 rw1 s0 c0 n0 s1 c1 n1 s2 c2 n2 s3 c3 n3 u fi h f g th la at0 lk st lw su cu nu wr wq dr hR (xs (3 + 4 * i + 1))
  refine cal (vx_runSW (As := [.ref x, .int (xs (3 + 4 * i + 1)), .ref oo]) (rest := []) ⟨hx, hb, hml, hown, hg⟩ hLT (vx_cwSW 3 hg (gSH gw_406 gw_407 gw_0 gw_408) rfl rfl rfl (by decide +kernel) ⟨by decide, by decide⟩) (preL hE hEX hEC hKX hPX hDX hS hAX) rfl rfl hl.1 rfl (lv_room (Nat.le_of_ble_eq_true rfl)) d_L_law_453 ⟨by show 21 + i + 1 ≤ 1064; omega, by show 14480 + 6 * i + 6 ≤ 22786; omega⟩) hS hPM hdis hAX (fun H locs hPX hPM hS => ?_)
  refine lv_istore (lv' := [(5, .int th'), (4, .int (nI (3 + 4 * i))), (0, .ref b), (1, .ref x), (2, .ref y), (3, .ref oo)]) hx hb d_L_law_456 hl (by decide) rfl (fun ls hl => ?_)
  refine lv_aload_n hx hb d_L_law_458 rfl (lv_at hl 4 rfl) ?_
  refine lv_aload_n hx hb d_L_law_459 rfl (lv_at hl 2 rfl) ?_
  refine lv_iload hx hb d_L_law_460 (lv_at hl 1 rfl) ?_
  refine lv_iconst (v := 1) hx hb d_L_law_462 (by decide) ?_
  refine lv_iadd hx hb d_L_law_463 ?_
  refine tpi (y := nI (3 + 4 * i + 1)) (nI_add _ 1) ?_
  refine va_sld hx hb hX hbl hbA hS (vp_in_nI (by omega) (by omega)) d_L_law_464 ?_
  refine tpi (y := xs (3 + 4 * i + 1)) (by rw [nI_clamp (by omega)]) ?_
  refine cal (va_runV (As := [.int (xs (3 + 4 * i + 1))]) (rest := []) ⟨hx, hb, hml, hown, hg⟩ (hMT) (cwV 1 hg (gV gw_658 gw_659 gw_660 gw_7 gw_661) rfl rfl rfl (by decide +kernel) ⟨by decide, by decide⟩) (preM hKM hPM (va_D_addr hDM rfl)) rfl rfl hl.1 rfl (lv_room (Nat.le_of_ble_eq_true rfl)) d_L_law_465 ⟨by show 21 + i + 1 + 0 ≤ 1064; omega, by show 14480 + 6 * i + 6 + 0 ≤ 22786; omega⟩) hS hPX (fun q h1 h2 => hdis q h2 h1) hAM (fun H locs hPM hPX hS => ?_)
  refine lv_istore (lv' := [(6, .int bb), (5, .int th'), (4, .int (nI (3 + 4 * i))), (0, .ref b), (1, .ref x), (2, .ref y), (3, .ref oo)]) hx hb d_L_law_468 hl (by decide) rfl (fun ls hl => ?_)
  refine lv_aload_n hx hb d_L_law_470 rfl (lv_at hl 5 rfl) ?_
  refine pci (va_runV (As := []) (rest := []) ⟨hx, hb, hml, hown, hg⟩ (c_M_thrown l D y ms mw mu mc mn mr mq md bi ne li sp q u' h' th' lb' la' at0' lk') (cwV 0 hg (gV gw_586 gw_587 gw_588 gw_7 gw_589) rfl rfl rfl (by decide +kernel) ⟨by decide, by decide⟩) (preT hKM hPM) rfl rfl hl.1 rfl (lv_room (Nat.le_of_ble_eq_true rfl)) d_L_law_471 ⟨by show 21 + i + 1 + 0 + 0 ≤ 1064; omega, by show 14480 + 6 * i + 6 + 0 + 0 ≤ 22786; omega⟩) ?_
  refine lv_iload hx hb d_L_law_474 (lv_at hl 1 rfl) ?_
  refine lv_icmp_eq (tgt := 481) hx hb d_L_law_476 (by decide) (fun c_1 => ?_) (fun c_1 => ?_)
  · skip
    refine lv_iload hx hb d_L_law_481 (lv_at hl 1 rfl) ?_
    refine lv_if_ne (tgt := 505) hx hb d_L_law_483 (by decide) (fun c_2 => ?_) (fun c_2 => ?_)
    · skip
      refine lv_goto (tgt := 1111) hx hb d_L_law_505 (by decide) ?_
      exact kk fo1 lb' pl0' rw0' pl1' rw1' s0' c0' n0' s1' c1' n1' s2' c2' n2' s3' c3' n3' u' fi' h' f' g' th' la' at0' lk' st' lw' su' cu' nu' wr' wq' dr' H locs ls hR1 hPX hPM hS (lv_sub hl [2, 3, 4, 5, 6] rfl)
    · skip
      have hth : th' = 0 := c_2
      have heq := heq hth
      refine lv_aload_n hx hb d_L_law_486 rfl (lv_at hl 6 rfl) ?_
      refine lv_iconst (v := 0) hx hb d_L_law_487 (by decide) ?_
      refine va_lald hx hb hKX hPX 0 0 rfl rfl (vp_in_nI (n := 0) (by decide) (by decide)) d_L_law_488 ?_
      refine tpl (y := fo1 0) (rfl) ?_
      refine lv_iload hx hb d_L_law_489 (lv_at hl 0 rfl) ?_
      refine lv_if_eq (tgt := 498) hx hb d_L_law_491 (by decide) (fun c_3 => ?_) (fun c_3 => ?_)
      · skip
        have heq9 : fo1 0 = 0 := by rw [heq, if_pos c_3]
        refine lv_lconst (v := 0) hx hb d_L_law_498 (by decide) ?_
        refine W.lcmp hx hb d_L_law_499 ?_
        refine lv_if_eq (tgt := 505) hx hb d_L_law_500 (by decide) (fun c_4 => ?_) (fun c_4 => ?_)
        · skip
          refine lv_goto (tgt := 1111) hx hb d_L_law_505 (by decide) ?_
          exact kk fo1 lb' pl0' rw0' pl1' rw1' s0' c0' n0' s1' c1' n1' s2' c2' n2' s3' c3' n3' u' fi' h' f' g' th' la' at0' lk' st' lw' su' cu' nu' wr' wq' dr' H locs ls hR1 hPX hPM hS (lv_sub hl [2, 3, 4, 5, 6] rfl)
        · skip
          exact absurd ((lg_cmp_eq _ _).mpr heq9) c_4
      · skip
        have heq9 : fo1 0 = 1 := by rw [heq, if_neg c_3]
        refine lv_lconst (v := 1) hx hb d_L_law_494 (by decide) ?_
        refine lv_goto (tgt := 499) hx hb d_L_law_495 (by decide) ?_
        refine W.lcmp hx hb d_L_law_499 ?_
        refine lv_if_eq (tgt := 505) hx hb d_L_law_500 (by decide) (fun c_5 => ?_) (fun c_5 => ?_)
        · skip
          refine lv_goto (tgt := 1111) hx hb d_L_law_505 (by decide) ?_
          exact kk fo1 lb' pl0' rw0' pl1' rw1' s0' c0' n0' s1' c1' n1' s2' c2' n2' s3' c3' n3' u' fi' h' f' g' th' la' at0' lk' st' lw' su' cu' nu' wr' wq' dr' H locs ls hR1 hPX hPM hS (lv_sub hl [2, 3, 4, 5, 6] rfl)
        · skip
          exact absurd ((lg_cmp_eq _ _).mpr heq9) c_5
  · skip
    exact absurd rfl c_1
set_option maxHeartbeats 4000000 in
set_option maxRecDepth 100000 in
theorem lo_pass {p : Program} {e : Env} {s : State} {m : MethodId} {below : List Frame} {meth : Method} {c : Code} {b L : Nat} {xs : Nat → Int32} (C0 : lw_At p s m meth c b L xs) (hL : L ≤ 2051) (l : Launch) (hst : l.stackTraces = false) (D : va_G) (tw : Nat) (sa : Nat → Nat) (x sw e00 e01 sr e10 e11 br ra bq qa y ms mw mu mc mn mr mq md bi ne li sp q fs oo : Nat) (cB cI cL : ClassId) (fo : Nat → Int64) (lb : Int32) (pl0 rw0 pl1 rw1 s0 c0 n0 s1 c1 n1 s2 c2 n2 s3 c3 n3 u fi h : Nat) (f g : Nat → Int32) (th la at0 lk : Int32) (st lw su cu nu wr wq dr : Nat → Int32) (hR : REL li sp q fs lb pl0 rw0 pl1 rw1 s0 c0 n0 s1 c1 n1 s2 c2 n2 s3 c3 n3 u fi h f g st lw su cu nu wr wq) (hE : EV (fun q => s.heap.size ≤ q) tw s) (hEX : EX (fun q => s.heap.size ≤ q) sa s) (hEC : EC s) (hK : va_K D CLS [(cL, .long), (cB, .byte), (cI, .int)] s) (hdis : ∀ q, q ∈ [y, ms, mw, mu, mc, mn, mr, mq, md] → ¬ q ∈ [oo, x, sw, e00, e01, sr, e10, e11, br, ra, bq, qa]) (hAX : ∀ q, q ∈ [oo, x, sw, e00, e01, sr, e10, e11, br, ra, bq, qa] → s.heap.size ≤ q) (hAM : ∀ q, q ∈ [y, ms, mw, mu, mc, mn, mr, mq, md] → s.heap.size ≤ q) (hDX : va_D (fun _ => True) ((oo, .inl (cL, 1, .inr (.inl fo))) :: CWd x sw e00 e01 sr e10 e11 br ra bq qa cB bi ne li sp q fs lb pl0 rw0 pl1 rw1 s0 c0 n0 s1 c1 n1 s2 c2 n2 s3 c3 n3 u fi h f g)) (hDM : va_D (fun _ => True) (MWd y ms mw mu mc mn mr mq md cI cB bi ne li sp q lb u h th la at0 lk st lw su cu nu wr wq dr)) (i : Nat) (hi : 3 + 4 * i + 4 ≤ L) {H : Heap} {locs : List Loc} (hPX : va_P D CLS ((oo, .inl (cL, 1, .inr (.inl fo))) :: CWd x sw e00 e01 sr e10 e11 br ra bq qa cB bi ne li sp q fs lb pl0 rw0 pl1 rw1 s0 c0 n0 s1 c1 n1 s2 c2 n2 s3 c3 n3 u fi h f g) H) (hPM : va_P D CLS (MWd y ms mw mu mc mn mr mq md cI cB bi ne li sp q lb u h th la at0 lk st lw su cu nu wr wq dr) H) (hS : va_S (fun q => s.heap.size ≤ q) s.heap H locs) {ls : Array Slot} (hl : lv_has ls 7 [(4, .int (nI (3 + 4 * i))), (0, .ref b), (1, .ref x), (2, .ref y), (3, .ref oo)]) (kk : ∀ (fo' : Nat → Int64) (lb' : Int32) (pl0' rw0' pl1' rw1' s0' c0' n0' s1' c1' n1' s2' c2' n2' s3' c3' n3' u' fi' h' : Nat) (f' g' : Nat → Int32) (th' la' at0' lk' : Int32) (st' lw' su' cu' nu' wr' wq' dr' : Nat → Int32) (H : Heap) (locs : List Loc) (ls : Array Slot), REL li sp q fs lb' pl0' rw0' pl1' rw1' s0' c0' n0' s1' c1' n1' s2' c2' n2' s3' c3' n3' u' fi' h' f' g' st' lw' su' cu' nu' wr' wq' → va_P D CLS ((oo, .inl (cL, 1, .inr (.inl fo'))) :: CWd x sw e00 e01 sr e10 e11 br ra bq qa cB bi ne li sp q fs lb' pl0' rw0' pl1' rw1' s0' c0' n0' s1' c1' n1' s2' c2' n2' s3' c3' n3' u' fi' h' f' g') H → va_P D CLS (MWd y ms mw mu mc mn mr mq md cI cB bi ne li sp q lb' u' h' th' la' at0' lk' st' lw' su' cu' nu' wr' wq' dr') H → va_S (fun q => s.heap.size ≤ q) s.heap H locs → lv_has ls 7 [(4, .int (nI (3 + 4 * i))), (0, .ref b), (1, .ref x), (2, .ref y), (3, .ref oo)] → W p l e room_1 s m #[Value.ref b] below meth c H locs (21 + i + 1) (14480 + 6 * i + 6) (lw_Z below #[Value.ref b] s) (F0 m 1111 ls [])) : W p l e room_1 s m #[Value.ref b] below meth c H locs (21 + i) (14480 + 6 * i) (lw_Z below #[Value.ref b] s) (F0 m 508 ls []) := by
  obtain ⟨hx, hb, hr, hml, hown, hts, hX, hbl, hlocks, hgv⟩ := id C0
  have hown : s.vm.findClass "LineGolombLaw" = some m.cls := hown
  have hg : ∀ w ∈ GW, w.before #[Value.ref b] s = true := fun w h => hts w (GW_tbl h)
  have hbA : ¬ s.heap.size ≤ b := Nat.not_le.mpr hbl
  have hKX := hK.sub (tys' := [(cL, .long), (cB, .byte)]) [0, 1] rfl
  have hKC := hK.sub (tys' := [(cB, .byte)]) [1] rfl
  have hKM := hK.sub (tys' := [(cI, .int), (cB, .byte)]) [2, 1] rfl
  refine lv_aload_n hx hb d_L_law_508 rfl (lv_at hl 2 rfl) ?_
  refine lv_aload_n hx hb d_L_law_509 rfl (lv_at hl 1 rfl) ?_
  refine lv_iload hx hb d_L_law_510 (lv_at hl 0 rfl) ?_
  refine lv_iconst (v := 1) hx hb d_L_law_512 (by decide) ?_
  refine lv_iadd hx hb d_L_law_513 ?_
  refine tpi (y := nI (3 + 4 * i + 1)) (nI_add _ 1) ?_
  refine va_sld hx hb hX hbl hbA hS (vp_in_nI (by omega) (by omega)) d_L_law_514 ?_
  refine tpi (y := xs (3 + 4 * i + 1)) (by rw [nI_clamp (by omega)]) ?_
  refine lv_aload_n hx hb d_L_law_515 rfl (lv_at hl 1 rfl) ?_
  refine lv_iload hx hb d_L_law_516 (lv_at hl 0 rfl) ?_
  refine lv_iconst (v := 2) hx hb d_L_law_518 (by decide) ?_
  refine lv_iadd hx hb d_L_law_519 ?_
  refine tpi (y := nI (3 + 4 * i + 2)) (nI_add _ 2) ?_
  refine va_sld hx hb hX hbl hbA hS (vp_in_nI (by omega) (by omega)) d_L_law_520 ?_
  refine tpi (y := xs (3 + 4 * i + 2)) (by rw [nI_clamp (by omega)]) ?_
  refine lv_aload_n hx hb d_L_law_521 rfl (lv_at hl 4 rfl) ?_
  obtain ⟨lb', pl0', rw0', pl1', rw1', s0', c0', n0', s1', c1', n1', s2', c2', n2', s3', c3', n3', u', fi', h', f', g', th', la', at0', lk', st', lw', su', cu', nu', wr', wq', dr', bb, fo1, hLT, hMT, heq, hR1⟩ := pr_pass l hst D tw sa x sw e00 e01 sr e10 e11 br ra bq qa y ms mw mu mc mn mr mq md bi ne li sp q fs oo cB cI cL fo lb pl0 rw0 pl1 rw1 s0 c0 n0 s1 c1 n1 s2 c2 n2 s3 c3 n3 u fi h f g th la at0 lk st lw su cu nu wr wq dr hR (xs (3 + 4 * i + 1)) (xs (3 + 4 * i + 2))
  refine cal (vx_runSW (As := [.ref x, .int (xs (3 + 4 * i + 1)), .int (xs (3 + 4 * i + 2)), .ref oo]) (rest := []) ⟨hx, hb, hml, hown, hg⟩ hLT (vx_cwSW 4 hg (gSH gw_418 gw_419 gw_0 gw_420) rfl rfl rfl (by decide +kernel) ⟨by decide, by decide⟩) (preL hE hEX hEC hKX hPX hDX hS hAX) rfl rfl hl.1 rfl (lv_room (Nat.le_of_ble_eq_true rfl)) d_L_law_522 ⟨by show 21 + i + 1 ≤ 1064; omega, by show 14480 + 6 * i + 6 ≤ 22786; omega⟩) hS hPM hdis hAX (fun H locs hPX hPM hS => ?_)
  refine lv_istore (lv' := [(5, .int th'), (4, .int (nI (3 + 4 * i))), (0, .ref b), (1, .ref x), (2, .ref y), (3, .ref oo)]) hx hb d_L_law_525 hl (by decide) rfl (fun ls hl => ?_)
  refine lv_aload_n hx hb d_L_law_527 rfl (lv_at hl 4 rfl) ?_
  refine lv_aload_n hx hb d_L_law_528 rfl (lv_at hl 2 rfl) ?_
  refine lv_iload hx hb d_L_law_529 (lv_at hl 1 rfl) ?_
  refine lv_iconst (v := 1) hx hb d_L_law_531 (by decide) ?_
  refine lv_iadd hx hb d_L_law_532 ?_
  refine tpi (y := nI (3 + 4 * i + 1)) (nI_add _ 1) ?_
  refine va_sld hx hb hX hbl hbA hS (vp_in_nI (by omega) (by omega)) d_L_law_533 ?_
  refine tpi (y := xs (3 + 4 * i + 1)) (by rw [nI_clamp (by omega)]) ?_
  refine lv_aload_n hx hb d_L_law_534 rfl (lv_at hl 2 rfl) ?_
  refine lv_iload hx hb d_L_law_535 (lv_at hl 1 rfl) ?_
  refine lv_iconst (v := 2) hx hb d_L_law_537 (by decide) ?_
  refine lv_iadd hx hb d_L_law_538 ?_
  refine tpi (y := nI (3 + 4 * i + 2)) (nI_add _ 2) ?_
  refine va_sld hx hb hX hbl hbA hS (vp_in_nI (by omega) (by omega)) d_L_law_539 ?_
  refine tpi (y := xs (3 + 4 * i + 2)) (by rw [nI_clamp (by omega)]) ?_
  refine cal (va_runV (As := [.int (xs (3 + 4 * i + 1)), .int (xs (3 + 4 * i + 2))]) (rest := []) ⟨hx, hb, hml, hown, hg⟩ (hMT) (cwV 2 hg (gV gw_666 gw_667 gw_668 gw_7 gw_669) rfl rfl rfl (by decide +kernel) ⟨by decide, by decide⟩) (preM hKM hPM (va_D_addr hDM rfl)) rfl rfl hl.1 rfl (lv_room (Nat.le_of_ble_eq_true rfl)) d_L_law_540 ⟨by show 21 + i + 1 + 0 ≤ 1064; omega, by show 14480 + 6 * i + 6 + 0 ≤ 22786; omega⟩) hS hPX (fun q h1 h2 => hdis q h2 h1) hAM (fun H locs hPM hPX hS => ?_)
  refine lv_istore (lv' := [(6, .int bb), (5, .int th'), (4, .int (nI (3 + 4 * i))), (0, .ref b), (1, .ref x), (2, .ref y), (3, .ref oo)]) hx hb d_L_law_543 hl (by decide) rfl (fun ls hl => ?_)
  refine lv_aload_n hx hb d_L_law_545 rfl (lv_at hl 5 rfl) ?_
  refine pci (va_runV (As := []) (rest := []) ⟨hx, hb, hml, hown, hg⟩ (c_M_thrown l D y ms mw mu mc mn mr mq md bi ne li sp q u' h' th' lb' la' at0' lk') (cwV 0 hg (gV gw_586 gw_587 gw_588 gw_7 gw_589) rfl rfl rfl (by decide +kernel) ⟨by decide, by decide⟩) (preT hKM hPM) rfl rfl hl.1 rfl (lv_room (Nat.le_of_ble_eq_true rfl)) d_L_law_546 ⟨by show 21 + i + 1 + 0 + 0 ≤ 1064; omega, by show 14480 + 6 * i + 6 + 0 + 0 ≤ 22786; omega⟩) ?_
  refine lv_iload hx hb d_L_law_549 (lv_at hl 1 rfl) ?_
  refine lv_icmp_eq (tgt := 556) hx hb d_L_law_551 (by decide) (fun c_1 => ?_) (fun c_1 => ?_)
  · skip
    refine lv_iload hx hb d_L_law_556 (lv_at hl 1 rfl) ?_
    refine lv_if_ne (tgt := 573) hx hb d_L_law_558 (by decide) (fun c_2 => ?_) (fun c_2 => ?_)
    · skip
      refine lv_goto (tgt := 1111) hx hb d_L_law_573 (by decide) ?_
      exact kk fo1 lb' pl0' rw0' pl1' rw1' s0' c0' n0' s1' c1' n1' s2' c2' n2' s3' c3' n3' u' fi' h' f' g' th' la' at0' lk' st' lw' su' cu' nu' wr' wq' dr' H locs ls hR1 hPX hPM hS (lv_sub hl [2, 3, 4, 5, 6] rfl)
    · skip
      have hth : th' = 0 := c_2
      have heq := heq hth
      refine lv_aload_n hx hb d_L_law_561 rfl (lv_at hl 6 rfl) ?_
      refine lv_iconst (v := 0) hx hb d_L_law_562 (by decide) ?_
      refine va_lald hx hb hKX hPX 0 0 rfl rfl (vp_in_nI (n := 0) (by decide) (by decide)) d_L_law_563 ?_
      refine tpl (y := fo1 0) (rfl) ?_
      refine lv_iload hx hb d_L_law_564 (lv_at hl 0 rfl) ?_
      refine lv_i2l (v := bb.toInt64) hx hb d_L_law_566 (rfl) ?_
      have heq9 := heq
      refine W.lcmp hx hb d_L_law_567 ?_
      refine lv_if_eq (tgt := 573) hx hb d_L_law_568 (by decide) (fun c_3 => ?_) (fun c_3 => ?_)
      · skip
        refine lv_goto (tgt := 1111) hx hb d_L_law_573 (by decide) ?_
        exact kk fo1 lb' pl0' rw0' pl1' rw1' s0' c0' n0' s1' c1' n1' s2' c2' n2' s3' c3' n3' u' fi' h' f' g' th' la' at0' lk' st' lw' su' cu' nu' wr' wq' dr' H locs ls hR1 hPX hPM hS (lv_sub hl [2, 3, 4, 5, 6] rfl)
      · skip
        exact absurd ((lg_cmp_eq _ _).mpr heq9) c_3
  · skip
    exact absurd rfl c_1
set_option maxHeartbeats 4000000 in
set_option maxRecDepth 100000 in
theorem lo_read {p : Program} {e : Env} {s : State} {m : MethodId} {below : List Frame} {meth : Method} {c : Code} {b L : Nat} {xs : Nat → Int32} (C0 : lw_At p s m meth c b L xs) (hL : L ≤ 2051) (l : Launch) (hst : l.stackTraces = false) (D : va_G) (tw : Nat) (sa : Nat → Nat) (x sw e00 e01 sr e10 e11 br ra bq qa y ms mw mu mc mn mr mq md bi ne li sp q fs oo : Nat) (cB cI cL : ClassId) (fo : Nat → Int64) (lb : Int32) (pl0 rw0 pl1 rw1 s0 c0 n0 s1 c1 n1 s2 c2 n2 s3 c3 n3 u fi h : Nat) (f g : Nat → Int32) (th la at0 lk : Int32) (st lw su cu nu wr wq dr : Nat → Int32) (hR : REL li sp q fs lb pl0 rw0 pl1 rw1 s0 c0 n0 s1 c1 n1 s2 c2 n2 s3 c3 n3 u fi h f g st lw su cu nu wr wq) (hE : EV (fun q => s.heap.size ≤ q) tw s) (hEX : EX (fun q => s.heap.size ≤ q) sa s) (hEC : EC s) (hK : va_K D CLS [(cL, .long), (cB, .byte), (cI, .int)] s) (hdis : ∀ q, q ∈ [y, ms, mw, mu, mc, mn, mr, mq, md] → ¬ q ∈ [oo, x, sw, e00, e01, sr, e10, e11, br, ra, bq, qa]) (hAX : ∀ q, q ∈ [oo, x, sw, e00, e01, sr, e10, e11, br, ra, bq, qa] → s.heap.size ≤ q) (hAM : ∀ q, q ∈ [y, ms, mw, mu, mc, mn, mr, mq, md] → s.heap.size ≤ q) (hDX : va_D (fun _ => True) ((oo, .inl (cL, 1, .inr (.inl fo))) :: CWd x sw e00 e01 sr e10 e11 br ra bq qa cB bi ne li sp q fs lb pl0 rw0 pl1 rw1 s0 c0 n0 s1 c1 n1 s2 c2 n2 s3 c3 n3 u fi h f g)) (hDM : va_D (fun _ => True) (MWd y ms mw mu mc mn mr mq md cI cB bi ne li sp q lb u h th la at0 lk st lw su cu nu wr wq dr)) (i : Nat) (hi : 3 + 4 * i + 4 ≤ L) {H : Heap} {locs : List Loc} (hPX : va_P D CLS ((oo, .inl (cL, 1, .inr (.inl fo))) :: CWd x sw e00 e01 sr e10 e11 br ra bq qa cB bi ne li sp q fs lb pl0 rw0 pl1 rw1 s0 c0 n0 s1 c1 n1 s2 c2 n2 s3 c3 n3 u fi h f g) H) (hPM : va_P D CLS (MWd y ms mw mu mc mn mr mq md cI cB bi ne li sp q lb u h th la at0 lk st lw su cu nu wr wq dr) H) (hS : va_S (fun q => s.heap.size ≤ q) s.heap H locs) {ls : Array Slot} (hl : lv_has ls 7 [(4, .int (nI (3 + 4 * i))), (0, .ref b), (1, .ref x), (2, .ref y), (3, .ref oo)]) (kk : ∀ (fo' : Nat → Int64) (lb' : Int32) (pl0' rw0' pl1' rw1' s0' c0' n0' s1' c1' n1' s2' c2' n2' s3' c3' n3' u' fi' h' : Nat) (f' g' : Nat → Int32) (th' la' at0' lk' : Int32) (st' lw' su' cu' nu' wr' wq' dr' : Nat → Int32) (H : Heap) (locs : List Loc) (ls : Array Slot), REL li sp q fs lb' pl0' rw0' pl1' rw1' s0' c0' n0' s1' c1' n1' s2' c2' n2' s3' c3' n3' u' fi' h' f' g' st' lw' su' cu' nu' wr' wq' → va_P D CLS ((oo, .inl (cL, 1, .inr (.inl fo'))) :: CWd x sw e00 e01 sr e10 e11 br ra bq qa cB bi ne li sp q fs lb' pl0' rw0' pl1' rw1' s0' c0' n0' s1' c1' n1' s2' c2' n2' s3' c3' n3' u' fi' h' f' g') H → va_P D CLS (MWd y ms mw mu mc mn mr mq md cI cB bi ne li sp q lb' u' h' th' la' at0' lk' st' lw' su' cu' nu' wr' wq' dr') H → va_S (fun q => s.heap.size ≤ q) s.heap H locs → lv_has ls 7 [(4, .int (nI (3 + 4 * i))), (0, .ref b), (1, .ref x), (2, .ref y), (3, .ref oo)] → W p l e room_1 s m #[Value.ref b] below meth c H locs (21 + i + 1) (14480 + 6 * i + 6) (lw_Z below #[Value.ref b] s) (F0 m 1111 ls [])) : W p l e room_1 s m #[Value.ref b] below meth c H locs (21 + i) (14480 + 6 * i) (lw_Z below #[Value.ref b] s) (F0 m 576 ls []) := by
  obtain ⟨hx, hb, hr, hml, hown, hts, hX, hbl, hlocks, hgv⟩ := id C0
  have hown : s.vm.findClass "LineGolombLaw" = some m.cls := hown
  have hg : ∀ w ∈ GW, w.before #[Value.ref b] s = true := fun w h => hts w (GW_tbl h)
  have hbA : ¬ s.heap.size ≤ b := Nat.not_le.mpr hbl
  have hKX := hK.sub (tys' := [(cL, .long), (cB, .byte)]) [0, 1] rfl
  have hKC := hK.sub (tys' := [(cB, .byte)]) [1] rfl
  have hKM := hK.sub (tys' := [(cI, .int), (cB, .byte)]) [2, 1] rfl
  refine lv_aload_n hx hb d_L_law_576 rfl (lv_at hl 2 rfl) ?_
  refine lv_aload_n hx hb d_L_law_577 rfl (lv_at hl 1 rfl) ?_
  refine lv_iload hx hb d_L_law_578 (lv_at hl 0 rfl) ?_
  refine lv_iconst (v := 1) hx hb d_L_law_580 (by decide) ?_
  refine lv_iadd hx hb d_L_law_581 ?_
  refine tpi (y := nI (3 + 4 * i + 1)) (nI_add _ 1) ?_
  refine va_sld hx hb hX hbl hbA hS (vp_in_nI (by omega) (by omega)) d_L_law_582 ?_
  refine tpi (y := xs (3 + 4 * i + 1)) (by rw [nI_clamp (by omega)]) ?_
  refine lv_aload_n hx hb d_L_law_583 rfl (lv_at hl 4 rfl) ?_
  obtain ⟨lb', pl0', rw0', pl1', rw1', s0', c0', n0', s1', c1', n1', s2', c2', n2', s3', c3', n3', u', fi', h', f', g', th', la', at0', lk', st', lw', su', cu', nu', wr', wq', dr', bb, fo1, hLT, hMT, heq, hR1⟩ := pr_read l hst D tw sa x sw e00 e01 sr e10 e11 br ra bq qa y ms mw mu mc mn mr mq md bi ne li sp q fs oo cB cI cL fo lb pl0 rw0 pl1 rw1 s0 c0 n0 s1 c1 n1 s2 c2 n2 s3 c3 n3 u fi h f g th la at0 lk st lw su cu nu wr wq dr hR (xs (3 + 4 * i + 1))
  refine cal (vx_runSW (As := [.ref x, .int (xs (3 + 4 * i + 1)), .ref oo]) (rest := []) ⟨hx, hb, hml, hown, hg⟩ hLT (vx_cwSW 3 hg (gSH gw_430 gw_431 gw_0 gw_432) rfl rfl rfl (by decide +kernel) ⟨by decide, by decide⟩) (preL hE hEX hEC hKX hPX hDX hS hAX) rfl rfl hl.1 rfl (lv_room (Nat.le_of_ble_eq_true rfl)) d_L_law_584 ⟨by show 21 + i + 1 ≤ 1064; omega, by show 14480 + 6 * i + 6 ≤ 22786; omega⟩) hS hPM hdis hAX (fun H locs hPX hPM hS => ?_)
  refine lv_istore (lv' := [(5, .int th'), (4, .int (nI (3 + 4 * i))), (0, .ref b), (1, .ref x), (2, .ref y), (3, .ref oo)]) hx hb d_L_law_587 hl (by decide) rfl (fun ls hl => ?_)
  refine lv_aload_n hx hb d_L_law_589 rfl (lv_at hl 4 rfl) ?_
  refine lv_aload_n hx hb d_L_law_590 rfl (lv_at hl 2 rfl) ?_
  refine lv_iload hx hb d_L_law_591 (lv_at hl 1 rfl) ?_
  refine lv_iconst (v := 1) hx hb d_L_law_593 (by decide) ?_
  refine lv_iadd hx hb d_L_law_594 ?_
  refine tpi (y := nI (3 + 4 * i + 1)) (nI_add _ 1) ?_
  refine va_sld hx hb hX hbl hbA hS (vp_in_nI (by omega) (by omega)) d_L_law_595 ?_
  refine tpi (y := xs (3 + 4 * i + 1)) (by rw [nI_clamp (by omega)]) ?_
  refine cal (va_runV (As := [.int (xs (3 + 4 * i + 1))]) (rest := []) ⟨hx, hb, hml, hown, hg⟩ (hMT) (cwV 1 hg (gV gw_670 gw_671 gw_672 gw_7 gw_673) rfl rfl rfl (by decide +kernel) ⟨by decide, by decide⟩) (preM hKM hPM (va_D_addr hDM rfl)) rfl rfl hl.1 rfl (lv_room (Nat.le_of_ble_eq_true rfl)) d_L_law_596 ⟨by show 21 + i + 1 + 0 ≤ 1064; omega, by show 14480 + 6 * i + 6 + 0 ≤ 22786; omega⟩) hS hPX (fun q h1 h2 => hdis q h2 h1) hAM (fun H locs hPM hPX hS => ?_)
  refine lv_istore (lv' := [(6, .int bb), (5, .int th'), (4, .int (nI (3 + 4 * i))), (0, .ref b), (1, .ref x), (2, .ref y), (3, .ref oo)]) hx hb d_L_law_599 hl (by decide) rfl (fun ls hl => ?_)
  refine lv_aload_n hx hb d_L_law_601 rfl (lv_at hl 5 rfl) ?_
  refine pci (va_runV (As := []) (rest := []) ⟨hx, hb, hml, hown, hg⟩ (c_M_thrown l D y ms mw mu mc mn mr mq md bi ne li sp q u' h' th' lb' la' at0' lk') (cwV 0 hg (gV gw_586 gw_587 gw_588 gw_7 gw_589) rfl rfl rfl (by decide +kernel) ⟨by decide, by decide⟩) (preT hKM hPM) rfl rfl hl.1 rfl (lv_room (Nat.le_of_ble_eq_true rfl)) d_L_law_602 ⟨by show 21 + i + 1 + 0 + 0 ≤ 1064; omega, by show 14480 + 6 * i + 6 + 0 + 0 ≤ 22786; omega⟩) ?_
  refine lv_iload hx hb d_L_law_605 (lv_at hl 1 rfl) ?_
  refine lv_icmp_eq (tgt := 612) hx hb d_L_law_607 (by decide) (fun c_1 => ?_) (fun c_1 => ?_)
  · skip
    refine lv_iload hx hb d_L_law_612 (lv_at hl 1 rfl) ?_
    refine lv_if_ne (tgt := 629) hx hb d_L_law_614 (by decide) (fun c_2 => ?_) (fun c_2 => ?_)
    · skip
      refine lv_goto (tgt := 1111) hx hb d_L_law_629 (by decide) ?_
      exact kk fo1 lb' pl0' rw0' pl1' rw1' s0' c0' n0' s1' c1' n1' s2' c2' n2' s3' c3' n3' u' fi' h' f' g' th' la' at0' lk' st' lw' su' cu' nu' wr' wq' dr' H locs ls hR1 hPX hPM hS (lv_sub hl [2, 3, 4, 5, 6] rfl)
    · skip
      have hth : th' = 0 := c_2
      have heq := heq hth
      refine lv_aload_n hx hb d_L_law_617 rfl (lv_at hl 6 rfl) ?_
      refine lv_iconst (v := 0) hx hb d_L_law_618 (by decide) ?_
      refine va_lald hx hb hKX hPX 0 0 rfl rfl (vp_in_nI (n := 0) (by decide) (by decide)) d_L_law_619 ?_
      refine tpl (y := fo1 0) (rfl) ?_
      refine lv_iload hx hb d_L_law_620 (lv_at hl 0 rfl) ?_
      refine lv_i2l (v := bb.toInt64) hx hb d_L_law_622 (rfl) ?_
      have heq9 := heq
      refine W.lcmp hx hb d_L_law_623 ?_
      refine lv_if_eq (tgt := 629) hx hb d_L_law_624 (by decide) (fun c_3 => ?_) (fun c_3 => ?_)
      · skip
        refine lv_goto (tgt := 1111) hx hb d_L_law_629 (by decide) ?_
        exact kk fo1 lb' pl0' rw0' pl1' rw1' s0' c0' n0' s1' c1' n1' s2' c2' n2' s3' c3' n3' u' fi' h' f' g' th' la' at0' lk' st' lw' su' cu' nu' wr' wq' dr' H locs ls hR1 hPX hPM hS (lv_sub hl [2, 3, 4, 5, 6] rfl)
      · skip
        exact absurd ((lg_cmp_eq _ _).mpr heq9) c_3
  · skip
    exact absurd rfl c_1
set_option maxHeartbeats 4000000 in
set_option maxRecDepth 100000 in
theorem lo_readRun {p : Program} {e : Env} {s : State} {m : MethodId} {below : List Frame} {meth : Method} {c : Code} {b L : Nat} {xs : Nat → Int32} (C0 : lw_At p s m meth c b L xs) (hL : L ≤ 2051) (l : Launch) (hst : l.stackTraces = false) (D : va_G) (tw : Nat) (sa : Nat → Nat) (x sw e00 e01 sr e10 e11 br ra bq qa y ms mw mu mc mn mr mq md bi ne li sp q fs oo : Nat) (cB cI cL : ClassId) (fo : Nat → Int64) (lb : Int32) (pl0 rw0 pl1 rw1 s0 c0 n0 s1 c1 n1 s2 c2 n2 s3 c3 n3 u fi h : Nat) (f g : Nat → Int32) (th la at0 lk : Int32) (st lw su cu nu wr wq dr : Nat → Int32) (hR : REL li sp q fs lb pl0 rw0 pl1 rw1 s0 c0 n0 s1 c1 n1 s2 c2 n2 s3 c3 n3 u fi h f g st lw su cu nu wr wq) (hE : EV (fun q => s.heap.size ≤ q) tw s) (hEX : EX (fun q => s.heap.size ≤ q) sa s) (hEC : EC s) (hK : va_K D CLS [(cL, .long), (cB, .byte), (cI, .int)] s) (hdis : ∀ q, q ∈ [y, ms, mw, mu, mc, mn, mr, mq, md] → ¬ q ∈ [oo, x, sw, e00, e01, sr, e10, e11, br, ra, bq, qa]) (hAX : ∀ q, q ∈ [oo, x, sw, e00, e01, sr, e10, e11, br, ra, bq, qa] → s.heap.size ≤ q) (hAM : ∀ q, q ∈ [y, ms, mw, mu, mc, mn, mr, mq, md] → s.heap.size ≤ q) (hDX : va_D (fun _ => True) ((oo, .inl (cL, 1, .inr (.inl fo))) :: CWd x sw e00 e01 sr e10 e11 br ra bq qa cB bi ne li sp q fs lb pl0 rw0 pl1 rw1 s0 c0 n0 s1 c1 n1 s2 c2 n2 s3 c3 n3 u fi h f g)) (hDM : va_D (fun _ => True) (MWd y ms mw mu mc mn mr mq md cI cB bi ne li sp q lb u h th la at0 lk st lw su cu nu wr wq dr)) (i : Nat) (hi : 3 + 4 * i + 4 ≤ L) {H : Heap} {locs : List Loc} (hPX : va_P D CLS ((oo, .inl (cL, 1, .inr (.inl fo))) :: CWd x sw e00 e01 sr e10 e11 br ra bq qa cB bi ne li sp q fs lb pl0 rw0 pl1 rw1 s0 c0 n0 s1 c1 n1 s2 c2 n2 s3 c3 n3 u fi h f g) H) (hPM : va_P D CLS (MWd y ms mw mu mc mn mr mq md cI cB bi ne li sp q lb u h th la at0 lk st lw su cu nu wr wq dr) H) (hS : va_S (fun q => s.heap.size ≤ q) s.heap H locs) {ls : Array Slot} (hl : lv_has ls 7 [(4, .int (nI (3 + 4 * i))), (0, .ref b), (1, .ref x), (2, .ref y), (3, .ref oo)]) (kk : ∀ (fo' : Nat → Int64) (lb' : Int32) (pl0' rw0' pl1' rw1' s0' c0' n0' s1' c1' n1' s2' c2' n2' s3' c3' n3' u' fi' h' : Nat) (f' g' : Nat → Int32) (th' la' at0' lk' : Int32) (st' lw' su' cu' nu' wr' wq' dr' : Nat → Int32) (H : Heap) (locs : List Loc) (ls : Array Slot), REL li sp q fs lb' pl0' rw0' pl1' rw1' s0' c0' n0' s1' c1' n1' s2' c2' n2' s3' c3' n3' u' fi' h' f' g' st' lw' su' cu' nu' wr' wq' → va_P D CLS ((oo, .inl (cL, 1, .inr (.inl fo'))) :: CWd x sw e00 e01 sr e10 e11 br ra bq qa cB bi ne li sp q fs lb' pl0' rw0' pl1' rw1' s0' c0' n0' s1' c1' n1' s2' c2' n2' s3' c3' n3' u' fi' h' f' g') H → va_P D CLS (MWd y ms mw mu mc mn mr mq md cI cB bi ne li sp q lb' u' h' th' la' at0' lk' st' lw' su' cu' nu' wr' wq' dr') H → va_S (fun q => s.heap.size ≤ q) s.heap H locs → lv_has ls 7 [(4, .int (nI (3 + 4 * i))), (0, .ref b), (1, .ref x), (2, .ref y), (3, .ref oo)] → W p l e room_1 s m #[Value.ref b] below meth c H locs (21 + i + 1) (14480 + 6 * i + 6) (lw_Z below #[Value.ref b] s) (F0 m 1111 ls [])) : W p l e room_1 s m #[Value.ref b] below meth c H locs (21 + i) (14480 + 6 * i) (lw_Z below #[Value.ref b] s) (F0 m 632 ls []) := by
  obtain ⟨hx, hb, hr, hml, hown, hts, hX, hbl, hlocks, hgv⟩ := id C0
  have hown : s.vm.findClass "LineGolombLaw" = some m.cls := hown
  have hg : ∀ w ∈ GW, w.before #[Value.ref b] s = true := fun w h => hts w (GW_tbl h)
  have hbA : ¬ s.heap.size ≤ b := Nat.not_le.mpr hbl
  have hKX := hK.sub (tys' := [(cL, .long), (cB, .byte)]) [0, 1] rfl
  have hKC := hK.sub (tys' := [(cB, .byte)]) [1] rfl
  have hKM := hK.sub (tys' := [(cI, .int), (cB, .byte)]) [2, 1] rfl
  refine lv_aload_n hx hb d_L_law_632 rfl (lv_at hl 2 rfl) ?_
  refine lv_aload_n hx hb d_L_law_633 rfl (lv_at hl 1 rfl) ?_
  refine lv_iload hx hb d_L_law_634 (lv_at hl 0 rfl) ?_
  refine lv_iconst (v := 1) hx hb d_L_law_636 (by decide) ?_
  refine lv_iadd hx hb d_L_law_637 ?_
  refine tpi (y := nI (3 + 4 * i + 1)) (nI_add _ 1) ?_
  refine va_sld hx hb hX hbl hbA hS (vp_in_nI (by omega) (by omega)) d_L_law_638 ?_
  refine tpi (y := xs (3 + 4 * i + 1)) (by rw [nI_clamp (by omega)]) ?_
  refine lv_aload_n hx hb d_L_law_639 rfl (lv_at hl 4 rfl) ?_
  obtain ⟨lb', pl0', rw0', pl1', rw1', s0', c0', n0', s1', c1', n1', s2', c2', n2', s3', c3', n3', u', fi', h', f', g', th', la', at0', lk', st', lw', su', cu', nu', wr', wq', dr', bb, fo1, hLT, hMT, heq, hR1⟩ := pr_readRun l hst D tw sa x sw e00 e01 sr e10 e11 br ra bq qa y ms mw mu mc mn mr mq md bi ne li sp q fs oo cB cI cL fo lb pl0 rw0 pl1 rw1 s0 c0 n0 s1 c1 n1 s2 c2 n2 s3 c3 n3 u fi h f g th la at0 lk st lw su cu nu wr wq dr hR (xs (3 + 4 * i + 1))
  refine cal (vx_runSW (As := [.ref x, .int (xs (3 + 4 * i + 1)), .ref oo]) (rest := []) ⟨hx, hb, hml, hown, hg⟩ hLT (vx_cwSW 3 hg (gSH gw_453 gw_454 gw_0 gw_455) rfl rfl rfl (by decide +kernel) ⟨by decide, by decide⟩) (preL hE hEX hEC hKX hPX hDX hS hAX) rfl rfl hl.1 rfl (lv_room (Nat.le_of_ble_eq_true rfl)) d_L_law_640 ⟨by show 21 + i + 1 ≤ 1064; omega, by show 14480 + 6 * i + 6 ≤ 22786; omega⟩) hS hPM hdis hAX (fun H locs hPX hPM hS => ?_)
  refine lv_istore (lv' := [(5, .int th'), (4, .int (nI (3 + 4 * i))), (0, .ref b), (1, .ref x), (2, .ref y), (3, .ref oo)]) hx hb d_L_law_643 hl (by decide) rfl (fun ls hl => ?_)
  refine lv_aload_n hx hb d_L_law_645 rfl (lv_at hl 4 rfl) ?_
  refine lv_aload_n hx hb d_L_law_646 rfl (lv_at hl 2 rfl) ?_
  refine lv_iload hx hb d_L_law_647 (lv_at hl 1 rfl) ?_
  refine lv_iconst (v := 1) hx hb d_L_law_649 (by decide) ?_
  refine lv_iadd hx hb d_L_law_650 ?_
  refine tpi (y := nI (3 + 4 * i + 1)) (nI_add _ 1) ?_
  refine va_sld hx hb hX hbl hbA hS (vp_in_nI (by omega) (by omega)) d_L_law_651 ?_
  refine tpi (y := xs (3 + 4 * i + 1)) (by rw [nI_clamp (by omega)]) ?_
  refine cal (va_runV (As := [.int (xs (3 + 4 * i + 1))]) (rest := []) ⟨hx, hb, hml, hown, hg⟩ (hMT) (cwV 1 hg (gV gw_690 gw_691 gw_692 gw_7 gw_693) rfl rfl rfl (by decide +kernel) ⟨by decide, by decide⟩) (preM hKM hPM (va_D_addr hDM rfl)) rfl rfl hl.1 rfl (lv_room (Nat.le_of_ble_eq_true rfl)) d_L_law_652 ⟨by show 21 + i + 1 + 0 ≤ 1064; omega, by show 14480 + 6 * i + 6 + 0 ≤ 22786; omega⟩) hS hPX (fun q h1 h2 => hdis q h2 h1) hAM (fun H locs hPM hPX hS => ?_)
  refine lv_istore (lv' := [(6, .int bb), (5, .int th'), (4, .int (nI (3 + 4 * i))), (0, .ref b), (1, .ref x), (2, .ref y), (3, .ref oo)]) hx hb d_L_law_655 hl (by decide) rfl (fun ls hl => ?_)
  refine lv_aload_n hx hb d_L_law_657 rfl (lv_at hl 5 rfl) ?_
  refine pci (va_runV (As := []) (rest := []) ⟨hx, hb, hml, hown, hg⟩ (c_M_thrown l D y ms mw mu mc mn mr mq md bi ne li sp q u' h' th' lb' la' at0' lk') (cwV 0 hg (gV gw_586 gw_587 gw_588 gw_7 gw_589) rfl rfl rfl (by decide +kernel) ⟨by decide, by decide⟩) (preT hKM hPM) rfl rfl hl.1 rfl (lv_room (Nat.le_of_ble_eq_true rfl)) d_L_law_658 ⟨by show 21 + i + 1 + 0 + 0 ≤ 1064; omega, by show 14480 + 6 * i + 6 + 0 + 0 ≤ 22786; omega⟩) ?_
  refine lv_iload hx hb d_L_law_661 (lv_at hl 1 rfl) ?_
  refine lv_icmp_eq (tgt := 668) hx hb d_L_law_663 (by decide) (fun c_1 => ?_) (fun c_1 => ?_)
  · skip
    refine lv_iload hx hb d_L_law_668 (lv_at hl 1 rfl) ?_
    refine lv_if_ne (tgt := 685) hx hb d_L_law_670 (by decide) (fun c_2 => ?_) (fun c_2 => ?_)
    · skip
      refine lv_goto (tgt := 1111) hx hb d_L_law_685 (by decide) ?_
      exact kk fo1 lb' pl0' rw0' pl1' rw1' s0' c0' n0' s1' c1' n1' s2' c2' n2' s3' c3' n3' u' fi' h' f' g' th' la' at0' lk' st' lw' su' cu' nu' wr' wq' dr' H locs ls hR1 hPX hPM hS (lv_sub hl [2, 3, 4, 5, 6] rfl)
    · skip
      have hth : th' = 0 := c_2
      have heq := heq hth
      refine lv_aload_n hx hb d_L_law_673 rfl (lv_at hl 6 rfl) ?_
      refine lv_iconst (v := 0) hx hb d_L_law_674 (by decide) ?_
      refine va_lald hx hb hKX hPX 0 0 rfl rfl (vp_in_nI (n := 0) (by decide) (by decide)) d_L_law_675 ?_
      refine tpl (y := fo1 0) (rfl) ?_
      refine lv_iload hx hb d_L_law_676 (lv_at hl 0 rfl) ?_
      refine lv_i2l (v := bb.toInt64) hx hb d_L_law_678 (rfl) ?_
      have heq9 := heq
      refine W.lcmp hx hb d_L_law_679 ?_
      refine lv_if_eq (tgt := 685) hx hb d_L_law_680 (by decide) (fun c_3 => ?_) (fun c_3 => ?_)
      · skip
        refine lv_goto (tgt := 1111) hx hb d_L_law_685 (by decide) ?_
        exact kk fo1 lb' pl0' rw0' pl1' rw1' s0' c0' n0' s1' c1' n1' s2' c2' n2' s3' c3' n3' u' fi' h' f' g' th' la' at0' lk' st' lw' su' cu' nu' wr' wq' dr' H locs ls hR1 hPX hPM hS (lv_sub hl [2, 3, 4, 5, 6] rfl)
      · skip
        exact absurd ((lg_cmp_eq _ _).mpr heq9) c_3
  · skip
    exact absurd rfl c_1
set_option maxHeartbeats 4000000 in
set_option maxRecDepth 100000 in
theorem lo_readInterrupt {p : Program} {e : Env} {s : State} {m : MethodId} {below : List Frame} {meth : Method} {c : Code} {b L : Nat} {xs : Nat → Int32} (C0 : lw_At p s m meth c b L xs) (hL : L ≤ 2051) (l : Launch) (hst : l.stackTraces = false) (D : va_G) (tw : Nat) (sa : Nat → Nat) (x sw e00 e01 sr e10 e11 br ra bq qa y ms mw mu mc mn mr mq md bi ne li sp q fs oo : Nat) (cB cI cL : ClassId) (fo : Nat → Int64) (lb : Int32) (pl0 rw0 pl1 rw1 s0 c0 n0 s1 c1 n1 s2 c2 n2 s3 c3 n3 u fi h : Nat) (f g : Nat → Int32) (th la at0 lk : Int32) (st lw su cu nu wr wq dr : Nat → Int32) (hR : REL li sp q fs lb pl0 rw0 pl1 rw1 s0 c0 n0 s1 c1 n1 s2 c2 n2 s3 c3 n3 u fi h f g st lw su cu nu wr wq) (hE : EV (fun q => s.heap.size ≤ q) tw s) (hEX : EX (fun q => s.heap.size ≤ q) sa s) (hEC : EC s) (hK : va_K D CLS [(cL, .long), (cB, .byte), (cI, .int)] s) (hdis : ∀ q, q ∈ [y, ms, mw, mu, mc, mn, mr, mq, md] → ¬ q ∈ [oo, x, sw, e00, e01, sr, e10, e11, br, ra, bq, qa]) (hAX : ∀ q, q ∈ [oo, x, sw, e00, e01, sr, e10, e11, br, ra, bq, qa] → s.heap.size ≤ q) (hAM : ∀ q, q ∈ [y, ms, mw, mu, mc, mn, mr, mq, md] → s.heap.size ≤ q) (hDX : va_D (fun _ => True) ((oo, .inl (cL, 1, .inr (.inl fo))) :: CWd x sw e00 e01 sr e10 e11 br ra bq qa cB bi ne li sp q fs lb pl0 rw0 pl1 rw1 s0 c0 n0 s1 c1 n1 s2 c2 n2 s3 c3 n3 u fi h f g)) (hDM : va_D (fun _ => True) (MWd y ms mw mu mc mn mr mq md cI cB bi ne li sp q lb u h th la at0 lk st lw su cu nu wr wq dr)) (i : Nat) (hi : 3 + 4 * i + 4 ≤ L) {H : Heap} {locs : List Loc} (hPX : va_P D CLS ((oo, .inl (cL, 1, .inr (.inl fo))) :: CWd x sw e00 e01 sr e10 e11 br ra bq qa cB bi ne li sp q fs lb pl0 rw0 pl1 rw1 s0 c0 n0 s1 c1 n1 s2 c2 n2 s3 c3 n3 u fi h f g) H) (hPM : va_P D CLS (MWd y ms mw mu mc mn mr mq md cI cB bi ne li sp q lb u h th la at0 lk st lw su cu nu wr wq dr) H) (hS : va_S (fun q => s.heap.size ≤ q) s.heap H locs) {ls : Array Slot} (hl : lv_has ls 7 [(4, .int (nI (3 + 4 * i))), (0, .ref b), (1, .ref x), (2, .ref y), (3, .ref oo)]) (kk : ∀ (fo' : Nat → Int64) (lb' : Int32) (pl0' rw0' pl1' rw1' s0' c0' n0' s1' c1' n1' s2' c2' n2' s3' c3' n3' u' fi' h' : Nat) (f' g' : Nat → Int32) (th' la' at0' lk' : Int32) (st' lw' su' cu' nu' wr' wq' dr' : Nat → Int32) (H : Heap) (locs : List Loc) (ls : Array Slot), REL li sp q fs lb' pl0' rw0' pl1' rw1' s0' c0' n0' s1' c1' n1' s2' c2' n2' s3' c3' n3' u' fi' h' f' g' st' lw' su' cu' nu' wr' wq' → va_P D CLS ((oo, .inl (cL, 1, .inr (.inl fo'))) :: CWd x sw e00 e01 sr e10 e11 br ra bq qa cB bi ne li sp q fs lb' pl0' rw0' pl1' rw1' s0' c0' n0' s1' c1' n1' s2' c2' n2' s3' c3' n3' u' fi' h' f' g') H → va_P D CLS (MWd y ms mw mu mc mn mr mq md cI cB bi ne li sp q lb' u' h' th' la' at0' lk' st' lw' su' cu' nu' wr' wq' dr') H → va_S (fun q => s.heap.size ≤ q) s.heap H locs → lv_has ls 7 [(4, .int (nI (3 + 4 * i))), (0, .ref b), (1, .ref x), (2, .ref y), (3, .ref oo)] → W p l e room_1 s m #[Value.ref b] below meth c H locs (21 + i + 1) (14480 + 6 * i + 6) (lw_Z below #[Value.ref b] s) (F0 m 1111 ls [])) : W p l e room_1 s m #[Value.ref b] below meth c H locs (21 + i) (14480 + 6 * i) (lw_Z below #[Value.ref b] s) (F0 m 688 ls []) := by
  obtain ⟨hx, hb, hr, hml, hown, hts, hX, hbl, hlocks, hgv⟩ := id C0
  have hown : s.vm.findClass "LineGolombLaw" = some m.cls := hown
  have hg : ∀ w ∈ GW, w.before #[Value.ref b] s = true := fun w h => hts w (GW_tbl h)
  have hbA : ¬ s.heap.size ≤ b := Nat.not_le.mpr hbl
  have hKX := hK.sub (tys' := [(cL, .long), (cB, .byte)]) [0, 1] rfl
  have hKC := hK.sub (tys' := [(cB, .byte)]) [1] rfl
  have hKM := hK.sub (tys' := [(cI, .int), (cB, .byte)]) [2, 1] rfl
  refine lv_aload_n hx hb d_L_law_688 rfl (lv_at hl 2 rfl) ?_
  refine lv_aload_n hx hb d_L_law_689 rfl (lv_at hl 1 rfl) ?_
  refine lv_iload hx hb d_L_law_690 (lv_at hl 0 rfl) ?_
  refine lv_iconst (v := 1) hx hb d_L_law_692 (by decide) ?_
  refine lv_iadd hx hb d_L_law_693 ?_
  refine tpi (y := nI (3 + 4 * i + 1)) (nI_add _ 1) ?_
  refine va_sld hx hb hX hbl hbA hS (vp_in_nI (by omega) (by omega)) d_L_law_694 ?_
  refine tpi (y := xs (3 + 4 * i + 1)) (by rw [nI_clamp (by omega)]) ?_
  refine lv_aload_n hx hb d_L_law_695 rfl (lv_at hl 4 rfl) ?_
  obtain ⟨lb', pl0', rw0', pl1', rw1', s0', c0', n0', s1', c1', n1', s2', c2', n2', s3', c3', n3', u', fi', h', f', g', th', la', at0', lk', st', lw', su', cu', nu', wr', wq', dr', bb, fo1, hLT, hMT, heq, hR1⟩ := pr_readInterrupt l hst D tw sa x sw e00 e01 sr e10 e11 br ra bq qa y ms mw mu mc mn mr mq md bi ne li sp q fs oo cB cI cL fo lb pl0 rw0 pl1 rw1 s0 c0 n0 s1 c1 n1 s2 c2 n2 s3 c3 n3 u fi h f g th la at0 lk st lw su cu nu wr wq dr hR (xs (3 + 4 * i + 1))
  refine cal (vx_runSW (As := [.ref x, .int (xs (3 + 4 * i + 1)), .ref oo]) (rest := []) ⟨hx, hb, hml, hown, hg⟩ hLT (vx_cwSW 3 hg (gSH gw_470 gw_471 gw_0 gw_472) rfl rfl rfl (by decide +kernel) ⟨by decide, by decide⟩) (preL hE hEX hEC hKX hPX hDX hS hAX) rfl rfl hl.1 rfl (lv_room (Nat.le_of_ble_eq_true rfl)) d_L_law_696 ⟨by show 21 + i + 1 ≤ 1064; omega, by show 14480 + 6 * i + 6 ≤ 22786; omega⟩) hS hPM hdis hAX (fun H locs hPX hPM hS => ?_)
  refine lv_istore (lv' := [(5, .int th'), (4, .int (nI (3 + 4 * i))), (0, .ref b), (1, .ref x), (2, .ref y), (3, .ref oo)]) hx hb d_L_law_699 hl (by decide) rfl (fun ls hl => ?_)
  refine lv_aload_n hx hb d_L_law_701 rfl (lv_at hl 4 rfl) ?_
  refine lv_aload_n hx hb d_L_law_702 rfl (lv_at hl 2 rfl) ?_
  refine lv_iload hx hb d_L_law_703 (lv_at hl 1 rfl) ?_
  refine lv_iconst (v := 1) hx hb d_L_law_705 (by decide) ?_
  refine lv_iadd hx hb d_L_law_706 ?_
  refine tpi (y := nI (3 + 4 * i + 1)) (nI_add _ 1) ?_
  refine va_sld hx hb hX hbl hbA hS (vp_in_nI (by omega) (by omega)) d_L_law_707 ?_
  refine tpi (y := xs (3 + 4 * i + 1)) (by rw [nI_clamp (by omega)]) ?_
  refine cal (va_runV (As := [.int (xs (3 + 4 * i + 1))]) (rest := []) ⟨hx, hb, hml, hown, hg⟩ (hMT) (cwV 1 hg (gV gw_694 gw_695 gw_696 gw_7 gw_697) rfl rfl rfl (by decide +kernel) ⟨by decide, by decide⟩) (preM hKM hPM (va_D_addr hDM rfl)) rfl rfl hl.1 rfl (lv_room (Nat.le_of_ble_eq_true rfl)) d_L_law_708 ⟨by show 21 + i + 1 + 0 ≤ 1064; omega, by show 14480 + 6 * i + 6 + 0 ≤ 22786; omega⟩) hS hPX (fun q h1 h2 => hdis q h2 h1) hAM (fun H locs hPM hPX hS => ?_)
  refine lv_istore (lv' := [(6, .int bb), (5, .int th'), (4, .int (nI (3 + 4 * i))), (0, .ref b), (1, .ref x), (2, .ref y), (3, .ref oo)]) hx hb d_L_law_711 hl (by decide) rfl (fun ls hl => ?_)
  refine lv_aload_n hx hb d_L_law_713 rfl (lv_at hl 5 rfl) ?_
  refine pci (va_runV (As := []) (rest := []) ⟨hx, hb, hml, hown, hg⟩ (c_M_thrown l D y ms mw mu mc mn mr mq md bi ne li sp q u' h' th' lb' la' at0' lk') (cwV 0 hg (gV gw_586 gw_587 gw_588 gw_7 gw_589) rfl rfl rfl (by decide +kernel) ⟨by decide, by decide⟩) (preT hKM hPM) rfl rfl hl.1 rfl (lv_room (Nat.le_of_ble_eq_true rfl)) d_L_law_714 ⟨by show 21 + i + 1 + 0 + 0 ≤ 1064; omega, by show 14480 + 6 * i + 6 + 0 + 0 ≤ 22786; omega⟩) ?_
  refine lv_iload hx hb d_L_law_717 (lv_at hl 1 rfl) ?_
  refine lv_icmp_eq (tgt := 724) hx hb d_L_law_719 (by decide) (fun c_1 => ?_) (fun c_1 => ?_)
  · skip
    refine lv_iload hx hb d_L_law_724 (lv_at hl 1 rfl) ?_
    refine lv_if_ne (tgt := 741) hx hb d_L_law_726 (by decide) (fun c_2 => ?_) (fun c_2 => ?_)
    · skip
      refine lv_goto (tgt := 1111) hx hb d_L_law_741 (by decide) ?_
      exact kk fo1 lb' pl0' rw0' pl1' rw1' s0' c0' n0' s1' c1' n1' s2' c2' n2' s3' c3' n3' u' fi' h' f' g' th' la' at0' lk' st' lw' su' cu' nu' wr' wq' dr' H locs ls hR1 hPX hPM hS (lv_sub hl [2, 3, 4, 5, 6] rfl)
    · skip
      have hth : th' = 0 := c_2
      have heq := heq hth
      refine lv_aload_n hx hb d_L_law_729 rfl (lv_at hl 6 rfl) ?_
      refine lv_iconst (v := 0) hx hb d_L_law_730 (by decide) ?_
      refine va_lald hx hb hKX hPX 0 0 rfl rfl (vp_in_nI (n := 0) (by decide) (by decide)) d_L_law_731 ?_
      refine tpl (y := fo1 0) (rfl) ?_
      refine lv_iload hx hb d_L_law_732 (lv_at hl 0 rfl) ?_
      refine lv_i2l (v := bb.toInt64) hx hb d_L_law_734 (rfl) ?_
      have heq9 := heq
      refine W.lcmp hx hb d_L_law_735 ?_
      refine lv_if_eq (tgt := 741) hx hb d_L_law_736 (by decide) (fun c_3 => ?_) (fun c_3 => ?_)
      · skip
        refine lv_goto (tgt := 1111) hx hb d_L_law_741 (by decide) ?_
        exact kk fo1 lb' pl0' rw0' pl1' rw1' s0' c0' n0' s1' c1' n1' s2' c2' n2' s3' c3' n3' u' fi' h' f' g' th' la' at0' lk' st' lw' su' cu' nu' wr' wq' dr' H locs ls hR1 hPX hPM hS (lv_sub hl [2, 3, 4, 5, 6] rfl)
      · skip
        exact absurd ((lg_cmp_eq _ _).mpr heq9) c_3
  · skip
    exact absurd rfl c_1
set_option maxHeartbeats 4000000 in
set_option maxRecDepth 100000 in
theorem lo_wasEnded {p : Program} {e : Env} {s : State} {m : MethodId} {below : List Frame} {meth : Method} {c : Code} {b L : Nat} {xs : Nat → Int32} (C0 : lw_At p s m meth c b L xs) (hL : L ≤ 2051) (l : Launch) (hst : l.stackTraces = false) (D : va_G) (tw : Nat) (sa : Nat → Nat) (x sw e00 e01 sr e10 e11 br ra bq qa y ms mw mu mc mn mr mq md bi ne li sp q fs oo : Nat) (cB cI cL : ClassId) (fo : Nat → Int64) (lb : Int32) (pl0 rw0 pl1 rw1 s0 c0 n0 s1 c1 n1 s2 c2 n2 s3 c3 n3 u fi h : Nat) (f g : Nat → Int32) (th la at0 lk : Int32) (st lw su cu nu wr wq dr : Nat → Int32) (hR : REL li sp q fs lb pl0 rw0 pl1 rw1 s0 c0 n0 s1 c1 n1 s2 c2 n2 s3 c3 n3 u fi h f g st lw su cu nu wr wq) (hE : EV (fun q => s.heap.size ≤ q) tw s) (hEX : EX (fun q => s.heap.size ≤ q) sa s) (hEC : EC s) (hK : va_K D CLS [(cL, .long), (cB, .byte), (cI, .int)] s) (hdis : ∀ q, q ∈ [y, ms, mw, mu, mc, mn, mr, mq, md] → ¬ q ∈ [oo, x, sw, e00, e01, sr, e10, e11, br, ra, bq, qa]) (hAX : ∀ q, q ∈ [oo, x, sw, e00, e01, sr, e10, e11, br, ra, bq, qa] → s.heap.size ≤ q) (hAM : ∀ q, q ∈ [y, ms, mw, mu, mc, mn, mr, mq, md] → s.heap.size ≤ q) (hDX : va_D (fun _ => True) ((oo, .inl (cL, 1, .inr (.inl fo))) :: CWd x sw e00 e01 sr e10 e11 br ra bq qa cB bi ne li sp q fs lb pl0 rw0 pl1 rw1 s0 c0 n0 s1 c1 n1 s2 c2 n2 s3 c3 n3 u fi h f g)) (hDM : va_D (fun _ => True) (MWd y ms mw mu mc mn mr mq md cI cB bi ne li sp q lb u h th la at0 lk st lw su cu nu wr wq dr)) (i : Nat) (hi : 3 + 4 * i + 4 ≤ L) {H : Heap} {locs : List Loc} (hPX : va_P D CLS ((oo, .inl (cL, 1, .inr (.inl fo))) :: CWd x sw e00 e01 sr e10 e11 br ra bq qa cB bi ne li sp q fs lb pl0 rw0 pl1 rw1 s0 c0 n0 s1 c1 n1 s2 c2 n2 s3 c3 n3 u fi h f g) H) (hPM : va_P D CLS (MWd y ms mw mu mc mn mr mq md cI cB bi ne li sp q lb u h th la at0 lk st lw su cu nu wr wq dr) H) (hS : va_S (fun q => s.heap.size ≤ q) s.heap H locs) {ls : Array Slot} (hl : lv_has ls 7 [(4, .int (nI (3 + 4 * i))), (0, .ref b), (1, .ref x), (2, .ref y), (3, .ref oo)]) (kk : ∀ (fo' : Nat → Int64) (lb' : Int32) (pl0' rw0' pl1' rw1' s0' c0' n0' s1' c1' n1' s2' c2' n2' s3' c3' n3' u' fi' h' : Nat) (f' g' : Nat → Int32) (th' la' at0' lk' : Int32) (st' lw' su' cu' nu' wr' wq' dr' : Nat → Int32) (H : Heap) (locs : List Loc) (ls : Array Slot), REL li sp q fs lb' pl0' rw0' pl1' rw1' s0' c0' n0' s1' c1' n1' s2' c2' n2' s3' c3' n3' u' fi' h' f' g' st' lw' su' cu' nu' wr' wq' → va_P D CLS ((oo, .inl (cL, 1, .inr (.inl fo'))) :: CWd x sw e00 e01 sr e10 e11 br ra bq qa cB bi ne li sp q fs lb' pl0' rw0' pl1' rw1' s0' c0' n0' s1' c1' n1' s2' c2' n2' s3' c3' n3' u' fi' h' f' g') H → va_P D CLS (MWd y ms mw mu mc mn mr mq md cI cB bi ne li sp q lb' u' h' th' la' at0' lk' st' lw' su' cu' nu' wr' wq' dr') H → va_S (fun q => s.heap.size ≤ q) s.heap H locs → lv_has ls 7 [(4, .int (nI (3 + 4 * i))), (0, .ref b), (1, .ref x), (2, .ref y), (3, .ref oo)] → W p l e room_1 s m #[Value.ref b] below meth c H locs (21 + i + 1) (14480 + 6 * i + 6) (lw_Z below #[Value.ref b] s) (F0 m 1111 ls [])) : W p l e room_1 s m #[Value.ref b] below meth c H locs (21 + i) (14480 + 6 * i) (lw_Z below #[Value.ref b] s) (F0 m 744 ls []) := by
  obtain ⟨hx, hb, hr, hml, hown, hts, hX, hbl, hlocks, hgv⟩ := id C0
  have hown : s.vm.findClass "LineGolombLaw" = some m.cls := hown
  have hg : ∀ w ∈ GW, w.before #[Value.ref b] s = true := fun w h => hts w (GW_tbl h)
  have hbA : ¬ s.heap.size ≤ b := Nat.not_le.mpr hbl
  have hKX := hK.sub (tys' := [(cL, .long), (cB, .byte)]) [0, 1] rfl
  have hKC := hK.sub (tys' := [(cB, .byte)]) [1] rfl
  have hKM := hK.sub (tys' := [(cI, .int), (cB, .byte)]) [2, 1] rfl
  refine lv_aload_n hx hb d_L_law_744 rfl (lv_at hl 2 rfl) ?_
  obtain ⟨bb, hCT, hMT⟩ := pr_wasEnded l hst D tw sa x sw e00 e01 sr e10 e11 br ra bq qa y ms mw mu mc mn mr mq md bi ne li sp q fs oo cB cI cL fo lb pl0 rw0 pl1 rw1 s0 c0 n0 s1 c1 n1 s2 c2 n2 s3 c3 n3 u fi h f g th la at0 lk st lw su cu nu wr wq dr hR 
  have hPO : va_P D CLS ((oo, .inl (cL, 1, .inr (.inl fo))) :: MWd y ms mw mu mc mn mr mq md cI cB bi ne li sp q lb u h th la at0 lk st lw su cu nu wr wq dr) H := fun k q hk => by cases k with | zero => exact hPX 0 q hk | succ k => exact hPM k q hk
  refine cal (V := (oo, .inl (cL, 1, .inr (.inl fo))) :: MWd y ms mw mu mc mn mr mq md cI cB bi ne li sp q lb u h th la at0 lk st lw su cu nu wr wq dr) (va_runV (As := []) (rest := []) ⟨hx, hb, hml, hown, hg⟩ (hCT) (cwV 0 hg (gV gw_151 gw_152 gw_153 gw_1 gw_154) rfl rfl rfl (by decide +kernel) ⟨by decide, by decide⟩) (preE hE hKC (tlP hPX) (tlD hDX) hS (fun q h => hAX q (List.mem_cons_of_mem _ h))) rfl rfl hl.1 rfl (lv_room (Nat.le_of_ble_eq_true rfl)) d_L_law_745 ⟨by show 21 + i + 0 ≤ 1064; omega, by show 14480 + 6 * i + 0 ≤ 22786; omega⟩) hS hPO (disH hDX hdis) (fun q h => hAX q (List.mem_cons_of_mem _ h)) (fun H locs hPX9 hPO hS => ?_)
  have hPX : va_P D CLS ((oo, .inl (cL, 1, .inr (.inl fo))) :: CWd x sw e00 e01 sr e10 e11 br ra bq qa cB bi ne li sp q fs lb pl0 rw0 pl1 rw1 s0 c0 n0 s1 c1 n1 s2 c2 n2 s3 c3 n3 u fi h f g) H := fun k q hk => by cases k with | zero => exact hPO 0 q hk | succ k => exact hPX9 k q hk
  have hPM := tlP hPO
  refine lv_aload_n hx hb d_L_law_748 rfl (lv_at hl 3 rfl) ?_
  refine cal (va_runV (As := []) (rest := [.int bb]) ⟨hx, hb, hml, hown, hg⟩ (hMT) (cwV 0 hg (gV gw_699 gw_700 gw_701 gw_7 gw_702) rfl rfl rfl (by decide +kernel) ⟨by decide, by decide⟩) (preM hKM hPM (va_D_addr hDM rfl)) rfl rfl hl.1 rfl (lv_room (Nat.le_of_ble_eq_true rfl)) d_L_law_749 ⟨by show 21 + i + 0 + 0 ≤ 1064; omega, by show 14480 + 6 * i + 0 + 0 ≤ 22786; omega⟩) hS hPX (fun q h1 h2 => hdis q h2 h1) hAM (fun H locs hPM hPX hS => ?_)
  refine lv_icmp_eq (tgt := 1111) hx hb d_L_law_752 (by decide) (fun c_1 => ?_) (fun c_1 => ?_)
  · skip
    refine W.widen (k := 21 + i + 1) (n := 14480 + 6 * i + 6) (by omega) (by omega) ?_
    exact kk fo lb pl0 rw0 pl1 rw1 s0 c0 n0 s1 c1 n1 s2 c2 n2 s3 c3 n3 u fi h f g 0 la at0 lk st lw su cu nu wr wq dr H locs ls hR hPX hPM hS (lv_sub hl [0, 1, 2, 3, 4] rfl)
  · skip
    exact absurd rfl c_1
set_option maxHeartbeats 4000000 in
set_option maxRecDepth 100000 in
theorem lo_waiting {p : Program} {e : Env} {s : State} {m : MethodId} {below : List Frame} {meth : Method} {c : Code} {b L : Nat} {xs : Nat → Int32} (C0 : lw_At p s m meth c b L xs) (hL : L ≤ 2051) (l : Launch) (hst : l.stackTraces = false) (D : va_G) (tw : Nat) (sa : Nat → Nat) (x sw e00 e01 sr e10 e11 br ra bq qa y ms mw mu mc mn mr mq md bi ne li sp q fs oo : Nat) (cB cI cL : ClassId) (fo : Nat → Int64) (lb : Int32) (pl0 rw0 pl1 rw1 s0 c0 n0 s1 c1 n1 s2 c2 n2 s3 c3 n3 u fi h : Nat) (f g : Nat → Int32) (th la at0 lk : Int32) (st lw su cu nu wr wq dr : Nat → Int32) (hR : REL li sp q fs lb pl0 rw0 pl1 rw1 s0 c0 n0 s1 c1 n1 s2 c2 n2 s3 c3 n3 u fi h f g st lw su cu nu wr wq) (hE : EV (fun q => s.heap.size ≤ q) tw s) (hEX : EX (fun q => s.heap.size ≤ q) sa s) (hEC : EC s) (hK : va_K D CLS [(cL, .long), (cB, .byte), (cI, .int)] s) (hdis : ∀ q, q ∈ [y, ms, mw, mu, mc, mn, mr, mq, md] → ¬ q ∈ [oo, x, sw, e00, e01, sr, e10, e11, br, ra, bq, qa]) (hAX : ∀ q, q ∈ [oo, x, sw, e00, e01, sr, e10, e11, br, ra, bq, qa] → s.heap.size ≤ q) (hAM : ∀ q, q ∈ [y, ms, mw, mu, mc, mn, mr, mq, md] → s.heap.size ≤ q) (hDX : va_D (fun _ => True) ((oo, .inl (cL, 1, .inr (.inl fo))) :: CWd x sw e00 e01 sr e10 e11 br ra bq qa cB bi ne li sp q fs lb pl0 rw0 pl1 rw1 s0 c0 n0 s1 c1 n1 s2 c2 n2 s3 c3 n3 u fi h f g)) (hDM : va_D (fun _ => True) (MWd y ms mw mu mc mn mr mq md cI cB bi ne li sp q lb u h th la at0 lk st lw su cu nu wr wq dr)) (i : Nat) (hi : 3 + 4 * i + 4 ≤ L) {H : Heap} {locs : List Loc} (hPX : va_P D CLS ((oo, .inl (cL, 1, .inr (.inl fo))) :: CWd x sw e00 e01 sr e10 e11 br ra bq qa cB bi ne li sp q fs lb pl0 rw0 pl1 rw1 s0 c0 n0 s1 c1 n1 s2 c2 n2 s3 c3 n3 u fi h f g) H) (hPM : va_P D CLS (MWd y ms mw mu mc mn mr mq md cI cB bi ne li sp q lb u h th la at0 lk st lw su cu nu wr wq dr) H) (hS : va_S (fun q => s.heap.size ≤ q) s.heap H locs) {ls : Array Slot} (hl : lv_has ls 7 [(4, .int (nI (3 + 4 * i))), (0, .ref b), (1, .ref x), (2, .ref y), (3, .ref oo)]) (kk : ∀ (fo' : Nat → Int64) (lb' : Int32) (pl0' rw0' pl1' rw1' s0' c0' n0' s1' c1' n1' s2' c2' n2' s3' c3' n3' u' fi' h' : Nat) (f' g' : Nat → Int32) (th' la' at0' lk' : Int32) (st' lw' su' cu' nu' wr' wq' dr' : Nat → Int32) (H : Heap) (locs : List Loc) (ls : Array Slot), REL li sp q fs lb' pl0' rw0' pl1' rw1' s0' c0' n0' s1' c1' n1' s2' c2' n2' s3' c3' n3' u' fi' h' f' g' st' lw' su' cu' nu' wr' wq' → va_P D CLS ((oo, .inl (cL, 1, .inr (.inl fo'))) :: CWd x sw e00 e01 sr e10 e11 br ra bq qa cB bi ne li sp q fs lb' pl0' rw0' pl1' rw1' s0' c0' n0' s1' c1' n1' s2' c2' n2' s3' c3' n3' u' fi' h' f' g') H → va_P D CLS (MWd y ms mw mu mc mn mr mq md cI cB bi ne li sp q lb' u' h' th' la' at0' lk' st' lw' su' cu' nu' wr' wq' dr') H → va_S (fun q => s.heap.size ≤ q) s.heap H locs → lv_has ls 7 [(4, .int (nI (3 + 4 * i))), (0, .ref b), (1, .ref x), (2, .ref y), (3, .ref oo)] → W p l e room_1 s m #[Value.ref b] below meth c H locs (21 + i + 1) (14480 + 6 * i + 6) (lw_Z below #[Value.ref b] s) (F0 m 1111 ls [])) : W p l e room_1 s m #[Value.ref b] below meth c H locs (21 + i) (14480 + 6 * i) (lw_Z below #[Value.ref b] s) (F0 m 757 ls []) := by
  obtain ⟨hx, hb, hr, hml, hown, hts, hX, hbl, hlocks, hgv⟩ := id C0
  have hown : s.vm.findClass "LineGolombLaw" = some m.cls := hown
  have hg : ∀ w ∈ GW, w.before #[Value.ref b] s = true := fun w h => hts w (GW_tbl h)
  have hbA : ¬ s.heap.size ≤ b := Nat.not_le.mpr hbl
  have hKX := hK.sub (tys' := [(cL, .long), (cB, .byte)]) [0, 1] rfl
  have hKC := hK.sub (tys' := [(cB, .byte)]) [1] rfl
  have hKM := hK.sub (tys' := [(cI, .int), (cB, .byte)]) [2, 1] rfl
  refine lv_aload_n hx hb d_L_law_757 rfl (lv_at hl 2 rfl) ?_
  obtain ⟨bb, hCT, hMT⟩ := pr_waiting l hst D tw sa x sw e00 e01 sr e10 e11 br ra bq qa y ms mw mu mc mn mr mq md bi ne li sp q fs oo cB cI cL fo lb pl0 rw0 pl1 rw1 s0 c0 n0 s1 c1 n1 s2 c2 n2 s3 c3 n3 u fi h f g th la at0 lk st lw su cu nu wr wq dr hR 
  have hPO : va_P D CLS ((oo, .inl (cL, 1, .inr (.inl fo))) :: MWd y ms mw mu mc mn mr mq md cI cB bi ne li sp q lb u h th la at0 lk st lw su cu nu wr wq dr) H := fun k q hk => by cases k with | zero => exact hPX 0 q hk | succ k => exact hPM k q hk
  refine cal (V := (oo, .inl (cL, 1, .inr (.inl fo))) :: MWd y ms mw mu mc mn mr mq md cI cB bi ne li sp q lb u h th la at0 lk st lw su cu nu wr wq dr) (va_runV (As := []) (rest := []) ⟨hx, hb, hml, hown, hg⟩ (hCT) (cwV 0 hg (gV gw_155 gw_156 gw_157 gw_1 gw_158) rfl rfl rfl (by decide +kernel) ⟨by decide, by decide⟩) (preE hE hKC (tlP hPX) (tlD hDX) hS (fun q h => hAX q (List.mem_cons_of_mem _ h))) rfl rfl hl.1 rfl (lv_room (Nat.le_of_ble_eq_true rfl)) d_L_law_758 ⟨by show 21 + i + 0 ≤ 1064; omega, by show 14480 + 6 * i + 0 ≤ 22786; omega⟩) hS hPO (disH hDX hdis) (fun q h => hAX q (List.mem_cons_of_mem _ h)) (fun H locs hPX9 hPO hS => ?_)
  have hPX : va_P D CLS ((oo, .inl (cL, 1, .inr (.inl fo))) :: CWd x sw e00 e01 sr e10 e11 br ra bq qa cB bi ne li sp q fs lb pl0 rw0 pl1 rw1 s0 c0 n0 s1 c1 n1 s2 c2 n2 s3 c3 n3 u fi h f g) H := fun k q hk => by cases k with | zero => exact hPO 0 q hk | succ k => exact hPX9 k q hk
  have hPM := tlP hPO
  refine lv_aload_n hx hb d_L_law_761 rfl (lv_at hl 3 rfl) ?_
  refine cal (va_runV (As := []) (rest := [.int bb]) ⟨hx, hb, hml, hown, hg⟩ (hMT) (cwV 0 hg (gV gw_703 gw_704 gw_705 gw_7 gw_706) rfl rfl rfl (by decide +kernel) ⟨by decide, by decide⟩) (preM hKM hPM (va_D_addr hDM rfl)) rfl rfl hl.1 rfl (lv_room (Nat.le_of_ble_eq_true rfl)) d_L_law_762 ⟨by show 21 + i + 0 + 0 ≤ 1064; omega, by show 14480 + 6 * i + 0 + 0 ≤ 22786; omega⟩) hS hPX (fun q h1 h2 => hdis q h2 h1) hAM (fun H locs hPM hPX hS => ?_)
  refine lv_icmp_eq (tgt := 1111) hx hb d_L_law_765 (by decide) (fun c_1 => ?_) (fun c_1 => ?_)
  · skip
    refine W.widen (k := 21 + i + 1) (n := 14480 + 6 * i + 6) (by omega) (by omega) ?_
    exact kk fo lb pl0 rw0 pl1 rw1 s0 c0 n0 s1 c1 n1 s2 c2 n2 s3 c3 n3 u fi h f g 0 la at0 lk st lw su cu nu wr wq dr H locs ls hR hPX hPM hS (lv_sub hl [0, 1, 2, 3, 4] rfl)
  · skip
    exact absurd rfl c_1
set_option maxHeartbeats 4000000 in
set_option maxRecDepth 100000 in
theorem lo_map {p : Program} {e : Env} {s : State} {m : MethodId} {below : List Frame} {meth : Method} {c : Code} {b L : Nat} {xs : Nat → Int32} (C0 : lw_At p s m meth c b L xs) (hL : L ≤ 2051) (l : Launch) (hst : l.stackTraces = false) (D : va_G) (tw : Nat) (sa : Nat → Nat) (x sw e00 e01 sr e10 e11 br ra bq qa y ms mw mu mc mn mr mq md bi ne li sp q fs oo : Nat) (cB cI cL : ClassId) (fo : Nat → Int64) (lb : Int32) (pl0 rw0 pl1 rw1 s0 c0 n0 s1 c1 n1 s2 c2 n2 s3 c3 n3 u fi h : Nat) (f g : Nat → Int32) (th la at0 lk : Int32) (st lw su cu nu wr wq dr : Nat → Int32) (hR : REL li sp q fs lb pl0 rw0 pl1 rw1 s0 c0 n0 s1 c1 n1 s2 c2 n2 s3 c3 n3 u fi h f g st lw su cu nu wr wq) (hE : EV (fun q => s.heap.size ≤ q) tw s) (hEX : EX (fun q => s.heap.size ≤ q) sa s) (hEC : EC s) (hK : va_K D CLS [(cL, .long), (cB, .byte), (cI, .int)] s) (hdis : ∀ q, q ∈ [y, ms, mw, mu, mc, mn, mr, mq, md] → ¬ q ∈ [oo, x, sw, e00, e01, sr, e10, e11, br, ra, bq, qa]) (hAX : ∀ q, q ∈ [oo, x, sw, e00, e01, sr, e10, e11, br, ra, bq, qa] → s.heap.size ≤ q) (hAM : ∀ q, q ∈ [y, ms, mw, mu, mc, mn, mr, mq, md] → s.heap.size ≤ q) (hDX : va_D (fun _ => True) ((oo, .inl (cL, 1, .inr (.inl fo))) :: CWd x sw e00 e01 sr e10 e11 br ra bq qa cB bi ne li sp q fs lb pl0 rw0 pl1 rw1 s0 c0 n0 s1 c1 n1 s2 c2 n2 s3 c3 n3 u fi h f g)) (hDM : va_D (fun _ => True) (MWd y ms mw mu mc mn mr mq md cI cB bi ne li sp q lb u h th la at0 lk st lw su cu nu wr wq dr)) (i : Nat) (hi : 3 + 4 * i + 4 ≤ L) {H : Heap} {locs : List Loc} (hPX : va_P D CLS ((oo, .inl (cL, 1, .inr (.inl fo))) :: CWd x sw e00 e01 sr e10 e11 br ra bq qa cB bi ne li sp q fs lb pl0 rw0 pl1 rw1 s0 c0 n0 s1 c1 n1 s2 c2 n2 s3 c3 n3 u fi h f g) H) (hPM : va_P D CLS (MWd y ms mw mu mc mn mr mq md cI cB bi ne li sp q lb u h th la at0 lk st lw su cu nu wr wq dr) H) (hS : va_S (fun q => s.heap.size ≤ q) s.heap H locs) {ls : Array Slot} (hl : lv_has ls 7 [(4, .int (nI (3 + 4 * i))), (0, .ref b), (1, .ref x), (2, .ref y), (3, .ref oo)]) (kk : ∀ (fo' : Nat → Int64) (lb' : Int32) (pl0' rw0' pl1' rw1' s0' c0' n0' s1' c1' n1' s2' c2' n2' s3' c3' n3' u' fi' h' : Nat) (f' g' : Nat → Int32) (th' la' at0' lk' : Int32) (st' lw' su' cu' nu' wr' wq' dr' : Nat → Int32) (H : Heap) (locs : List Loc) (ls : Array Slot), REL li sp q fs lb' pl0' rw0' pl1' rw1' s0' c0' n0' s1' c1' n1' s2' c2' n2' s3' c3' n3' u' fi' h' f' g' st' lw' su' cu' nu' wr' wq' → va_P D CLS ((oo, .inl (cL, 1, .inr (.inl fo'))) :: CWd x sw e00 e01 sr e10 e11 br ra bq qa cB bi ne li sp q fs lb' pl0' rw0' pl1' rw1' s0' c0' n0' s1' c1' n1' s2' c2' n2' s3' c3' n3' u' fi' h' f' g') H → va_P D CLS (MWd y ms mw mu mc mn mr mq md cI cB bi ne li sp q lb' u' h' th' la' at0' lk' st' lw' su' cu' nu' wr' wq' dr') H → va_S (fun q => s.heap.size ≤ q) s.heap H locs → lv_has ls 7 [(4, .int (nI (3 + 4 * i))), (0, .ref b), (1, .ref x), (2, .ref y), (3, .ref oo)] → W p l e room_1 s m #[Value.ref b] below meth c H locs (21 + i + 1) (14480 + 6 * i + 6) (lw_Z below #[Value.ref b] s) (F0 m 1111 ls [])) : W p l e room_1 s m #[Value.ref b] below meth c H locs (21 + i) (14480 + 6 * i) (lw_Z below #[Value.ref b] s) (F0 m 770 ls []) := by
  obtain ⟨hx, hb, hr, hml, hown, hts, hX, hbl, hlocks, hgv⟩ := id C0
  have hown : s.vm.findClass "LineGolombLaw" = some m.cls := hown
  have hg : ∀ w ∈ GW, w.before #[Value.ref b] s = true := fun w h => hts w (GW_tbl h)
  have hbA : ¬ s.heap.size ≤ b := Nat.not_le.mpr hbl
  have hKX := hK.sub (tys' := [(cL, .long), (cB, .byte)]) [0, 1] rfl
  have hKC := hK.sub (tys' := [(cB, .byte)]) [1] rfl
  have hKM := hK.sub (tys' := [(cI, .int), (cB, .byte)]) [2, 1] rfl
  refine lv_aload_n hx hb d_L_law_770 rfl (lv_at hl 2 rfl) ?_
  refine lv_aload_n hx hb d_L_law_771 rfl (lv_at hl 1 rfl) ?_
  refine lv_iload hx hb d_L_law_772 (lv_at hl 0 rfl) ?_
  refine lv_iconst (v := 1) hx hb d_L_law_774 (by decide) ?_
  refine lv_iadd hx hb d_L_law_775 ?_
  refine tpi (y := nI (3 + 4 * i + 1)) (nI_add _ 1) ?_
  refine va_sld hx hb hX hbl hbA hS (vp_in_nI (by omega) (by omega)) d_L_law_776 ?_
  refine tpi (y := xs (3 + 4 * i + 1)) (by rw [nI_clamp (by omega)]) ?_
  refine lv_aload_n hx hb d_L_law_777 rfl (lv_at hl 1 rfl) ?_
  refine lv_iload hx hb d_L_law_778 (lv_at hl 0 rfl) ?_
  refine lv_iconst (v := 2) hx hb d_L_law_780 (by decide) ?_
  refine lv_iadd hx hb d_L_law_781 ?_
  refine tpi (y := nI (3 + 4 * i + 2)) (nI_add _ 2) ?_
  refine va_sld hx hb hX hbl hbA hS (vp_in_nI (by omega) (by omega)) d_L_law_782 ?_
  refine tpi (y := xs (3 + 4 * i + 2)) (by rw [nI_clamp (by omega)]) ?_
  refine lv_if_eq (tgt := 790) hx hb d_L_law_783 (by decide) (fun c_1 => ?_) (fun c_1 => ?_)
  · skip
    have hz1 := c_1
    have hb1 : (0 : Int32) = 0 ∨ (0 : Int32) = 1 := Or.inl rfl
    refine lv_iconst (v := 0) hx hb d_L_law_790 (by decide) ?_
    refine lv_aload_n hx hb d_L_law_791 rfl (lv_at hl 4 rfl) ?_
    obtain ⟨lb', pl0', rw0', pl1', rw1', s0', c0', n0', s1', c1', n1', s2', c2', n2', s3', c3', n3', u', fi', h', f', g', th', la', at0', lk', st', lw', su', cu', nu', wr', wq', dr', bb, fo1, hLT, hMT, heq, hR1⟩ := pr_map l hst D tw sa x sw e00 e01 sr e10 e11 br ra bq qa y ms mw mu mc mn mr mq md bi ne li sp q fs oo cB cI cL fo lb pl0 rw0 pl1 rw1 s0 c0 n0 s1 c1 n1 s2 c2 n2 s3 c3 n3 u fi h f g th la at0 lk st lw su cu nu wr wq dr hR (xs (3 + 4 * i + 1)) 0
    refine cal (vx_runSW (As := [.ref x, .int (xs (3 + 4 * i + 1)), .int 0, .ref oo]) (rest := []) ⟨hx, hb, hml, hown, hg⟩ hLT (vx_cwSW 4 hg (gSH gw_482 gw_483 gw_0 gw_484) rfl rfl rfl (by decide +kernel) ⟨by decide, by decide⟩) (preL hE hEX hEC hKX hPX hDX hS hAX) rfl rfl hl.1 rfl (lv_room (Nat.le_of_ble_eq_true rfl)) d_L_law_792 ⟨by show 21 + i + 1 ≤ 1064; omega, by show 14480 + 6 * i + 6 ≤ 22786; omega⟩) hS hPM hdis hAX (fun H locs hPX hPM hS => ?_)
    refine lv_istore (lv' := [(5, .int th'), (4, .int (nI (3 + 4 * i))), (0, .ref b), (1, .ref x), (2, .ref y), (3, .ref oo)]) hx hb d_L_law_795 hl (by decide) rfl (fun ls hl => ?_)
    refine lv_aload_n hx hb d_L_law_797 rfl (lv_at hl 4 rfl) ?_
    refine lv_aload_n hx hb d_L_law_798 rfl (lv_at hl 2 rfl) ?_
    refine lv_iload hx hb d_L_law_799 (lv_at hl 1 rfl) ?_
    refine lv_iconst (v := 1) hx hb d_L_law_801 (by decide) ?_
    refine lv_iadd hx hb d_L_law_802 ?_
    refine tpi (y := nI (3 + 4 * i + 1)) (nI_add _ 1) ?_
    refine va_sld hx hb hX hbl hbA hS (vp_in_nI (by omega) (by omega)) d_L_law_803 ?_
    refine tpi (y := xs (3 + 4 * i + 1)) (by rw [nI_clamp (by omega)]) ?_
    refine lv_aload_n hx hb d_L_law_804 rfl (lv_at hl 2 rfl) ?_
    refine lv_iload hx hb d_L_law_805 (lv_at hl 1 rfl) ?_
    refine lv_iconst (v := 2) hx hb d_L_law_807 (by decide) ?_
    refine lv_iadd hx hb d_L_law_808 ?_
    refine tpi (y := nI (3 + 4 * i + 2)) (nI_add _ 2) ?_
    refine va_sld hx hb hX hbl hbA hS (vp_in_nI (by omega) (by omega)) d_L_law_809 ?_
    refine tpi (y := xs (3 + 4 * i + 2)) (by rw [nI_clamp (by omega)]) ?_
    refine lv_if_eq (tgt := 817) hx hb d_L_law_810 (by decide) (fun c_2 => ?_) (fun c_2 => ?_)
    · skip
      refine lv_iconst (v := 0) hx hb d_L_law_817 (by decide) ?_
      refine cal (va_runV (As := [.int (xs (3 + 4 * i + 1)), .int 0]) (rest := []) ⟨hx, hb, hml, hown, hg⟩ (hMT) (cwV 2 hg (gV gw_707 gw_708 gw_709 gw_7 gw_710) rfl rfl rfl (by decide +kernel) ⟨by decide, by decide⟩) (preM hKM hPM (va_D_addr hDM rfl)) rfl rfl hl.1 rfl (lv_room (Nat.le_of_ble_eq_true rfl)) d_L_law_818 ⟨by show 21 + i + 1 + 0 ≤ 1064; omega, by show 14480 + 6 * i + 6 + 0 ≤ 22786; omega⟩) hS hPX (fun q h1 h2 => hdis q h2 h1) hAM (fun H locs hPM hPX hS => ?_)
      refine lv_istore (lv' := [(6, .int bb), (5, .int th'), (4, .int (nI (3 + 4 * i))), (0, .ref b), (1, .ref x), (2, .ref y), (3, .ref oo)]) hx hb d_L_law_821 hl (by decide) rfl (fun ls hl => ?_)
      refine lv_aload_n hx hb d_L_law_823 rfl (lv_at hl 5 rfl) ?_
      refine pci (va_runV (As := []) (rest := []) ⟨hx, hb, hml, hown, hg⟩ (c_M_thrown l D y ms mw mu mc mn mr mq md bi ne li sp q u' h' th' lb' la' at0' lk') (cwV 0 hg (gV gw_586 gw_587 gw_588 gw_7 gw_589) rfl rfl rfl (by decide +kernel) ⟨by decide, by decide⟩) (preT hKM hPM) rfl rfl hl.1 rfl (lv_room (Nat.le_of_ble_eq_true rfl)) d_L_law_824 ⟨by show 21 + i + 1 + 0 + 0 ≤ 1064; omega, by show 14480 + 6 * i + 6 + 0 + 0 ≤ 22786; omega⟩) ?_
      refine lv_iload hx hb d_L_law_827 (lv_at hl 1 rfl) ?_
      refine lv_icmp_eq (tgt := 834) hx hb d_L_law_829 (by decide) (fun c_3 => ?_) (fun c_3 => ?_)
      · skip
        refine lv_iload hx hb d_L_law_834 (lv_at hl 1 rfl) ?_
        refine lv_if_ne (tgt := 851) hx hb d_L_law_836 (by decide) (fun c_4 => ?_) (fun c_4 => ?_)
        · skip
          refine lv_goto (tgt := 1111) hx hb d_L_law_851 (by decide) ?_
          exact kk fo1 lb' pl0' rw0' pl1' rw1' s0' c0' n0' s1' c1' n1' s2' c2' n2' s3' c3' n3' u' fi' h' f' g' th' la' at0' lk' st' lw' su' cu' nu' wr' wq' dr' H locs ls hR1 hPX hPM hS (lv_sub hl [2, 3, 4, 5, 6] rfl)
        · skip
          have hth : th' = 0 := c_4
          have heq := heq hth
          refine lv_aload_n hx hb d_L_law_839 rfl (lv_at hl 6 rfl) ?_
          refine lv_iconst (v := 0) hx hb d_L_law_840 (by decide) ?_
          refine va_lald hx hb hKX hPX 0 0 rfl rfl (vp_in_nI (n := 0) (by decide) (by decide)) d_L_law_841 ?_
          refine tpl (y := fo1 0) (rfl) ?_
          refine lv_iload hx hb d_L_law_842 (lv_at hl 0 rfl) ?_
          refine lv_i2l (v := bb.toInt64) hx hb d_L_law_844 (rfl) ?_
          have heq9 := heq
          refine W.lcmp hx hb d_L_law_845 ?_
          refine lv_if_eq (tgt := 851) hx hb d_L_law_846 (by decide) (fun c_5 => ?_) (fun c_5 => ?_)
          · skip
            refine lv_goto (tgt := 1111) hx hb d_L_law_851 (by decide) ?_
            exact kk fo1 lb' pl0' rw0' pl1' rw1' s0' c0' n0' s1' c1' n1' s2' c2' n2' s3' c3' n3' u' fi' h' f' g' th' la' at0' lk' st' lw' su' cu' nu' wr' wq' dr' H locs ls hR1 hPX hPM hS (lv_sub hl [2, 3, 4, 5, 6] rfl)
          · skip
            exact absurd ((lg_cmp_eq _ _).mpr heq9) c_5
      · skip
        exact absurd rfl c_3
    · skip
      exact absurd hz1 c_2
  · skip
    have hz1 := c_1
    have hb1 : (1 : Int32) = 0 ∨ (1 : Int32) = 1 := Or.inr rfl
    refine lv_iconst (v := 1) hx hb d_L_law_786 (by decide) ?_
    refine lv_goto (tgt := 791) hx hb d_L_law_787 (by decide) ?_
    refine lv_aload_n hx hb d_L_law_791 rfl (lv_at hl 4 rfl) ?_
    obtain ⟨lb', pl0', rw0', pl1', rw1', s0', c0', n0', s1', c1', n1', s2', c2', n2', s3', c3', n3', u', fi', h', f', g', th', la', at0', lk', st', lw', su', cu', nu', wr', wq', dr', bb, fo1, hLT, hMT, heq, hR1⟩ := pr_map l hst D tw sa x sw e00 e01 sr e10 e11 br ra bq qa y ms mw mu mc mn mr mq md bi ne li sp q fs oo cB cI cL fo lb pl0 rw0 pl1 rw1 s0 c0 n0 s1 c1 n1 s2 c2 n2 s3 c3 n3 u fi h f g th la at0 lk st lw su cu nu wr wq dr hR (xs (3 + 4 * i + 1)) 1
    refine cal (vx_runSW (As := [.ref x, .int (xs (3 + 4 * i + 1)), .int 1, .ref oo]) (rest := []) ⟨hx, hb, hml, hown, hg⟩ hLT (vx_cwSW 4 hg (gSH gw_482 gw_483 gw_0 gw_484) rfl rfl rfl (by decide +kernel) ⟨by decide, by decide⟩) (preL hE hEX hEC hKX hPX hDX hS hAX) rfl rfl hl.1 rfl (lv_room (Nat.le_of_ble_eq_true rfl)) d_L_law_792 ⟨by show 21 + i + 1 ≤ 1064; omega, by show 14480 + 6 * i + 6 ≤ 22786; omega⟩) hS hPM hdis hAX (fun H locs hPX hPM hS => ?_)
    refine lv_istore (lv' := [(5, .int th'), (4, .int (nI (3 + 4 * i))), (0, .ref b), (1, .ref x), (2, .ref y), (3, .ref oo)]) hx hb d_L_law_795 hl (by decide) rfl (fun ls hl => ?_)
    refine lv_aload_n hx hb d_L_law_797 rfl (lv_at hl 4 rfl) ?_
    refine lv_aload_n hx hb d_L_law_798 rfl (lv_at hl 2 rfl) ?_
    refine lv_iload hx hb d_L_law_799 (lv_at hl 1 rfl) ?_
    refine lv_iconst (v := 1) hx hb d_L_law_801 (by decide) ?_
    refine lv_iadd hx hb d_L_law_802 ?_
    refine tpi (y := nI (3 + 4 * i + 1)) (nI_add _ 1) ?_
    refine va_sld hx hb hX hbl hbA hS (vp_in_nI (by omega) (by omega)) d_L_law_803 ?_
    refine tpi (y := xs (3 + 4 * i + 1)) (by rw [nI_clamp (by omega)]) ?_
    refine lv_aload_n hx hb d_L_law_804 rfl (lv_at hl 2 rfl) ?_
    refine lv_iload hx hb d_L_law_805 (lv_at hl 1 rfl) ?_
    refine lv_iconst (v := 2) hx hb d_L_law_807 (by decide) ?_
    refine lv_iadd hx hb d_L_law_808 ?_
    refine tpi (y := nI (3 + 4 * i + 2)) (nI_add _ 2) ?_
    refine va_sld hx hb hX hbl hbA hS (vp_in_nI (by omega) (by omega)) d_L_law_809 ?_
    refine tpi (y := xs (3 + 4 * i + 2)) (by rw [nI_clamp (by omega)]) ?_
    refine lv_if_eq (tgt := 817) hx hb d_L_law_810 (by decide) (fun c_6 => ?_) (fun c_6 => ?_)
    · skip
      exact absurd c_6 hz1
    · skip
      refine lv_iconst (v := 1) hx hb d_L_law_813 (by decide) ?_
      refine lv_goto (tgt := 818) hx hb d_L_law_814 (by decide) ?_
      refine cal (va_runV (As := [.int (xs (3 + 4 * i + 1)), .int 1]) (rest := []) ⟨hx, hb, hml, hown, hg⟩ (hMT) (cwV 2 hg (gV gw_707 gw_708 gw_709 gw_7 gw_710) rfl rfl rfl (by decide +kernel) ⟨by decide, by decide⟩) (preM hKM hPM (va_D_addr hDM rfl)) rfl rfl hl.1 rfl (lv_room (Nat.le_of_ble_eq_true rfl)) d_L_law_818 ⟨by show 21 + i + 1 + 0 ≤ 1064; omega, by show 14480 + 6 * i + 6 + 0 ≤ 22786; omega⟩) hS hPX (fun q h1 h2 => hdis q h2 h1) hAM (fun H locs hPM hPX hS => ?_)
      refine lv_istore (lv' := [(6, .int bb), (5, .int th'), (4, .int (nI (3 + 4 * i))), (0, .ref b), (1, .ref x), (2, .ref y), (3, .ref oo)]) hx hb d_L_law_821 hl (by decide) rfl (fun ls hl => ?_)
      refine lv_aload_n hx hb d_L_law_823 rfl (lv_at hl 5 rfl) ?_
      refine pci (va_runV (As := []) (rest := []) ⟨hx, hb, hml, hown, hg⟩ (c_M_thrown l D y ms mw mu mc mn mr mq md bi ne li sp q u' h' th' lb' la' at0' lk') (cwV 0 hg (gV gw_586 gw_587 gw_588 gw_7 gw_589) rfl rfl rfl (by decide +kernel) ⟨by decide, by decide⟩) (preT hKM hPM) rfl rfl hl.1 rfl (lv_room (Nat.le_of_ble_eq_true rfl)) d_L_law_824 ⟨by show 21 + i + 1 + 0 + 0 ≤ 1064; omega, by show 14480 + 6 * i + 6 + 0 + 0 ≤ 22786; omega⟩) ?_
      refine lv_iload hx hb d_L_law_827 (lv_at hl 1 rfl) ?_
      refine lv_icmp_eq (tgt := 834) hx hb d_L_law_829 (by decide) (fun c_7 => ?_) (fun c_7 => ?_)
      · skip
        refine lv_iload hx hb d_L_law_834 (lv_at hl 1 rfl) ?_
        refine lv_if_ne (tgt := 851) hx hb d_L_law_836 (by decide) (fun c_8 => ?_) (fun c_8 => ?_)
        · skip
          refine lv_goto (tgt := 1111) hx hb d_L_law_851 (by decide) ?_
          exact kk fo1 lb' pl0' rw0' pl1' rw1' s0' c0' n0' s1' c1' n1' s2' c2' n2' s3' c3' n3' u' fi' h' f' g' th' la' at0' lk' st' lw' su' cu' nu' wr' wq' dr' H locs ls hR1 hPX hPM hS (lv_sub hl [2, 3, 4, 5, 6] rfl)
        · skip
          have hth : th' = 0 := c_8
          have heq := heq hth
          refine lv_aload_n hx hb d_L_law_839 rfl (lv_at hl 6 rfl) ?_
          refine lv_iconst (v := 0) hx hb d_L_law_840 (by decide) ?_
          refine va_lald hx hb hKX hPX 0 0 rfl rfl (vp_in_nI (n := 0) (by decide) (by decide)) d_L_law_841 ?_
          refine tpl (y := fo1 0) (rfl) ?_
          refine lv_iload hx hb d_L_law_842 (lv_at hl 0 rfl) ?_
          refine lv_i2l (v := bb.toInt64) hx hb d_L_law_844 (rfl) ?_
          have heq9 := heq
          refine W.lcmp hx hb d_L_law_845 ?_
          refine lv_if_eq (tgt := 851) hx hb d_L_law_846 (by decide) (fun c_9 => ?_) (fun c_9 => ?_)
          · skip
            refine lv_goto (tgt := 1111) hx hb d_L_law_851 (by decide) ?_
            exact kk fo1 lb' pl0' rw0' pl1' rw1' s0' c0' n0' s1' c1' n1' s2' c2' n2' s3' c3' n3' u' fi' h' f' g' th' la' at0' lk' st' lw' su' cu' nu' wr' wq' dr' H locs ls hR1 hPX hPM hS (lv_sub hl [2, 3, 4, 5, 6] rfl)
          · skip
            exact absurd ((lg_cmp_eq _ _).mpr heq9) c_9
      · skip
        exact absurd rfl c_7
set_option maxHeartbeats 4000000 in
set_option maxRecDepth 100000 in
theorem lo_unmap {p : Program} {e : Env} {s : State} {m : MethodId} {below : List Frame} {meth : Method} {c : Code} {b L : Nat} {xs : Nat → Int32} (C0 : lw_At p s m meth c b L xs) (hL : L ≤ 2051) (l : Launch) (hst : l.stackTraces = false) (D : va_G) (tw : Nat) (sa : Nat → Nat) (x sw e00 e01 sr e10 e11 br ra bq qa y ms mw mu mc mn mr mq md bi ne li sp q fs oo : Nat) (cB cI cL : ClassId) (fo : Nat → Int64) (lb : Int32) (pl0 rw0 pl1 rw1 s0 c0 n0 s1 c1 n1 s2 c2 n2 s3 c3 n3 u fi h : Nat) (f g : Nat → Int32) (th la at0 lk : Int32) (st lw su cu nu wr wq dr : Nat → Int32) (hR : REL li sp q fs lb pl0 rw0 pl1 rw1 s0 c0 n0 s1 c1 n1 s2 c2 n2 s3 c3 n3 u fi h f g st lw su cu nu wr wq) (hE : EV (fun q => s.heap.size ≤ q) tw s) (hEX : EX (fun q => s.heap.size ≤ q) sa s) (hEC : EC s) (hK : va_K D CLS [(cL, .long), (cB, .byte), (cI, .int)] s) (hdis : ∀ q, q ∈ [y, ms, mw, mu, mc, mn, mr, mq, md] → ¬ q ∈ [oo, x, sw, e00, e01, sr, e10, e11, br, ra, bq, qa]) (hAX : ∀ q, q ∈ [oo, x, sw, e00, e01, sr, e10, e11, br, ra, bq, qa] → s.heap.size ≤ q) (hAM : ∀ q, q ∈ [y, ms, mw, mu, mc, mn, mr, mq, md] → s.heap.size ≤ q) (hDX : va_D (fun _ => True) ((oo, .inl (cL, 1, .inr (.inl fo))) :: CWd x sw e00 e01 sr e10 e11 br ra bq qa cB bi ne li sp q fs lb pl0 rw0 pl1 rw1 s0 c0 n0 s1 c1 n1 s2 c2 n2 s3 c3 n3 u fi h f g)) (hDM : va_D (fun _ => True) (MWd y ms mw mu mc mn mr mq md cI cB bi ne li sp q lb u h th la at0 lk st lw su cu nu wr wq dr)) (i : Nat) (hi : 3 + 4 * i + 4 ≤ L) {H : Heap} {locs : List Loc} (hPX : va_P D CLS ((oo, .inl (cL, 1, .inr (.inl fo))) :: CWd x sw e00 e01 sr e10 e11 br ra bq qa cB bi ne li sp q fs lb pl0 rw0 pl1 rw1 s0 c0 n0 s1 c1 n1 s2 c2 n2 s3 c3 n3 u fi h f g) H) (hPM : va_P D CLS (MWd y ms mw mu mc mn mr mq md cI cB bi ne li sp q lb u h th la at0 lk st lw su cu nu wr wq dr) H) (hS : va_S (fun q => s.heap.size ≤ q) s.heap H locs) {ls : Array Slot} (hl : lv_has ls 7 [(4, .int (nI (3 + 4 * i))), (0, .ref b), (1, .ref x), (2, .ref y), (3, .ref oo)]) (kk : ∀ (fo' : Nat → Int64) (lb' : Int32) (pl0' rw0' pl1' rw1' s0' c0' n0' s1' c1' n1' s2' c2' n2' s3' c3' n3' u' fi' h' : Nat) (f' g' : Nat → Int32) (th' la' at0' lk' : Int32) (st' lw' su' cu' nu' wr' wq' dr' : Nat → Int32) (H : Heap) (locs : List Loc) (ls : Array Slot), REL li sp q fs lb' pl0' rw0' pl1' rw1' s0' c0' n0' s1' c1' n1' s2' c2' n2' s3' c3' n3' u' fi' h' f' g' st' lw' su' cu' nu' wr' wq' → va_P D CLS ((oo, .inl (cL, 1, .inr (.inl fo'))) :: CWd x sw e00 e01 sr e10 e11 br ra bq qa cB bi ne li sp q fs lb' pl0' rw0' pl1' rw1' s0' c0' n0' s1' c1' n1' s2' c2' n2' s3' c3' n3' u' fi' h' f' g') H → va_P D CLS (MWd y ms mw mu mc mn mr mq md cI cB bi ne li sp q lb' u' h' th' la' at0' lk' st' lw' su' cu' nu' wr' wq' dr') H → va_S (fun q => s.heap.size ≤ q) s.heap H locs → lv_has ls 7 [(4, .int (nI (3 + 4 * i))), (0, .ref b), (1, .ref x), (2, .ref y), (3, .ref oo)] → W p l e room_1 s m #[Value.ref b] below meth c H locs (21 + i + 1) (14480 + 6 * i + 6) (lw_Z below #[Value.ref b] s) (F0 m 1111 ls [])) : W p l e room_1 s m #[Value.ref b] below meth c H locs (21 + i) (14480 + 6 * i) (lw_Z below #[Value.ref b] s) (F0 m 854 ls []) := by
  obtain ⟨hx, hb, hr, hml, hown, hts, hX, hbl, hlocks, hgv⟩ := id C0
  have hown : s.vm.findClass "LineGolombLaw" = some m.cls := hown
  have hg : ∀ w ∈ GW, w.before #[Value.ref b] s = true := fun w h => hts w (GW_tbl h)
  have hbA : ¬ s.heap.size ≤ b := Nat.not_le.mpr hbl
  have hKX := hK.sub (tys' := [(cL, .long), (cB, .byte)]) [0, 1] rfl
  have hKC := hK.sub (tys' := [(cB, .byte)]) [1] rfl
  have hKM := hK.sub (tys' := [(cI, .int), (cB, .byte)]) [2, 1] rfl
  refine lv_aload_n hx hb d_L_law_854 rfl (lv_at hl 2 rfl) ?_
  refine lv_aload_n hx hb d_L_law_855 rfl (lv_at hl 1 rfl) ?_
  refine lv_iload hx hb d_L_law_856 (lv_at hl 0 rfl) ?_
  refine lv_iconst (v := 1) hx hb d_L_law_858 (by decide) ?_
  refine lv_iadd hx hb d_L_law_859 ?_
  refine tpi (y := nI (3 + 4 * i + 1)) (nI_add _ 1) ?_
  refine va_sld hx hb hX hbl hbA hS (vp_in_nI (by omega) (by omega)) d_L_law_860 ?_
  refine tpi (y := xs (3 + 4 * i + 1)) (by rw [nI_clamp (by omega)]) ?_
  refine lv_aload_n hx hb d_L_law_861 rfl (lv_at hl 1 rfl) ?_
  refine lv_iload hx hb d_L_law_862 (lv_at hl 0 rfl) ?_
  refine lv_iconst (v := 2) hx hb d_L_law_864 (by decide) ?_
  refine lv_iadd hx hb d_L_law_865 ?_
  refine tpi (y := nI (3 + 4 * i + 2)) (nI_add _ 2) ?_
  refine va_sld hx hb hX hbl hbA hS (vp_in_nI (by omega) (by omega)) d_L_law_866 ?_
  refine tpi (y := xs (3 + 4 * i + 2)) (by rw [nI_clamp (by omega)]) ?_
  refine lv_if_eq (tgt := 874) hx hb d_L_law_867 (by decide) (fun c_1 => ?_) (fun c_1 => ?_)
  · skip
    have hz1 := c_1
    have hb1 : (0 : Int32) = 0 ∨ (0 : Int32) = 1 := Or.inl rfl
    refine lv_iconst (v := 0) hx hb d_L_law_874 (by decide) ?_
    refine lv_aload_n hx hb d_L_law_875 rfl (lv_at hl 4 rfl) ?_
    obtain ⟨lb', pl0', rw0', pl1', rw1', s0', c0', n0', s1', c1', n1', s2', c2', n2', s3', c3', n3', u', fi', h', f', g', th', la', at0', lk', st', lw', su', cu', nu', wr', wq', dr', bb, fo1, hLT, hMT, heq, hR1⟩ := pr_unmap l hst D tw sa x sw e00 e01 sr e10 e11 br ra bq qa y ms mw mu mc mn mr mq md bi ne li sp q fs oo cB cI cL fo lb pl0 rw0 pl1 rw1 s0 c0 n0 s1 c1 n1 s2 c2 n2 s3 c3 n3 u fi h f g th la at0 lk st lw su cu nu wr wq dr hR (xs (3 + 4 * i + 1)) 0 hb1
    refine cal (vx_runSW (As := [.ref x, .int (xs (3 + 4 * i + 1)), .int 0, .ref oo]) (rest := []) ⟨hx, hb, hml, hown, hg⟩ hLT (vx_cwSW 4 hg (gSH gw_492 gw_493 gw_0 gw_494) rfl rfl rfl (by decide +kernel) ⟨by decide, by decide⟩) (preL hE hEX hEC hKX hPX hDX hS hAX) rfl rfl hl.1 rfl (lv_room (Nat.le_of_ble_eq_true rfl)) d_L_law_876 ⟨by show 21 + i + 1 ≤ 1064; omega, by show 14480 + 6 * i + 6 ≤ 22786; omega⟩) hS hPM hdis hAX (fun H locs hPX hPM hS => ?_)
    refine lv_istore (lv' := [(5, .int th'), (4, .int (nI (3 + 4 * i))), (0, .ref b), (1, .ref x), (2, .ref y), (3, .ref oo)]) hx hb d_L_law_879 hl (by decide) rfl (fun ls hl => ?_)
    refine lv_aload_n hx hb d_L_law_881 rfl (lv_at hl 4 rfl) ?_
    refine lv_aload_n hx hb d_L_law_882 rfl (lv_at hl 2 rfl) ?_
    refine lv_iload hx hb d_L_law_883 (lv_at hl 1 rfl) ?_
    refine lv_iconst (v := 1) hx hb d_L_law_885 (by decide) ?_
    refine lv_iadd hx hb d_L_law_886 ?_
    refine tpi (y := nI (3 + 4 * i + 1)) (nI_add _ 1) ?_
    refine va_sld hx hb hX hbl hbA hS (vp_in_nI (by omega) (by omega)) d_L_law_887 ?_
    refine tpi (y := xs (3 + 4 * i + 1)) (by rw [nI_clamp (by omega)]) ?_
    refine lv_aload_n hx hb d_L_law_888 rfl (lv_at hl 2 rfl) ?_
    refine lv_iload hx hb d_L_law_889 (lv_at hl 1 rfl) ?_
    refine lv_iconst (v := 2) hx hb d_L_law_891 (by decide) ?_
    refine lv_iadd hx hb d_L_law_892 ?_
    refine tpi (y := nI (3 + 4 * i + 2)) (nI_add _ 2) ?_
    refine va_sld hx hb hX hbl hbA hS (vp_in_nI (by omega) (by omega)) d_L_law_893 ?_
    refine tpi (y := xs (3 + 4 * i + 2)) (by rw [nI_clamp (by omega)]) ?_
    refine lv_if_eq (tgt := 901) hx hb d_L_law_894 (by decide) (fun c_2 => ?_) (fun c_2 => ?_)
    · skip
      refine lv_iconst (v := 0) hx hb d_L_law_901 (by decide) ?_
      refine cal (va_runV (As := [.int (xs (3 + 4 * i + 1)), .int 0]) (rest := []) ⟨hx, hb, hml, hown, hg⟩ (hMT) (cwV 2 hg (gV gw_713 gw_714 gw_715 gw_7 gw_716) rfl rfl rfl (by decide +kernel) ⟨by decide, by decide⟩) (preM hKM hPM (va_D_addr hDM rfl)) rfl rfl hl.1 rfl (lv_room (Nat.le_of_ble_eq_true rfl)) d_L_law_902 ⟨by show 21 + i + 1 + 0 ≤ 1064; omega, by show 14480 + 6 * i + 6 + 0 ≤ 22786; omega⟩) hS hPX (fun q h1 h2 => hdis q h2 h1) hAM (fun H locs hPM hPX hS => ?_)
      refine lv_istore (lv' := [(6, .int bb), (5, .int th'), (4, .int (nI (3 + 4 * i))), (0, .ref b), (1, .ref x), (2, .ref y), (3, .ref oo)]) hx hb d_L_law_905 hl (by decide) rfl (fun ls hl => ?_)
      refine lv_aload_n hx hb d_L_law_907 rfl (lv_at hl 5 rfl) ?_
      refine pci (va_runV (As := []) (rest := []) ⟨hx, hb, hml, hown, hg⟩ (c_M_thrown l D y ms mw mu mc mn mr mq md bi ne li sp q u' h' th' lb' la' at0' lk') (cwV 0 hg (gV gw_586 gw_587 gw_588 gw_7 gw_589) rfl rfl rfl (by decide +kernel) ⟨by decide, by decide⟩) (preT hKM hPM) rfl rfl hl.1 rfl (lv_room (Nat.le_of_ble_eq_true rfl)) d_L_law_908 ⟨by show 21 + i + 1 + 0 + 0 ≤ 1064; omega, by show 14480 + 6 * i + 6 + 0 + 0 ≤ 22786; omega⟩) ?_
      refine lv_iload hx hb d_L_law_911 (lv_at hl 1 rfl) ?_
      refine lv_icmp_eq (tgt := 918) hx hb d_L_law_913 (by decide) (fun c_3 => ?_) (fun c_3 => ?_)
      · skip
        refine lv_iload hx hb d_L_law_918 (lv_at hl 1 rfl) ?_
        refine lv_if_ne (tgt := 935) hx hb d_L_law_920 (by decide) (fun c_4 => ?_) (fun c_4 => ?_)
        · skip
          refine lv_goto (tgt := 1111) hx hb d_L_law_935 (by decide) ?_
          exact kk fo1 lb' pl0' rw0' pl1' rw1' s0' c0' n0' s1' c1' n1' s2' c2' n2' s3' c3' n3' u' fi' h' f' g' th' la' at0' lk' st' lw' su' cu' nu' wr' wq' dr' H locs ls hR1 hPX hPM hS (lv_sub hl [2, 3, 4, 5, 6] rfl)
        · skip
          have hth : th' = 0 := c_4
          have heq := heq hth
          refine lv_aload_n hx hb d_L_law_923 rfl (lv_at hl 6 rfl) ?_
          refine lv_iconst (v := 0) hx hb d_L_law_924 (by decide) ?_
          refine va_lald hx hb hKX hPX 0 0 rfl rfl (vp_in_nI (n := 0) (by decide) (by decide)) d_L_law_925 ?_
          refine tpl (y := fo1 0) (rfl) ?_
          refine lv_iload hx hb d_L_law_926 (lv_at hl 0 rfl) ?_
          refine lv_i2l (v := bb.toInt64) hx hb d_L_law_928 (rfl) ?_
          have heq9 := heq
          refine W.lcmp hx hb d_L_law_929 ?_
          refine lv_if_eq (tgt := 935) hx hb d_L_law_930 (by decide) (fun c_5 => ?_) (fun c_5 => ?_)
          · skip
            refine lv_goto (tgt := 1111) hx hb d_L_law_935 (by decide) ?_
            exact kk fo1 lb' pl0' rw0' pl1' rw1' s0' c0' n0' s1' c1' n1' s2' c2' n2' s3' c3' n3' u' fi' h' f' g' th' la' at0' lk' st' lw' su' cu' nu' wr' wq' dr' H locs ls hR1 hPX hPM hS (lv_sub hl [2, 3, 4, 5, 6] rfl)
          · skip
            exact absurd ((lg_cmp_eq _ _).mpr heq9) c_5
      · skip
        exact absurd rfl c_3
    · skip
      exact absurd hz1 c_2
  · skip
    have hz1 := c_1
    have hb1 : (1 : Int32) = 0 ∨ (1 : Int32) = 1 := Or.inr rfl
    refine lv_iconst (v := 1) hx hb d_L_law_870 (by decide) ?_
    refine lv_goto (tgt := 875) hx hb d_L_law_871 (by decide) ?_
    refine lv_aload_n hx hb d_L_law_875 rfl (lv_at hl 4 rfl) ?_
    obtain ⟨lb', pl0', rw0', pl1', rw1', s0', c0', n0', s1', c1', n1', s2', c2', n2', s3', c3', n3', u', fi', h', f', g', th', la', at0', lk', st', lw', su', cu', nu', wr', wq', dr', bb, fo1, hLT, hMT, heq, hR1⟩ := pr_unmap l hst D tw sa x sw e00 e01 sr e10 e11 br ra bq qa y ms mw mu mc mn mr mq md bi ne li sp q fs oo cB cI cL fo lb pl0 rw0 pl1 rw1 s0 c0 n0 s1 c1 n1 s2 c2 n2 s3 c3 n3 u fi h f g th la at0 lk st lw su cu nu wr wq dr hR (xs (3 + 4 * i + 1)) 1 hb1
    refine cal (vx_runSW (As := [.ref x, .int (xs (3 + 4 * i + 1)), .int 1, .ref oo]) (rest := []) ⟨hx, hb, hml, hown, hg⟩ hLT (vx_cwSW 4 hg (gSH gw_492 gw_493 gw_0 gw_494) rfl rfl rfl (by decide +kernel) ⟨by decide, by decide⟩) (preL hE hEX hEC hKX hPX hDX hS hAX) rfl rfl hl.1 rfl (lv_room (Nat.le_of_ble_eq_true rfl)) d_L_law_876 ⟨by show 21 + i + 1 ≤ 1064; omega, by show 14480 + 6 * i + 6 ≤ 22786; omega⟩) hS hPM hdis hAX (fun H locs hPX hPM hS => ?_)
    refine lv_istore (lv' := [(5, .int th'), (4, .int (nI (3 + 4 * i))), (0, .ref b), (1, .ref x), (2, .ref y), (3, .ref oo)]) hx hb d_L_law_879 hl (by decide) rfl (fun ls hl => ?_)
    refine lv_aload_n hx hb d_L_law_881 rfl (lv_at hl 4 rfl) ?_
    refine lv_aload_n hx hb d_L_law_882 rfl (lv_at hl 2 rfl) ?_
    refine lv_iload hx hb d_L_law_883 (lv_at hl 1 rfl) ?_
    refine lv_iconst (v := 1) hx hb d_L_law_885 (by decide) ?_
    refine lv_iadd hx hb d_L_law_886 ?_
    refine tpi (y := nI (3 + 4 * i + 1)) (nI_add _ 1) ?_
    refine va_sld hx hb hX hbl hbA hS (vp_in_nI (by omega) (by omega)) d_L_law_887 ?_
    refine tpi (y := xs (3 + 4 * i + 1)) (by rw [nI_clamp (by omega)]) ?_
    refine lv_aload_n hx hb d_L_law_888 rfl (lv_at hl 2 rfl) ?_
    refine lv_iload hx hb d_L_law_889 (lv_at hl 1 rfl) ?_
    refine lv_iconst (v := 2) hx hb d_L_law_891 (by decide) ?_
    refine lv_iadd hx hb d_L_law_892 ?_
    refine tpi (y := nI (3 + 4 * i + 2)) (nI_add _ 2) ?_
    refine va_sld hx hb hX hbl hbA hS (vp_in_nI (by omega) (by omega)) d_L_law_893 ?_
    refine tpi (y := xs (3 + 4 * i + 2)) (by rw [nI_clamp (by omega)]) ?_
    refine lv_if_eq (tgt := 901) hx hb d_L_law_894 (by decide) (fun c_6 => ?_) (fun c_6 => ?_)
    · skip
      exact absurd c_6 hz1
    · skip
      refine lv_iconst (v := 1) hx hb d_L_law_897 (by decide) ?_
      refine lv_goto (tgt := 902) hx hb d_L_law_898 (by decide) ?_
      refine cal (va_runV (As := [.int (xs (3 + 4 * i + 1)), .int 1]) (rest := []) ⟨hx, hb, hml, hown, hg⟩ (hMT) (cwV 2 hg (gV gw_713 gw_714 gw_715 gw_7 gw_716) rfl rfl rfl (by decide +kernel) ⟨by decide, by decide⟩) (preM hKM hPM (va_D_addr hDM rfl)) rfl rfl hl.1 rfl (lv_room (Nat.le_of_ble_eq_true rfl)) d_L_law_902 ⟨by show 21 + i + 1 + 0 ≤ 1064; omega, by show 14480 + 6 * i + 6 + 0 ≤ 22786; omega⟩) hS hPX (fun q h1 h2 => hdis q h2 h1) hAM (fun H locs hPM hPX hS => ?_)
      refine lv_istore (lv' := [(6, .int bb), (5, .int th'), (4, .int (nI (3 + 4 * i))), (0, .ref b), (1, .ref x), (2, .ref y), (3, .ref oo)]) hx hb d_L_law_905 hl (by decide) rfl (fun ls hl => ?_)
      refine lv_aload_n hx hb d_L_law_907 rfl (lv_at hl 5 rfl) ?_
      refine pci (va_runV (As := []) (rest := []) ⟨hx, hb, hml, hown, hg⟩ (c_M_thrown l D y ms mw mu mc mn mr mq md bi ne li sp q u' h' th' lb' la' at0' lk') (cwV 0 hg (gV gw_586 gw_587 gw_588 gw_7 gw_589) rfl rfl rfl (by decide +kernel) ⟨by decide, by decide⟩) (preT hKM hPM) rfl rfl hl.1 rfl (lv_room (Nat.le_of_ble_eq_true rfl)) d_L_law_908 ⟨by show 21 + i + 1 + 0 + 0 ≤ 1064; omega, by show 14480 + 6 * i + 6 + 0 + 0 ≤ 22786; omega⟩) ?_
      refine lv_iload hx hb d_L_law_911 (lv_at hl 1 rfl) ?_
      refine lv_icmp_eq (tgt := 918) hx hb d_L_law_913 (by decide) (fun c_7 => ?_) (fun c_7 => ?_)
      · skip
        refine lv_iload hx hb d_L_law_918 (lv_at hl 1 rfl) ?_
        refine lv_if_ne (tgt := 935) hx hb d_L_law_920 (by decide) (fun c_8 => ?_) (fun c_8 => ?_)
        · skip
          refine lv_goto (tgt := 1111) hx hb d_L_law_935 (by decide) ?_
          exact kk fo1 lb' pl0' rw0' pl1' rw1' s0' c0' n0' s1' c1' n1' s2' c2' n2' s3' c3' n3' u' fi' h' f' g' th' la' at0' lk' st' lw' su' cu' nu' wr' wq' dr' H locs ls hR1 hPX hPM hS (lv_sub hl [2, 3, 4, 5, 6] rfl)
        · skip
          have hth : th' = 0 := c_8
          have heq := heq hth
          refine lv_aload_n hx hb d_L_law_923 rfl (lv_at hl 6 rfl) ?_
          refine lv_iconst (v := 0) hx hb d_L_law_924 (by decide) ?_
          refine va_lald hx hb hKX hPX 0 0 rfl rfl (vp_in_nI (n := 0) (by decide) (by decide)) d_L_law_925 ?_
          refine tpl (y := fo1 0) (rfl) ?_
          refine lv_iload hx hb d_L_law_926 (lv_at hl 0 rfl) ?_
          refine lv_i2l (v := bb.toInt64) hx hb d_L_law_928 (rfl) ?_
          have heq9 := heq
          refine W.lcmp hx hb d_L_law_929 ?_
          refine lv_if_eq (tgt := 935) hx hb d_L_law_930 (by decide) (fun c_9 => ?_) (fun c_9 => ?_)
          · skip
            refine lv_goto (tgt := 1111) hx hb d_L_law_935 (by decide) ?_
            exact kk fo1 lb' pl0' rw0' pl1' rw1' s0' c0' n0' s1' c1' n1' s2' c2' n2' s3' c3' n3' u' fi' h' f' g' th' la' at0' lk' st' lw' su' cu' nu' wr' wq' dr' H locs ls hR1 hPX hPM hS (lv_sub hl [2, 3, 4, 5, 6] rfl)
          · skip
            exact absurd ((lg_cmp_eq _ _).mpr heq9) c_9
      · skip
        exact absurd rfl c_7
set_option maxHeartbeats 4000000 in
set_option maxRecDepth 100000 in
theorem lo_step {p : Program} {e : Env} {s : State} {m : MethodId} {below : List Frame} {meth : Method} {c : Code} {b L : Nat} {xs : Nat → Int32} (C0 : lw_At p s m meth c b L xs) (hL : L ≤ 2051) (l : Launch) (hst : l.stackTraces = false) (D : va_G) (tw : Nat) (sa : Nat → Nat) (x sw e00 e01 sr e10 e11 br ra bq qa y ms mw mu mc mn mr mq md bi ne li sp q fs oo : Nat) (cB cI cL : ClassId) (fo : Nat → Int64) (lb : Int32) (pl0 rw0 pl1 rw1 s0 c0 n0 s1 c1 n1 s2 c2 n2 s3 c3 n3 u fi h : Nat) (f g : Nat → Int32) (th la at0 lk : Int32) (st lw su cu nu wr wq dr : Nat → Int32) (hR : REL li sp q fs lb pl0 rw0 pl1 rw1 s0 c0 n0 s1 c1 n1 s2 c2 n2 s3 c3 n3 u fi h f g st lw su cu nu wr wq) (hE : EV (fun q => s.heap.size ≤ q) tw s) (hEX : EX (fun q => s.heap.size ≤ q) sa s) (hEC : EC s) (hK : va_K D CLS [(cL, .long), (cB, .byte), (cI, .int)] s) (hdis : ∀ q, q ∈ [y, ms, mw, mu, mc, mn, mr, mq, md] → ¬ q ∈ [oo, x, sw, e00, e01, sr, e10, e11, br, ra, bq, qa]) (hAX : ∀ q, q ∈ [oo, x, sw, e00, e01, sr, e10, e11, br, ra, bq, qa] → s.heap.size ≤ q) (hAM : ∀ q, q ∈ [y, ms, mw, mu, mc, mn, mr, mq, md] → s.heap.size ≤ q) (hDX : va_D (fun _ => True) ((oo, .inl (cL, 1, .inr (.inl fo))) :: CWd x sw e00 e01 sr e10 e11 br ra bq qa cB bi ne li sp q fs lb pl0 rw0 pl1 rw1 s0 c0 n0 s1 c1 n1 s2 c2 n2 s3 c3 n3 u fi h f g)) (hDM : va_D (fun _ => True) (MWd y ms mw mu mc mn mr mq md cI cB bi ne li sp q lb u h th la at0 lk st lw su cu nu wr wq dr)) (i : Nat) (hi : 3 + 4 * i + 4 ≤ L) {H : Heap} {locs : List Loc} (hPX : va_P D CLS ((oo, .inl (cL, 1, .inr (.inl fo))) :: CWd x sw e00 e01 sr e10 e11 br ra bq qa cB bi ne li sp q fs lb pl0 rw0 pl1 rw1 s0 c0 n0 s1 c1 n1 s2 c2 n2 s3 c3 n3 u fi h f g) H) (hPM : va_P D CLS (MWd y ms mw mu mc mn mr mq md cI cB bi ne li sp q lb u h th la at0 lk st lw su cu nu wr wq dr) H) (hS : va_S (fun q => s.heap.size ≤ q) s.heap H locs) {ls : Array Slot} (hl : lv_has ls 7 [(4, .int (nI (3 + 4 * i))), (0, .ref b), (1, .ref x), (2, .ref y), (3, .ref oo)]) (kk : ∀ (fo' : Nat → Int64) (lb' : Int32) (pl0' rw0' pl1' rw1' s0' c0' n0' s1' c1' n1' s2' c2' n2' s3' c3' n3' u' fi' h' : Nat) (f' g' : Nat → Int32) (th' la' at0' lk' : Int32) (st' lw' su' cu' nu' wr' wq' dr' : Nat → Int32) (H : Heap) (locs : List Loc) (ls : Array Slot), REL li sp q fs lb' pl0' rw0' pl1' rw1' s0' c0' n0' s1' c1' n1' s2' c2' n2' s3' c3' n3' u' fi' h' f' g' st' lw' su' cu' nu' wr' wq' → va_P D CLS ((oo, .inl (cL, 1, .inr (.inl fo'))) :: CWd x sw e00 e01 sr e10 e11 br ra bq qa cB bi ne li sp q fs lb' pl0' rw0' pl1' rw1' s0' c0' n0' s1' c1' n1' s2' c2' n2' s3' c3' n3' u' fi' h' f' g') H → va_P D CLS (MWd y ms mw mu mc mn mr mq md cI cB bi ne li sp q lb' u' h' th' la' at0' lk' st' lw' su' cu' nu' wr' wq' dr') H → va_S (fun q => s.heap.size ≤ q) s.heap H locs → lv_has ls 7 [(4, .int (nI (3 + 4 * i))), (0, .ref b), (1, .ref x), (2, .ref y), (3, .ref oo)] → W p l e room_1 s m #[Value.ref b] below meth c H locs (21 + i + 1) (14480 + 6 * i + 6) (lw_Z below #[Value.ref b] s) (F0 m 1111 ls [])) : W p l e room_1 s m #[Value.ref b] below meth c H locs (21 + i) (14480 + 6 * i) (lw_Z below #[Value.ref b] s) (F0 m 938 ls []) := by
  obtain ⟨hx, hb, hr, hml, hown, hts, hX, hbl, hlocks, hgv⟩ := id C0
  have hown : s.vm.findClass "LineGolombLaw" = some m.cls := hown
  have hg : ∀ w ∈ GW, w.before #[Value.ref b] s = true := fun w h => hts w (GW_tbl h)
  have hbA : ¬ s.heap.size ≤ b := Nat.not_le.mpr hbl
  have hKX := hK.sub (tys' := [(cL, .long), (cB, .byte)]) [0, 1] rfl
  have hKC := hK.sub (tys' := [(cB, .byte)]) [1] rfl
  have hKM := hK.sub (tys' := [(cI, .int), (cB, .byte)]) [2, 1] rfl
  refine lv_aload_n hx hb d_L_law_938 rfl (lv_at hl 2 rfl) ?_
  refine lv_aload_n hx hb d_L_law_939 rfl (lv_at hl 1 rfl) ?_
  refine lv_iload hx hb d_L_law_940 (lv_at hl 0 rfl) ?_
  refine lv_iconst (v := 1) hx hb d_L_law_942 (by decide) ?_
  refine lv_iadd hx hb d_L_law_943 ?_
  refine tpi (y := nI (3 + 4 * i + 1)) (nI_add _ 1) ?_
  refine va_sld hx hb hX hbl hbA hS (vp_in_nI (by omega) (by omega)) d_L_law_944 ?_
  refine tpi (y := xs (3 + 4 * i + 1)) (by rw [nI_clamp (by omega)]) ?_
  refine lv_if_eq (tgt := 952) hx hb d_L_law_945 (by decide) (fun c_1 => ?_) (fun c_1 => ?_)
  · skip
    have hz0 := c_1
    have hb0 : (0 : Int32) = 0 ∨ (0 : Int32) = 1 := Or.inl rfl
    refine lv_iconst (v := 0) hx hb d_L_law_952 (by decide) ?_
    obtain ⟨bb, hCT, hMT⟩ := pr_step l hst D tw sa x sw e00 e01 sr e10 e11 br ra bq qa y ms mw mu mc mn mr mq md bi ne li sp q fs oo cB cI cL fo lb pl0 rw0 pl1 rw1 s0 c0 n0 s1 c1 n1 s2 c2 n2 s3 c3 n3 u fi h f g th la at0 lk st lw su cu nu wr wq dr hR 0 hb0
    have hPO : va_P D CLS ((oo, .inl (cL, 1, .inr (.inl fo))) :: MWd y ms mw mu mc mn mr mq md cI cB bi ne li sp q lb u h th la at0 lk st lw su cu nu wr wq dr) H := fun k q hk => by cases k with | zero => exact hPX 0 q hk | succ k => exact hPM k q hk
    refine cal (V := (oo, .inl (cL, 1, .inr (.inl fo))) :: MWd y ms mw mu mc mn mr mq md cI cB bi ne li sp q lb u h th la at0 lk st lw su cu nu wr wq dr) (va_runV (As := [.int 0]) (rest := []) ⟨hx, hb, hml, hown, hg⟩ (hCT) (cwV 1 hg (gV gw_159 gw_160 gw_161 gw_1 gw_162) rfl rfl rfl (by decide +kernel) ⟨by decide, by decide⟩) (preE hE hKC (tlP hPX) (tlD hDX) hS (fun q h => hAX q (List.mem_cons_of_mem _ h))) rfl rfl hl.1 rfl (lv_room (Nat.le_of_ble_eq_true rfl)) d_L_law_953 ⟨by show 21 + i + 0 ≤ 1064; omega, by show 14480 + 6 * i + 0 ≤ 22786; omega⟩) hS hPO (disH hDX hdis) (fun q h => hAX q (List.mem_cons_of_mem _ h)) (fun H locs hPX9 hPO hS => ?_)
    have hPX : va_P D CLS ((oo, .inl (cL, 1, .inr (.inl fo))) :: CWd x sw e00 e01 sr e10 e11 br ra bq qa cB bi ne li sp q fs lb pl0 rw0 pl1 rw1 s0 c0 n0 s1 c1 n1 s2 c2 n2 s3 c3 n3 u fi h f g) H := fun k q hk => by cases k with | zero => exact hPO 0 q hk | succ k => exact hPX9 k q hk
    have hPM := tlP hPO
    refine lv_aload_n hx hb d_L_law_956 rfl (lv_at hl 3 rfl) ?_
    refine lv_aload_n hx hb d_L_law_957 rfl (lv_at hl 1 rfl) ?_
    refine lv_iload hx hb d_L_law_958 (lv_at hl 0 rfl) ?_
    refine lv_iconst (v := 1) hx hb d_L_law_960 (by decide) ?_
    refine lv_iadd hx hb d_L_law_961 ?_
    refine tpi (y := nI (3 + 4 * i + 1)) (nI_add _ 1) ?_
    refine va_sld hx hb hX hbl hbA hS (vp_in_nI (by omega) (by omega)) d_L_law_962 ?_
    refine tpi (y := xs (3 + 4 * i + 1)) (by rw [nI_clamp (by omega)]) ?_
    refine lv_if_eq (tgt := 970) hx hb d_L_law_963 (by decide) (fun c_2 => ?_) (fun c_2 => ?_)
    · skip
      refine lv_iconst (v := 0) hx hb d_L_law_970 (by decide) ?_
      refine cal (va_runV (As := [.int 0]) (rest := [.int bb]) ⟨hx, hb, hml, hown, hg⟩ (hMT) (cwV 1 hg (gV gw_719 gw_720 gw_721 gw_7 gw_722) rfl rfl rfl (by decide +kernel) ⟨by decide, by decide⟩) (preM hKM hPM (va_D_addr hDM rfl)) rfl rfl hl.1 rfl (lv_room (Nat.le_of_ble_eq_true rfl)) d_L_law_971 ⟨by show 21 + i + 0 + 0 ≤ 1064; omega, by show 14480 + 6 * i + 0 + 0 ≤ 22786; omega⟩) hS hPX (fun q h1 h2 => hdis q h2 h1) hAM (fun H locs hPM hPX hS => ?_)
      refine lv_icmp_eq (tgt := 1111) hx hb d_L_law_974 (by decide) (fun c_3 => ?_) (fun c_3 => ?_)
      · skip
        refine W.widen (k := 21 + i + 1) (n := 14480 + 6 * i + 6) (by omega) (by omega) ?_
        exact kk fo lb pl0 rw0 pl1 rw1 s0 c0 n0 s1 c1 n1 s2 c2 n2 s3 c3 n3 u fi h f g 0 la at0 lk st lw su cu nu wr wq dr H locs ls hR hPX hPM hS (lv_sub hl [0, 1, 2, 3, 4] rfl)
      · skip
        exact absurd rfl c_3
    · skip
      exact absurd hz0 c_2
  · skip
    have hz0 := c_1
    have hb0 : (1 : Int32) = 0 ∨ (1 : Int32) = 1 := Or.inr rfl
    refine lv_iconst (v := 1) hx hb d_L_law_948 (by decide) ?_
    refine lv_goto (tgt := 953) hx hb d_L_law_949 (by decide) ?_
    obtain ⟨bb, hCT, hMT⟩ := pr_step l hst D tw sa x sw e00 e01 sr e10 e11 br ra bq qa y ms mw mu mc mn mr mq md bi ne li sp q fs oo cB cI cL fo lb pl0 rw0 pl1 rw1 s0 c0 n0 s1 c1 n1 s2 c2 n2 s3 c3 n3 u fi h f g th la at0 lk st lw su cu nu wr wq dr hR 1 hb0
    have hPO : va_P D CLS ((oo, .inl (cL, 1, .inr (.inl fo))) :: MWd y ms mw mu mc mn mr mq md cI cB bi ne li sp q lb u h th la at0 lk st lw su cu nu wr wq dr) H := fun k q hk => by cases k with | zero => exact hPX 0 q hk | succ k => exact hPM k q hk
    refine cal (V := (oo, .inl (cL, 1, .inr (.inl fo))) :: MWd y ms mw mu mc mn mr mq md cI cB bi ne li sp q lb u h th la at0 lk st lw su cu nu wr wq dr) (va_runV (As := [.int 1]) (rest := []) ⟨hx, hb, hml, hown, hg⟩ (hCT) (cwV 1 hg (gV gw_159 gw_160 gw_161 gw_1 gw_162) rfl rfl rfl (by decide +kernel) ⟨by decide, by decide⟩) (preE hE hKC (tlP hPX) (tlD hDX) hS (fun q h => hAX q (List.mem_cons_of_mem _ h))) rfl rfl hl.1 rfl (lv_room (Nat.le_of_ble_eq_true rfl)) d_L_law_953 ⟨by show 21 + i + 0 ≤ 1064; omega, by show 14480 + 6 * i + 0 ≤ 22786; omega⟩) hS hPO (disH hDX hdis) (fun q h => hAX q (List.mem_cons_of_mem _ h)) (fun H locs hPX9 hPO hS => ?_)
    have hPX : va_P D CLS ((oo, .inl (cL, 1, .inr (.inl fo))) :: CWd x sw e00 e01 sr e10 e11 br ra bq qa cB bi ne li sp q fs lb pl0 rw0 pl1 rw1 s0 c0 n0 s1 c1 n1 s2 c2 n2 s3 c3 n3 u fi h f g) H := fun k q hk => by cases k with | zero => exact hPO 0 q hk | succ k => exact hPX9 k q hk
    have hPM := tlP hPO
    refine lv_aload_n hx hb d_L_law_956 rfl (lv_at hl 3 rfl) ?_
    refine lv_aload_n hx hb d_L_law_957 rfl (lv_at hl 1 rfl) ?_
    refine lv_iload hx hb d_L_law_958 (lv_at hl 0 rfl) ?_
    refine lv_iconst (v := 1) hx hb d_L_law_960 (by decide) ?_
    refine lv_iadd hx hb d_L_law_961 ?_
    refine tpi (y := nI (3 + 4 * i + 1)) (nI_add _ 1) ?_
    refine va_sld hx hb hX hbl hbA hS (vp_in_nI (by omega) (by omega)) d_L_law_962 ?_
    refine tpi (y := xs (3 + 4 * i + 1)) (by rw [nI_clamp (by omega)]) ?_
    refine lv_if_eq (tgt := 970) hx hb d_L_law_963 (by decide) (fun c_4 => ?_) (fun c_4 => ?_)
    · skip
      exact absurd c_4 hz0
    · skip
      refine lv_iconst (v := 1) hx hb d_L_law_966 (by decide) ?_
      refine lv_goto (tgt := 971) hx hb d_L_law_967 (by decide) ?_
      refine cal (va_runV (As := [.int 1]) (rest := [.int bb]) ⟨hx, hb, hml, hown, hg⟩ (hMT) (cwV 1 hg (gV gw_719 gw_720 gw_721 gw_7 gw_722) rfl rfl rfl (by decide +kernel) ⟨by decide, by decide⟩) (preM hKM hPM (va_D_addr hDM rfl)) rfl rfl hl.1 rfl (lv_room (Nat.le_of_ble_eq_true rfl)) d_L_law_971 ⟨by show 21 + i + 0 + 0 ≤ 1064; omega, by show 14480 + 6 * i + 0 + 0 ≤ 22786; omega⟩) hS hPX (fun q h1 h2 => hdis q h2 h1) hAM (fun H locs hPM hPX hS => ?_)
      refine lv_icmp_eq (tgt := 1111) hx hb d_L_law_974 (by decide) (fun c_5 => ?_) (fun c_5 => ?_)
      · skip
        refine W.widen (k := 21 + i + 1) (n := 14480 + 6 * i + 6) (by omega) (by omega) ?_
        exact kk fo lb pl0 rw0 pl1 rw1 s0 c0 n0 s1 c1 n1 s2 c2 n2 s3 c3 n3 u fi h f g 0 la at0 lk st lw su cu nu wr wq dr H locs ls hR hPX hPM hS (lv_sub hl [0, 1, 2, 3, 4] rfl)
      · skip
        exact absurd rfl c_5
set_option maxHeartbeats 4000000 in
set_option maxRecDepth 100000 in
theorem lo_state {p : Program} {e : Env} {s : State} {m : MethodId} {below : List Frame} {meth : Method} {c : Code} {b L : Nat} {xs : Nat → Int32} (C0 : lw_At p s m meth c b L xs) (hL : L ≤ 2051) (l : Launch) (hst : l.stackTraces = false) (D : va_G) (tw : Nat) (sa : Nat → Nat) (x sw e00 e01 sr e10 e11 br ra bq qa y ms mw mu mc mn mr mq md bi ne li sp q fs oo : Nat) (cB cI cL : ClassId) (fo : Nat → Int64) (lb : Int32) (pl0 rw0 pl1 rw1 s0 c0 n0 s1 c1 n1 s2 c2 n2 s3 c3 n3 u fi h : Nat) (f g : Nat → Int32) (th la at0 lk : Int32) (st lw su cu nu wr wq dr : Nat → Int32) (hR : REL li sp q fs lb pl0 rw0 pl1 rw1 s0 c0 n0 s1 c1 n1 s2 c2 n2 s3 c3 n3 u fi h f g st lw su cu nu wr wq) (hE : EV (fun q => s.heap.size ≤ q) tw s) (hEX : EX (fun q => s.heap.size ≤ q) sa s) (hEC : EC s) (hK : va_K D CLS [(cL, .long), (cB, .byte), (cI, .int)] s) (hdis : ∀ q, q ∈ [y, ms, mw, mu, mc, mn, mr, mq, md] → ¬ q ∈ [oo, x, sw, e00, e01, sr, e10, e11, br, ra, bq, qa]) (hAX : ∀ q, q ∈ [oo, x, sw, e00, e01, sr, e10, e11, br, ra, bq, qa] → s.heap.size ≤ q) (hAM : ∀ q, q ∈ [y, ms, mw, mu, mc, mn, mr, mq, md] → s.heap.size ≤ q) (hDX : va_D (fun _ => True) ((oo, .inl (cL, 1, .inr (.inl fo))) :: CWd x sw e00 e01 sr e10 e11 br ra bq qa cB bi ne li sp q fs lb pl0 rw0 pl1 rw1 s0 c0 n0 s1 c1 n1 s2 c2 n2 s3 c3 n3 u fi h f g)) (hDM : va_D (fun _ => True) (MWd y ms mw mu mc mn mr mq md cI cB bi ne li sp q lb u h th la at0 lk st lw su cu nu wr wq dr)) (i : Nat) (hi : 3 + 4 * i + 4 ≤ L) {H : Heap} {locs : List Loc} (hPX : va_P D CLS ((oo, .inl (cL, 1, .inr (.inl fo))) :: CWd x sw e00 e01 sr e10 e11 br ra bq qa cB bi ne li sp q fs lb pl0 rw0 pl1 rw1 s0 c0 n0 s1 c1 n1 s2 c2 n2 s3 c3 n3 u fi h f g) H) (hPM : va_P D CLS (MWd y ms mw mu mc mn mr mq md cI cB bi ne li sp q lb u h th la at0 lk st lw su cu nu wr wq dr) H) (hS : va_S (fun q => s.heap.size ≤ q) s.heap H locs) {ls : Array Slot} (hl : lv_has ls 7 [(4, .int (nI (3 + 4 * i))), (0, .ref b), (1, .ref x), (2, .ref y), (3, .ref oo)]) (kk : ∀ (fo' : Nat → Int64) (lb' : Int32) (pl0' rw0' pl1' rw1' s0' c0' n0' s1' c1' n1' s2' c2' n2' s3' c3' n3' u' fi' h' : Nat) (f' g' : Nat → Int32) (th' la' at0' lk' : Int32) (st' lw' su' cu' nu' wr' wq' dr' : Nat → Int32) (H : Heap) (locs : List Loc) (ls : Array Slot), REL li sp q fs lb' pl0' rw0' pl1' rw1' s0' c0' n0' s1' c1' n1' s2' c2' n2' s3' c3' n3' u' fi' h' f' g' st' lw' su' cu' nu' wr' wq' → va_P D CLS ((oo, .inl (cL, 1, .inr (.inl fo'))) :: CWd x sw e00 e01 sr e10 e11 br ra bq qa cB bi ne li sp q fs lb' pl0' rw0' pl1' rw1' s0' c0' n0' s1' c1' n1' s2' c2' n2' s3' c3' n3' u' fi' h' f' g') H → va_P D CLS (MWd y ms mw mu mc mn mr mq md cI cB bi ne li sp q lb' u' h' th' la' at0' lk' st' lw' su' cu' nu' wr' wq' dr') H → va_S (fun q => s.heap.size ≤ q) s.heap H locs → lv_has ls 7 [(4, .int (nI (3 + 4 * i))), (0, .ref b), (1, .ref x), (2, .ref y), (3, .ref oo)] → W p l e room_1 s m #[Value.ref b] below meth c H locs (21 + i + 1) (14480 + 6 * i + 6) (lw_Z below #[Value.ref b] s) (F0 m 1111 ls [])) : W p l e room_1 s m #[Value.ref b] below meth c H locs (21 + i) (14480 + 6 * i) (lw_Z below #[Value.ref b] s) (F0 m 979 ls []) := by
  obtain ⟨hx, hb, hr, hml, hown, hts, hX, hbl, hlocks, hgv⟩ := id C0
  have hown : s.vm.findClass "LineGolombLaw" = some m.cls := hown
  have hg : ∀ w ∈ GW, w.before #[Value.ref b] s = true := fun w h => hts w (GW_tbl h)
  have hbA : ¬ s.heap.size ≤ b := Nat.not_le.mpr hbl
  have hKX := hK.sub (tys' := [(cL, .long), (cB, .byte)]) [0, 1] rfl
  have hKC := hK.sub (tys' := [(cB, .byte)]) [1] rfl
  have hKM := hK.sub (tys' := [(cI, .int), (cB, .byte)]) [2, 1] rfl
  refine lv_aload_n hx hb d_L_law_979 rfl (lv_at hl 2 rfl) ?_
  refine lv_aload_n hx hb d_L_law_980 rfl (lv_at hl 1 rfl) ?_
  refine lv_iload hx hb d_L_law_981 (lv_at hl 0 rfl) ?_
  refine lv_iconst (v := 1) hx hb d_L_law_983 (by decide) ?_
  refine lv_iadd hx hb d_L_law_984 ?_
  refine tpi (y := nI (3 + 4 * i + 1)) (nI_add _ 1) ?_
  refine va_sld hx hb hX hbl hbA hS (vp_in_nI (by omega) (by omega)) d_L_law_985 ?_
  refine tpi (y := xs (3 + 4 * i + 1)) (by rw [nI_clamp (by omega)]) ?_
  refine lv_if_eq (tgt := 993) hx hb d_L_law_986 (by decide) (fun c_1 => ?_) (fun c_1 => ?_)
  · skip
    have hz0 := c_1
    have hb0 : (0 : Int32) = 0 ∨ (0 : Int32) = 1 := Or.inl rfl
    refine lv_iconst (v := 0) hx hb d_L_law_993 (by decide) ?_
    refine lv_aload_n hx hb d_L_law_994 rfl (lv_at hl 1 rfl) ?_
    refine lv_iload hx hb d_L_law_995 (lv_at hl 0 rfl) ?_
    refine lv_iconst (v := 2) hx hb d_L_law_997 (by decide) ?_
    refine lv_iadd hx hb d_L_law_998 ?_
    refine tpi (y := nI (3 + 4 * i + 2)) (nI_add _ 2) ?_
    refine va_sld hx hb hX hbl hbA hS (vp_in_nI (by omega) (by omega)) d_L_law_999 ?_
    refine tpi (y := xs (3 + 4 * i + 2)) (by rw [nI_clamp (by omega)]) ?_
    refine lv_aload_n hx hb d_L_law_1000 rfl (lv_at hl 1 rfl) ?_
    refine lv_iload hx hb d_L_law_1001 (lv_at hl 0 rfl) ?_
    refine lv_iconst (v := 3) hx hb d_L_law_1003 (by decide) ?_
    refine lv_iadd hx hb d_L_law_1004 ?_
    refine tpi (y := nI (3 + 4 * i + 3)) (nI_add _ 3) ?_
    refine va_sld hx hb hX hbl hbA hS (vp_in_nI (by omega) (by omega)) d_L_law_1005 ?_
    refine tpi (y := xs (3 + 4 * i + 3)) (by rw [nI_clamp (by omega)]) ?_
    refine lv_aload_n hx hb d_L_law_1006 rfl (lv_at hl 4 rfl) ?_
    obtain ⟨lb', pl0', rw0', pl1', rw1', s0', c0', n0', s1', c1', n1', s2', c2', n2', s3', c3', n3', u', fi', h', f', g', th', la', at0', lk', st', lw', su', cu', nu', wr', wq', dr', bb, fo1, hLT, hMT, heq, hR1⟩ := pr_state l hst D tw sa x sw e00 e01 sr e10 e11 br ra bq qa y ms mw mu mc mn mr mq md bi ne li sp q fs oo cB cI cL fo lb pl0 rw0 pl1 rw1 s0 c0 n0 s1 c1 n1 s2 c2 n2 s3 c3 n3 u fi h f g th la at0 lk st lw su cu nu wr wq dr hR 0 (xs (3 + 4 * i + 2)) (xs (3 + 4 * i + 3)) hb0
    refine cal (vx_runSW (As := [.ref x, .int 0, .int (xs (3 + 4 * i + 2)), .int (xs (3 + 4 * i + 3)), .ref oo]) (rest := []) ⟨hx, hb, hml, hown, hg⟩ hLT (vx_cwSW 5 hg (gSH gw_500 gw_501 gw_0 gw_502) rfl rfl rfl (by decide +kernel) ⟨by decide, by decide⟩) (preL hE hEX hEC hKX hPX hDX hS hAX) rfl rfl hl.1 rfl (lv_room (Nat.le_of_ble_eq_true rfl)) d_L_law_1007 ⟨by show 21 + i + 1 ≤ 1064; omega, by show 14480 + 6 * i + 6 ≤ 22786; omega⟩) hS hPM hdis hAX (fun H locs hPX hPM hS => ?_)
    refine lv_istore (lv' := [(5, .int th'), (4, .int (nI (3 + 4 * i))), (0, .ref b), (1, .ref x), (2, .ref y), (3, .ref oo)]) hx hb d_L_law_1010 hl (by decide) rfl (fun ls hl => ?_)
    refine lv_aload_n hx hb d_L_law_1012 rfl (lv_at hl 4 rfl) ?_
    refine lv_aload_n hx hb d_L_law_1013 rfl (lv_at hl 2 rfl) ?_
    refine lv_iload hx hb d_L_law_1014 (lv_at hl 1 rfl) ?_
    refine lv_iconst (v := 1) hx hb d_L_law_1016 (by decide) ?_
    refine lv_iadd hx hb d_L_law_1017 ?_
    refine tpi (y := nI (3 + 4 * i + 1)) (nI_add _ 1) ?_
    refine va_sld hx hb hX hbl hbA hS (vp_in_nI (by omega) (by omega)) d_L_law_1018 ?_
    refine tpi (y := xs (3 + 4 * i + 1)) (by rw [nI_clamp (by omega)]) ?_
    refine lv_if_eq (tgt := 1026) hx hb d_L_law_1019 (by decide) (fun c_2 => ?_) (fun c_2 => ?_)
    · skip
      refine lv_iconst (v := 0) hx hb d_L_law_1026 (by decide) ?_
      refine lv_aload_n hx hb d_L_law_1027 rfl (lv_at hl 2 rfl) ?_
      refine lv_iload hx hb d_L_law_1028 (lv_at hl 1 rfl) ?_
      refine lv_iconst (v := 2) hx hb d_L_law_1030 (by decide) ?_
      refine lv_iadd hx hb d_L_law_1031 ?_
      refine tpi (y := nI (3 + 4 * i + 2)) (nI_add _ 2) ?_
      refine va_sld hx hb hX hbl hbA hS (vp_in_nI (by omega) (by omega)) d_L_law_1032 ?_
      refine tpi (y := xs (3 + 4 * i + 2)) (by rw [nI_clamp (by omega)]) ?_
      refine lv_aload_n hx hb d_L_law_1033 rfl (lv_at hl 2 rfl) ?_
      refine lv_iload hx hb d_L_law_1034 (lv_at hl 1 rfl) ?_
      refine lv_iconst (v := 3) hx hb d_L_law_1036 (by decide) ?_
      refine lv_iadd hx hb d_L_law_1037 ?_
      refine tpi (y := nI (3 + 4 * i + 3)) (nI_add _ 3) ?_
      refine va_sld hx hb hX hbl hbA hS (vp_in_nI (by omega) (by omega)) d_L_law_1038 ?_
      refine tpi (y := xs (3 + 4 * i + 3)) (by rw [nI_clamp (by omega)]) ?_
      refine cal (va_runV (As := [.int 0, .int (xs (3 + 4 * i + 2)), .int (xs (3 + 4 * i + 3))]) (rest := []) ⟨hx, hb, hml, hown, hg⟩ (hMT) (cwV 3 hg (gV gw_723 gw_724 gw_725 gw_7 gw_726) rfl rfl rfl (by decide +kernel) ⟨by decide, by decide⟩) (preM hKM hPM (va_D_addr hDM rfl)) rfl rfl hl.1 rfl (lv_room (Nat.le_of_ble_eq_true rfl)) d_L_law_1039 ⟨by show 21 + i + 1 + 0 ≤ 1064; omega, by show 14480 + 6 * i + 6 + 0 ≤ 22786; omega⟩) hS hPX (fun q h1 h2 => hdis q h2 h1) hAM (fun H locs hPM hPX hS => ?_)
      refine lv_istore (lv' := [(6, .int bb), (5, .int th'), (4, .int (nI (3 + 4 * i))), (0, .ref b), (1, .ref x), (2, .ref y), (3, .ref oo)]) hx hb d_L_law_1042 hl (by decide) rfl (fun ls hl => ?_)
      refine lv_aload_n hx hb d_L_law_1044 rfl (lv_at hl 5 rfl) ?_
      refine pci (va_runV (As := []) (rest := []) ⟨hx, hb, hml, hown, hg⟩ (c_M_thrown l D y ms mw mu mc mn mr mq md bi ne li sp q u' h' th' lb' la' at0' lk') (cwV 0 hg (gV gw_586 gw_587 gw_588 gw_7 gw_589) rfl rfl rfl (by decide +kernel) ⟨by decide, by decide⟩) (preT hKM hPM) rfl rfl hl.1 rfl (lv_room (Nat.le_of_ble_eq_true rfl)) d_L_law_1045 ⟨by show 21 + i + 1 + 0 + 0 ≤ 1064; omega, by show 14480 + 6 * i + 6 + 0 + 0 ≤ 22786; omega⟩) ?_
      refine lv_iload hx hb d_L_law_1048 (lv_at hl 1 rfl) ?_
      refine lv_icmp_eq (tgt := 1055) hx hb d_L_law_1050 (by decide) (fun c_3 => ?_) (fun c_3 => ?_)
      · skip
        refine lv_iload hx hb d_L_law_1055 (lv_at hl 1 rfl) ?_
        refine lv_if_ne (tgt := 1072) hx hb d_L_law_1057 (by decide) (fun c_4 => ?_) (fun c_4 => ?_)
        · skip
          refine lv_goto (tgt := 1111) hx hb d_L_law_1072 (by decide) ?_
          exact kk fo1 lb' pl0' rw0' pl1' rw1' s0' c0' n0' s1' c1' n1' s2' c2' n2' s3' c3' n3' u' fi' h' f' g' th' la' at0' lk' st' lw' su' cu' nu' wr' wq' dr' H locs ls hR1 hPX hPM hS (lv_sub hl [2, 3, 4, 5, 6] rfl)
        · skip
          have hth : th' = 0 := c_4
          have heq := heq hth
          refine lv_aload_n hx hb d_L_law_1060 rfl (lv_at hl 6 rfl) ?_
          refine lv_iconst (v := 0) hx hb d_L_law_1061 (by decide) ?_
          refine va_lald hx hb hKX hPX 0 0 rfl rfl (vp_in_nI (n := 0) (by decide) (by decide)) d_L_law_1062 ?_
          refine tpl (y := fo1 0) (rfl) ?_
          refine lv_iload hx hb d_L_law_1063 (lv_at hl 0 rfl) ?_
          refine lv_i2l (v := bb.toInt64) hx hb d_L_law_1065 (rfl) ?_
          have heq9 := heq
          refine W.lcmp hx hb d_L_law_1066 ?_
          refine lv_if_eq (tgt := 1072) hx hb d_L_law_1067 (by decide) (fun c_5 => ?_) (fun c_5 => ?_)
          · skip
            refine lv_goto (tgt := 1111) hx hb d_L_law_1072 (by decide) ?_
            exact kk fo1 lb' pl0' rw0' pl1' rw1' s0' c0' n0' s1' c1' n1' s2' c2' n2' s3' c3' n3' u' fi' h' f' g' th' la' at0' lk' st' lw' su' cu' nu' wr' wq' dr' H locs ls hR1 hPX hPM hS (lv_sub hl [2, 3, 4, 5, 6] rfl)
          · skip
            exact absurd ((lg_cmp_eq _ _).mpr heq9) c_5
      · skip
        exact absurd rfl c_3
    · skip
      exact absurd hz0 c_2
  · skip
    have hz0 := c_1
    have hb0 : (1 : Int32) = 0 ∨ (1 : Int32) = 1 := Or.inr rfl
    refine lv_iconst (v := 1) hx hb d_L_law_989 (by decide) ?_
    refine lv_goto (tgt := 994) hx hb d_L_law_990 (by decide) ?_
    refine lv_aload_n hx hb d_L_law_994 rfl (lv_at hl 1 rfl) ?_
    refine lv_iload hx hb d_L_law_995 (lv_at hl 0 rfl) ?_
    refine lv_iconst (v := 2) hx hb d_L_law_997 (by decide) ?_
    refine lv_iadd hx hb d_L_law_998 ?_
    refine tpi (y := nI (3 + 4 * i + 2)) (nI_add _ 2) ?_
    refine va_sld hx hb hX hbl hbA hS (vp_in_nI (by omega) (by omega)) d_L_law_999 ?_
    refine tpi (y := xs (3 + 4 * i + 2)) (by rw [nI_clamp (by omega)]) ?_
    refine lv_aload_n hx hb d_L_law_1000 rfl (lv_at hl 1 rfl) ?_
    refine lv_iload hx hb d_L_law_1001 (lv_at hl 0 rfl) ?_
    refine lv_iconst (v := 3) hx hb d_L_law_1003 (by decide) ?_
    refine lv_iadd hx hb d_L_law_1004 ?_
    refine tpi (y := nI (3 + 4 * i + 3)) (nI_add _ 3) ?_
    refine va_sld hx hb hX hbl hbA hS (vp_in_nI (by omega) (by omega)) d_L_law_1005 ?_
    refine tpi (y := xs (3 + 4 * i + 3)) (by rw [nI_clamp (by omega)]) ?_
    refine lv_aload_n hx hb d_L_law_1006 rfl (lv_at hl 4 rfl) ?_
    obtain ⟨lb', pl0', rw0', pl1', rw1', s0', c0', n0', s1', c1', n1', s2', c2', n2', s3', c3', n3', u', fi', h', f', g', th', la', at0', lk', st', lw', su', cu', nu', wr', wq', dr', bb, fo1, hLT, hMT, heq, hR1⟩ := pr_state l hst D tw sa x sw e00 e01 sr e10 e11 br ra bq qa y ms mw mu mc mn mr mq md bi ne li sp q fs oo cB cI cL fo lb pl0 rw0 pl1 rw1 s0 c0 n0 s1 c1 n1 s2 c2 n2 s3 c3 n3 u fi h f g th la at0 lk st lw su cu nu wr wq dr hR 1 (xs (3 + 4 * i + 2)) (xs (3 + 4 * i + 3)) hb0
    refine cal (vx_runSW (As := [.ref x, .int 1, .int (xs (3 + 4 * i + 2)), .int (xs (3 + 4 * i + 3)), .ref oo]) (rest := []) ⟨hx, hb, hml, hown, hg⟩ hLT (vx_cwSW 5 hg (gSH gw_500 gw_501 gw_0 gw_502) rfl rfl rfl (by decide +kernel) ⟨by decide, by decide⟩) (preL hE hEX hEC hKX hPX hDX hS hAX) rfl rfl hl.1 rfl (lv_room (Nat.le_of_ble_eq_true rfl)) d_L_law_1007 ⟨by show 21 + i + 1 ≤ 1064; omega, by show 14480 + 6 * i + 6 ≤ 22786; omega⟩) hS hPM hdis hAX (fun H locs hPX hPM hS => ?_)
    refine lv_istore (lv' := [(5, .int th'), (4, .int (nI (3 + 4 * i))), (0, .ref b), (1, .ref x), (2, .ref y), (3, .ref oo)]) hx hb d_L_law_1010 hl (by decide) rfl (fun ls hl => ?_)
    refine lv_aload_n hx hb d_L_law_1012 rfl (lv_at hl 4 rfl) ?_
    refine lv_aload_n hx hb d_L_law_1013 rfl (lv_at hl 2 rfl) ?_
    refine lv_iload hx hb d_L_law_1014 (lv_at hl 1 rfl) ?_
    refine lv_iconst (v := 1) hx hb d_L_law_1016 (by decide) ?_
    refine lv_iadd hx hb d_L_law_1017 ?_
    refine tpi (y := nI (3 + 4 * i + 1)) (nI_add _ 1) ?_
    refine va_sld hx hb hX hbl hbA hS (vp_in_nI (by omega) (by omega)) d_L_law_1018 ?_
    refine tpi (y := xs (3 + 4 * i + 1)) (by rw [nI_clamp (by omega)]) ?_
    refine lv_if_eq (tgt := 1026) hx hb d_L_law_1019 (by decide) (fun c_6 => ?_) (fun c_6 => ?_)
    · skip
      exact absurd c_6 hz0
    · skip
      refine lv_iconst (v := 1) hx hb d_L_law_1022 (by decide) ?_
      refine lv_goto (tgt := 1027) hx hb d_L_law_1023 (by decide) ?_
      refine lv_aload_n hx hb d_L_law_1027 rfl (lv_at hl 2 rfl) ?_
      refine lv_iload hx hb d_L_law_1028 (lv_at hl 1 rfl) ?_
      refine lv_iconst (v := 2) hx hb d_L_law_1030 (by decide) ?_
      refine lv_iadd hx hb d_L_law_1031 ?_
      refine tpi (y := nI (3 + 4 * i + 2)) (nI_add _ 2) ?_
      refine va_sld hx hb hX hbl hbA hS (vp_in_nI (by omega) (by omega)) d_L_law_1032 ?_
      refine tpi (y := xs (3 + 4 * i + 2)) (by rw [nI_clamp (by omega)]) ?_
      refine lv_aload_n hx hb d_L_law_1033 rfl (lv_at hl 2 rfl) ?_
      refine lv_iload hx hb d_L_law_1034 (lv_at hl 1 rfl) ?_
      refine lv_iconst (v := 3) hx hb d_L_law_1036 (by decide) ?_
      refine lv_iadd hx hb d_L_law_1037 ?_
      refine tpi (y := nI (3 + 4 * i + 3)) (nI_add _ 3) ?_
      refine va_sld hx hb hX hbl hbA hS (vp_in_nI (by omega) (by omega)) d_L_law_1038 ?_
      refine tpi (y := xs (3 + 4 * i + 3)) (by rw [nI_clamp (by omega)]) ?_
      refine cal (va_runV (As := [.int 1, .int (xs (3 + 4 * i + 2)), .int (xs (3 + 4 * i + 3))]) (rest := []) ⟨hx, hb, hml, hown, hg⟩ (hMT) (cwV 3 hg (gV gw_723 gw_724 gw_725 gw_7 gw_726) rfl rfl rfl (by decide +kernel) ⟨by decide, by decide⟩) (preM hKM hPM (va_D_addr hDM rfl)) rfl rfl hl.1 rfl (lv_room (Nat.le_of_ble_eq_true rfl)) d_L_law_1039 ⟨by show 21 + i + 1 + 0 ≤ 1064; omega, by show 14480 + 6 * i + 6 + 0 ≤ 22786; omega⟩) hS hPX (fun q h1 h2 => hdis q h2 h1) hAM (fun H locs hPM hPX hS => ?_)
      refine lv_istore (lv' := [(6, .int bb), (5, .int th'), (4, .int (nI (3 + 4 * i))), (0, .ref b), (1, .ref x), (2, .ref y), (3, .ref oo)]) hx hb d_L_law_1042 hl (by decide) rfl (fun ls hl => ?_)
      refine lv_aload_n hx hb d_L_law_1044 rfl (lv_at hl 5 rfl) ?_
      refine pci (va_runV (As := []) (rest := []) ⟨hx, hb, hml, hown, hg⟩ (c_M_thrown l D y ms mw mu mc mn mr mq md bi ne li sp q u' h' th' lb' la' at0' lk') (cwV 0 hg (gV gw_586 gw_587 gw_588 gw_7 gw_589) rfl rfl rfl (by decide +kernel) ⟨by decide, by decide⟩) (preT hKM hPM) rfl rfl hl.1 rfl (lv_room (Nat.le_of_ble_eq_true rfl)) d_L_law_1045 ⟨by show 21 + i + 1 + 0 + 0 ≤ 1064; omega, by show 14480 + 6 * i + 6 + 0 + 0 ≤ 22786; omega⟩) ?_
      refine lv_iload hx hb d_L_law_1048 (lv_at hl 1 rfl) ?_
      refine lv_icmp_eq (tgt := 1055) hx hb d_L_law_1050 (by decide) (fun c_7 => ?_) (fun c_7 => ?_)
      · skip
        refine lv_iload hx hb d_L_law_1055 (lv_at hl 1 rfl) ?_
        refine lv_if_ne (tgt := 1072) hx hb d_L_law_1057 (by decide) (fun c_8 => ?_) (fun c_8 => ?_)
        · skip
          refine lv_goto (tgt := 1111) hx hb d_L_law_1072 (by decide) ?_
          exact kk fo1 lb' pl0' rw0' pl1' rw1' s0' c0' n0' s1' c1' n1' s2' c2' n2' s3' c3' n3' u' fi' h' f' g' th' la' at0' lk' st' lw' su' cu' nu' wr' wq' dr' H locs ls hR1 hPX hPM hS (lv_sub hl [2, 3, 4, 5, 6] rfl)
        · skip
          have hth : th' = 0 := c_8
          have heq := heq hth
          refine lv_aload_n hx hb d_L_law_1060 rfl (lv_at hl 6 rfl) ?_
          refine lv_iconst (v := 0) hx hb d_L_law_1061 (by decide) ?_
          refine va_lald hx hb hKX hPX 0 0 rfl rfl (vp_in_nI (n := 0) (by decide) (by decide)) d_L_law_1062 ?_
          refine tpl (y := fo1 0) (rfl) ?_
          refine lv_iload hx hb d_L_law_1063 (lv_at hl 0 rfl) ?_
          refine lv_i2l (v := bb.toInt64) hx hb d_L_law_1065 (rfl) ?_
          have heq9 := heq
          refine W.lcmp hx hb d_L_law_1066 ?_
          refine lv_if_eq (tgt := 1072) hx hb d_L_law_1067 (by decide) (fun c_9 => ?_) (fun c_9 => ?_)
          · skip
            refine lv_goto (tgt := 1111) hx hb d_L_law_1072 (by decide) ?_
            exact kk fo1 lb' pl0' rw0' pl1' rw1' s0' c0' n0' s1' c1' n1' s2' c2' n2' s3' c3' n3' u' fi' h' f' g' th' la' at0' lk' st' lw' su' cu' nu' wr' wq' dr' H locs ls hR1 hPX hPM hS (lv_sub hl [2, 3, 4, 5, 6] rfl)
          · skip
            exact absurd ((lg_cmp_eq _ _).mpr heq9) c_9
      · skip
        exact absurd rfl c_7
set_option maxHeartbeats 4000000 in
set_option maxRecDepth 100000 in
theorem lo_told {p : Program} {e : Env} {s : State} {m : MethodId} {below : List Frame} {meth : Method} {c : Code} {b L : Nat} {xs : Nat → Int32} (C0 : lw_At p s m meth c b L xs) (hL : L ≤ 2051) (l : Launch) (hst : l.stackTraces = false) (D : va_G) (tw : Nat) (sa : Nat → Nat) (x sw e00 e01 sr e10 e11 br ra bq qa y ms mw mu mc mn mr mq md bi ne li sp q fs oo : Nat) (cB cI cL : ClassId) (fo : Nat → Int64) (lb : Int32) (pl0 rw0 pl1 rw1 s0 c0 n0 s1 c1 n1 s2 c2 n2 s3 c3 n3 u fi h : Nat) (f g : Nat → Int32) (th la at0 lk : Int32) (st lw su cu nu wr wq dr : Nat → Int32) (hR : REL li sp q fs lb pl0 rw0 pl1 rw1 s0 c0 n0 s1 c1 n1 s2 c2 n2 s3 c3 n3 u fi h f g st lw su cu nu wr wq) (hE : EV (fun q => s.heap.size ≤ q) tw s) (hEX : EX (fun q => s.heap.size ≤ q) sa s) (hEC : EC s) (hK : va_K D CLS [(cL, .long), (cB, .byte), (cI, .int)] s) (hdis : ∀ q, q ∈ [y, ms, mw, mu, mc, mn, mr, mq, md] → ¬ q ∈ [oo, x, sw, e00, e01, sr, e10, e11, br, ra, bq, qa]) (hAX : ∀ q, q ∈ [oo, x, sw, e00, e01, sr, e10, e11, br, ra, bq, qa] → s.heap.size ≤ q) (hAM : ∀ q, q ∈ [y, ms, mw, mu, mc, mn, mr, mq, md] → s.heap.size ≤ q) (hDX : va_D (fun _ => True) ((oo, .inl (cL, 1, .inr (.inl fo))) :: CWd x sw e00 e01 sr e10 e11 br ra bq qa cB bi ne li sp q fs lb pl0 rw0 pl1 rw1 s0 c0 n0 s1 c1 n1 s2 c2 n2 s3 c3 n3 u fi h f g)) (hDM : va_D (fun _ => True) (MWd y ms mw mu mc mn mr mq md cI cB bi ne li sp q lb u h th la at0 lk st lw su cu nu wr wq dr)) (i : Nat) (hi : 3 + 4 * i + 4 ≤ L) {H : Heap} {locs : List Loc} (hPX : va_P D CLS ((oo, .inl (cL, 1, .inr (.inl fo))) :: CWd x sw e00 e01 sr e10 e11 br ra bq qa cB bi ne li sp q fs lb pl0 rw0 pl1 rw1 s0 c0 n0 s1 c1 n1 s2 c2 n2 s3 c3 n3 u fi h f g) H) (hPM : va_P D CLS (MWd y ms mw mu mc mn mr mq md cI cB bi ne li sp q lb u h th la at0 lk st lw su cu nu wr wq dr) H) (hS : va_S (fun q => s.heap.size ≤ q) s.heap H locs) {ls : Array Slot} (hl : lv_has ls 7 [(4, .int (nI (3 + 4 * i))), (0, .ref b), (1, .ref x), (2, .ref y), (3, .ref oo)]) (kk : ∀ (fo' : Nat → Int64) (lb' : Int32) (pl0' rw0' pl1' rw1' s0' c0' n0' s1' c1' n1' s2' c2' n2' s3' c3' n3' u' fi' h' : Nat) (f' g' : Nat → Int32) (th' la' at0' lk' : Int32) (st' lw' su' cu' nu' wr' wq' dr' : Nat → Int32) (H : Heap) (locs : List Loc) (ls : Array Slot), REL li sp q fs lb' pl0' rw0' pl1' rw1' s0' c0' n0' s1' c1' n1' s2' c2' n2' s3' c3' n3' u' fi' h' f' g' st' lw' su' cu' nu' wr' wq' → va_P D CLS ((oo, .inl (cL, 1, .inr (.inl fo'))) :: CWd x sw e00 e01 sr e10 e11 br ra bq qa cB bi ne li sp q fs lb' pl0' rw0' pl1' rw1' s0' c0' n0' s1' c1' n1' s2' c2' n2' s3' c3' n3' u' fi' h' f' g') H → va_P D CLS (MWd y ms mw mu mc mn mr mq md cI cB bi ne li sp q lb' u' h' th' la' at0' lk' st' lw' su' cu' nu' wr' wq' dr') H → va_S (fun q => s.heap.size ≤ q) s.heap H locs → lv_has ls 7 [(4, .int (nI (3 + 4 * i))), (0, .ref b), (1, .ref x), (2, .ref y), (3, .ref oo)] → W p l e room_1 s m #[Value.ref b] below meth c H locs (21 + i + 1) (14480 + 6 * i + 6) (lw_Z below #[Value.ref b] s) (F0 m 1111 ls [])) : W p l e room_1 s m #[Value.ref b] below meth c H locs (21 + i) (14480 + 6 * i) (lw_Z below #[Value.ref b] s) (F0 m 1075 ls []) := by
  obtain ⟨hx, hb, hr, hml, hown, hts, hX, hbl, hlocks, hgv⟩ := id C0
  have hown : s.vm.findClass "LineGolombLaw" = some m.cls := hown
  have hg : ∀ w ∈ GW, w.before #[Value.ref b] s = true := fun w h => hts w (GW_tbl h)
  have hbA : ¬ s.heap.size ≤ b := Nat.not_le.mpr hbl
  have hKX := hK.sub (tys' := [(cL, .long), (cB, .byte)]) [0, 1] rfl
  have hKC := hK.sub (tys' := [(cB, .byte)]) [1] rfl
  have hKM := hK.sub (tys' := [(cI, .int), (cB, .byte)]) [2, 1] rfl
  refine lv_aload_n hx hb d_L_law_1075 rfl (lv_at hl 2 rfl) ?_
  refine lv_aload_n hx hb d_L_law_1076 rfl (lv_at hl 1 rfl) ?_
  refine lv_iload hx hb d_L_law_1077 (lv_at hl 0 rfl) ?_
  refine lv_iconst (v := 1) hx hb d_L_law_1079 (by decide) ?_
  refine lv_iadd hx hb d_L_law_1080 ?_
  refine tpi (y := nI (3 + 4 * i + 1)) (nI_add _ 1) ?_
  refine va_sld hx hb hX hbl hbA hS (vp_in_nI (by omega) (by omega)) d_L_law_1081 ?_
  refine tpi (y := xs (3 + 4 * i + 1)) (by rw [nI_clamp (by omega)]) ?_
  obtain ⟨bb, hCT, hMT⟩ := pr_told l hst D tw sa x sw e00 e01 sr e10 e11 br ra bq qa y ms mw mu mc mn mr mq md bi ne li sp q fs oo cB cI cL fo lb pl0 rw0 pl1 rw1 s0 c0 n0 s1 c1 n1 s2 c2 n2 s3 c3 n3 u fi h f g th la at0 lk st lw su cu nu wr wq dr hR (xs (3 + 4 * i + 1))
  have hPO : va_P D CLS ((oo, .inl (cL, 1, .inr (.inl fo))) :: MWd y ms mw mu mc mn mr mq md cI cB bi ne li sp q lb u h th la at0 lk st lw su cu nu wr wq dr) H := fun k q hk => by cases k with | zero => exact hPX 0 q hk | succ k => exact hPM k q hk
  refine cal (V := (oo, .inl (cL, 1, .inr (.inl fo))) :: MWd y ms mw mu mc mn mr mq md cI cB bi ne li sp q lb u h th la at0 lk st lw su cu nu wr wq dr) (va_runV (As := [.int (xs (3 + 4 * i + 1))]) (rest := []) ⟨hx, hb, hml, hown, hg⟩ (hCT) (cwV 1 hg (gV gw_167 gw_168 gw_169 gw_1 gw_170) rfl rfl rfl (by decide +kernel) ⟨by decide, by decide⟩) (preE hE hKC (tlP hPX) (tlD hDX) hS (fun q h => hAX q (List.mem_cons_of_mem _ h))) rfl rfl hl.1 rfl (lv_room (Nat.le_of_ble_eq_true rfl)) d_L_law_1082 ⟨by show 21 + i + 0 ≤ 1064; omega, by show 14480 + 6 * i + 0 ≤ 22786; omega⟩) hS hPO (disH hDX hdis) (fun q h => hAX q (List.mem_cons_of_mem _ h)) (fun H locs hPX9 hPO hS => ?_)
  have hPX : va_P D CLS ((oo, .inl (cL, 1, .inr (.inl fo))) :: CWd x sw e00 e01 sr e10 e11 br ra bq qa cB bi ne li sp q fs lb pl0 rw0 pl1 rw1 s0 c0 n0 s1 c1 n1 s2 c2 n2 s3 c3 n3 u fi h f g) H := fun k q hk => by cases k with | zero => exact hPO 0 q hk | succ k => exact hPX9 k q hk
  have hPM := tlP hPO
  refine lv_aload_n hx hb d_L_law_1085 rfl (lv_at hl 3 rfl) ?_
  refine lv_aload_n hx hb d_L_law_1086 rfl (lv_at hl 1 rfl) ?_
  refine lv_iload hx hb d_L_law_1087 (lv_at hl 0 rfl) ?_
  refine lv_iconst (v := 1) hx hb d_L_law_1089 (by decide) ?_
  refine lv_iadd hx hb d_L_law_1090 ?_
  refine tpi (y := nI (3 + 4 * i + 1)) (nI_add _ 1) ?_
  refine va_sld hx hb hX hbl hbA hS (vp_in_nI (by omega) (by omega)) d_L_law_1091 ?_
  refine tpi (y := xs (3 + 4 * i + 1)) (by rw [nI_clamp (by omega)]) ?_
  refine cal (va_runV (As := [.int (xs (3 + 4 * i + 1))]) (rest := [.int bb]) ⟨hx, hb, hml, hown, hg⟩ (hMT) (cwV 1 hg (gV gw_727 gw_728 gw_729 gw_7 gw_730) rfl rfl rfl (by decide +kernel) ⟨by decide, by decide⟩) (preM hKM hPM (va_D_addr hDM rfl)) rfl rfl hl.1 rfl (lv_room (Nat.le_of_ble_eq_true rfl)) d_L_law_1092 ⟨by show 21 + i + 0 + 0 ≤ 1064; omega, by show 14480 + 6 * i + 0 + 0 ≤ 22786; omega⟩) hS hPX (fun q h1 h2 => hdis q h2 h1) hAM (fun H locs hPM hPX hS => ?_)
  refine lv_icmp_eq (tgt := 1111) hx hb d_L_law_1095 (by decide) (fun c_1 => ?_) (fun c_1 => ?_)
  · skip
    refine W.widen (k := 21 + i + 1) (n := 14480 + 6 * i + 6) (by omega) (by omega) ?_
    exact kk fo lb pl0 rw0 pl1 rw1 s0 c0 n0 s1 c1 n1 s2 c2 n2 s3 c3 n3 u fi h f g 0 la at0 lk st lw su cu nu wr wq dr H locs ls hR hPX hPM hS (lv_sub hl [0, 1, 2, 3, 4] rfl)
  · skip
    exact absurd rfl c_1
set_option maxHeartbeats 4000000 in
set_option maxRecDepth 100000 in
theorem lo_clear {p : Program} {e : Env} {s : State} {m : MethodId} {below : List Frame} {meth : Method} {c : Code} {b L : Nat} {xs : Nat → Int32} (C0 : lw_At p s m meth c b L xs) (hL : L ≤ 2051) (l : Launch) (hst : l.stackTraces = false) (D : va_G) (tw : Nat) (sa : Nat → Nat) (x sw e00 e01 sr e10 e11 br ra bq qa y ms mw mu mc mn mr mq md bi ne li sp q fs oo : Nat) (cB cI cL : ClassId) (fo : Nat → Int64) (lb : Int32) (pl0 rw0 pl1 rw1 s0 c0 n0 s1 c1 n1 s2 c2 n2 s3 c3 n3 u fi h : Nat) (f g : Nat → Int32) (th la at0 lk : Int32) (st lw su cu nu wr wq dr : Nat → Int32) (hR : REL li sp q fs lb pl0 rw0 pl1 rw1 s0 c0 n0 s1 c1 n1 s2 c2 n2 s3 c3 n3 u fi h f g st lw su cu nu wr wq) (hE : EV (fun q => s.heap.size ≤ q) tw s) (hEX : EX (fun q => s.heap.size ≤ q) sa s) (hEC : EC s) (hK : va_K D CLS [(cL, .long), (cB, .byte), (cI, .int)] s) (hdis : ∀ q, q ∈ [y, ms, mw, mu, mc, mn, mr, mq, md] → ¬ q ∈ [oo, x, sw, e00, e01, sr, e10, e11, br, ra, bq, qa]) (hAX : ∀ q, q ∈ [oo, x, sw, e00, e01, sr, e10, e11, br, ra, bq, qa] → s.heap.size ≤ q) (hAM : ∀ q, q ∈ [y, ms, mw, mu, mc, mn, mr, mq, md] → s.heap.size ≤ q) (hDX : va_D (fun _ => True) ((oo, .inl (cL, 1, .inr (.inl fo))) :: CWd x sw e00 e01 sr e10 e11 br ra bq qa cB bi ne li sp q fs lb pl0 rw0 pl1 rw1 s0 c0 n0 s1 c1 n1 s2 c2 n2 s3 c3 n3 u fi h f g)) (hDM : va_D (fun _ => True) (MWd y ms mw mu mc mn mr mq md cI cB bi ne li sp q lb u h th la at0 lk st lw su cu nu wr wq dr)) (i : Nat) (hi : 3 + 4 * i + 4 ≤ L) {H : Heap} {locs : List Loc} (hPX : va_P D CLS ((oo, .inl (cL, 1, .inr (.inl fo))) :: CWd x sw e00 e01 sr e10 e11 br ra bq qa cB bi ne li sp q fs lb pl0 rw0 pl1 rw1 s0 c0 n0 s1 c1 n1 s2 c2 n2 s3 c3 n3 u fi h f g) H) (hPM : va_P D CLS (MWd y ms mw mu mc mn mr mq md cI cB bi ne li sp q lb u h th la at0 lk st lw su cu nu wr wq dr) H) (hS : va_S (fun q => s.heap.size ≤ q) s.heap H locs) {ls : Array Slot} (hl : lv_has ls 7 [(4, .int (nI (3 + 4 * i))), (0, .ref b), (1, .ref x), (2, .ref y), (3, .ref oo)]) (kk : ∀ (fo' : Nat → Int64) (lb' : Int32) (pl0' rw0' pl1' rw1' s0' c0' n0' s1' c1' n1' s2' c2' n2' s3' c3' n3' u' fi' h' : Nat) (f' g' : Nat → Int32) (th' la' at0' lk' : Int32) (st' lw' su' cu' nu' wr' wq' dr' : Nat → Int32) (H : Heap) (locs : List Loc) (ls : Array Slot), REL li sp q fs lb' pl0' rw0' pl1' rw1' s0' c0' n0' s1' c1' n1' s2' c2' n2' s3' c3' n3' u' fi' h' f' g' st' lw' su' cu' nu' wr' wq' → va_P D CLS ((oo, .inl (cL, 1, .inr (.inl fo'))) :: CWd x sw e00 e01 sr e10 e11 br ra bq qa cB bi ne li sp q fs lb' pl0' rw0' pl1' rw1' s0' c0' n0' s1' c1' n1' s2' c2' n2' s3' c3' n3' u' fi' h' f' g') H → va_P D CLS (MWd y ms mw mu mc mn mr mq md cI cB bi ne li sp q lb' u' h' th' la' at0' lk' st' lw' su' cu' nu' wr' wq' dr') H → va_S (fun q => s.heap.size ≤ q) s.heap H locs → lv_has ls 7 [(4, .int (nI (3 + 4 * i))), (0, .ref b), (1, .ref x), (2, .ref y), (3, .ref oo)] → W p l e room_1 s m #[Value.ref b] below meth c H locs (21 + i + 1) (14480 + 6 * i + 6) (lw_Z below #[Value.ref b] s) (F0 m 1111 ls [])) : W p l e room_1 s m #[Value.ref b] below meth c H locs (21 + i) (14480 + 6 * i) (lw_Z below #[Value.ref b] s) (F0 m 1100 ls []) := by
  obtain ⟨hx, hb, hr, hml, hown, hts, hX, hbl, hlocks, hgv⟩ := id C0
  have hown : s.vm.findClass "LineGolombLaw" = some m.cls := hown
  have hg : ∀ w ∈ GW, w.before #[Value.ref b] s = true := fun w h => hts w (GW_tbl h)
  have hbA : ¬ s.heap.size ≤ b := Nat.not_le.mpr hbl
  have hKX := hK.sub (tys' := [(cL, .long), (cB, .byte)]) [0, 1] rfl
  have hKC := hK.sub (tys' := [(cB, .byte)]) [1] rfl
  have hKM := hK.sub (tys' := [(cI, .int), (cB, .byte)]) [2, 1] rfl
  obtain ⟨hC, hlb, hS9, hE0, hE1, hE2, hE3, hW, hQ⟩ := id hR
  obtain ⟨hCq, hCl, hCm, hC2, hCs, hCf⟩ := id hC
  refine lv_aload_n hx hb d_L_law_1100 rfl (lv_at hl 2 rfl) ?_
  have hx9 := c_X_clear l D x sw sr br bq bi ne li sp q lb e00 e01 e10 e11 pl0 rw0 pl1 rw1 fs s0 c0 n0 s1 c1 n1 s2 c2 n2 s3 c3 n3 ra u qa cB fi h g tw hQ.1 hQ.2.1
  have hCT : Met l y_X_clear (WSY y_X_clear b_X_clear 1 none) ({ frames := 2, cells := 0, slots := 0, locals := 46 }) (va_Pc [.ref x] (PE D tw (CWd x sw e00 e01 sr e10 e11 br ra bq qa cB bi ne li sp q fs lb pl0 rw0 pl1 rw1 s0 c0 n0 s1 c1 n1 s2 c2 n2 s3 c3 n3 u fi h f g) [(cB, .byte)])) (QM none (CWd x sw e00 e01 sr e10 e11 br ra bq qa cB bi ne li sp q fs lb pl0 rw0 pl1 rw1 s0 c0 n0 s1 c1 n1 s2 c2 n2 s3 c3 n3 u fi h f g) (CWd x sw e00 e01 sr e10 e11 br ra bq qa cB bi ne li sp q fs 0 0 0 0 0 fs 1 0 fs 1 0 fs 1 0 fs 1 0 0 (rpl fi h) 0 f g) D) 0 0 (ad (CWd x sw e00 e01 sr e10 e11 br ra bq qa cB bi ne li sp q fs lb pl0 rw0 pl1 rw1 s0 c0 n0 s1 c1 n1 s2 c2 n2 s3 c3 n3 u fi h f g)) := by
    exact frE hx9 [0, 1, 4, 2, 3, 5, 6, 7, 9, 10] [0] (by rfl) (by rfl) (by rfl) (by rfl) (by rfl)
  have hMT : Met l y_M_clear (WSY y_M_clear b_M_clear 1 none) ({ frames := 1, cells := 0, slots := 0, locals := 25 }) (va_Pc [.ref y] (PM D (MWd y ms mw mu mc mn mr mq md cI cB bi ne li sp q lb u h th la at0 lk st lw su cu nu wr wq dr) [(cI, .int), (cB, .byte)])) (QM none (MWd y ms mw mu mc mn mr mq md cI cB bi ne li sp q lb u h th la at0 lk st lw su cu nu wr wq dr) (MWd y ms mw mu mc mn mr mq md cI cB bi ne li sp q 0 0 0 0 la at0 lk (upd (upd st 0 0) 1 0) (upd (upd lw 0 0) 1 0) (upd (upd (upd (upd su 0 (nI (if (sp + 32) / 64 < 2 then 2 else (sp + 32) / 64))) 1 (nI (if (sp + 32) / 64 < 2 then 2 else (sp + 32) / 64))) 2 (nI (if (sp + 32) / 64 < 2 then 2 else (sp + 32) / 64))) 3 (nI (if (sp + 32) / 64 < 2 then 2 else (sp + 32) / 64))) (upd (upd (upd (upd cu 0 1) 1 1) 2 1) 3 1) (upd (upd (upd (upd nu 0 0) 1 0) 2 0) 3 0) wr wq dr) D) 0 0 (ad (MWd y ms mw mu mc mn mr mq md cI cB bi ne li sp q lb u h th la at0 lk st lw su cu nu wr wq dr)) := frM (c_M_clear l D y ms mw mu mc mn mr mq md bi ne li sp q u h th lb la at0 lk cI st lw su cu nu hCs) [0, 1, 2, 3, 4, 5] [0] (by rfl) (by rfl) (by rfl) (by rfl) (by rfl)
  have hPO : va_P D CLS ((oo, .inl (cL, 1, .inr (.inl fo))) :: MWd y ms mw mu mc mn mr mq md cI cB bi ne li sp q lb u h th la at0 lk st lw su cu nu wr wq dr) H := fun k q hk => by cases k with | zero => exact hPX 0 q hk | succ k => exact hPM k q hk
  refine cal (V := (oo, .inl (cL, 1, .inr (.inl fo))) :: MWd y ms mw mu mc mn mr mq md cI cB bi ne li sp q lb u h th la at0 lk st lw su cu nu wr wq dr) (va_runV (As := []) (rest := []) ⟨hx, hb, hml, hown, hg⟩ (hCT) (cwV 0 hg (gV gw_171 gw_172 gw_173 gw_1 gw_174) rfl rfl rfl (by decide +kernel) ⟨by decide, by decide⟩) (preE hE hKC (tlP hPX) (tlD hDX) hS (fun q h => hAX q (List.mem_cons_of_mem _ h))) rfl rfl hl.1 rfl (lv_room (Nat.le_of_ble_eq_true rfl)) d_L_law_1101 ⟨by show 21 + i + 0 ≤ 1064; omega, by show 14480 + 6 * i + 0 ≤ 22786; omega⟩) hS hPO (disH hDX hdis) (fun q h => hAX q (List.mem_cons_of_mem _ h)) (fun H locs hPX9 hPO hS => ?_)
  have hPX : va_P D CLS ((oo, .inl (cL, 1, .inr (.inl fo))) :: CWd x sw e00 e01 sr e10 e11 br ra bq qa cB bi ne li sp q fs 0 0 0 0 0 fs 1 0 fs 1 0 fs 1 0 fs 1 0 0 (rpl fi h) 0 f g) H := fun k q hk => by cases k with | zero => exact hPO 0 q hk | succ k => exact hPX9 k q hk
  have hPM := tlP hPO
  refine lv_aload_n hx hb d_L_law_1104 rfl (lv_at hl 3 rfl) ?_
  refine cal (va_runV (As := []) (rest := []) ⟨hx, hb, hml, hown, hg⟩ (hMT) (cwV 0 hg (gV gw_731 gw_732 gw_733 gw_7 gw_734) rfl rfl rfl (by decide +kernel) ⟨by decide, by decide⟩) (preM hKM hPM (va_D_addr hDM rfl)) rfl rfl hl.1 rfl (lv_room (Nat.le_of_ble_eq_true rfl)) d_L_law_1105 ⟨by show 21 + i + 0 + 0 ≤ 1064; omega, by show 14480 + 6 * i + 0 + 0 ≤ 22786; omega⟩) hS hPX (fun q h1 h2 => hdis q h2 h1) hAM (fun H locs hPM hPX hS => ?_)
  refine lv_goto (tgt := 1111) hx hb d_L_law_1108 (by decide) ?_
  refine W.widen (k := 21 + i + 1) (n := 14480 + 6 * i + 6) (by omega) (by omega) ?_
  exact kk fo 0 0 0 0 0 fs 1 0 fs 1 0 fs 1 0 fs 1 0 0 (rpl fi h) 0 f g 0 la at0 lk (upd (upd st 0 0) 1 0) (upd (upd lw 0 0) 1 0) (upd (upd (upd (upd su 0 (nI (if (sp + 32) / 64 < 2 then 2 else (sp + 32) / 64))) 1 (nI (if (sp + 32) / 64 < 2 then 2 else (sp + 32) / 64))) 2 (nI (if (sp + 32) / 64 < 2 then 2 else (sp + 32) / 64))) 3 (nI (if (sp + 32) / 64 < 2 then 2 else (sp + 32) / 64))) (upd (upd (upd (upd cu 0 1) 1 1) 2 1) 3 1) (upd (upd (upd (upd nu 0 0) 1 0) 2 0) 3 0) wr wq dr H locs ls ⟨hC, Or.inl rfl, ⟨by decide, by decide, by decide, by decide, rfl, rfl, rfl, rfl⟩, ⟨by rw [hCf]; rfl, rfl, rfl, by decide, by decide, by decide, by rw [hCf]; split <;> omega⟩, ⟨by rw [hCf]; rfl, rfl, rfl, by decide, by decide, by decide, by rw [hCf]; split <;> omega⟩, ⟨by rw [hCf]; rfl, rfl, rfl, by decide, by decide, by decide, by rw [hCf]; split <;> omega⟩, ⟨by rw [hCf]; rfl, rfl, rfl, by decide, by decide, by decide, by rw [hCf]; split <;> omega⟩, ⟨by decide, fun j hj => absurd hj (Nat.not_lt_zero _)⟩, ⟨rpl_lt hQ.1 hQ.2.1, by decide, fun j hj => absurd hj (Nat.not_lt_zero _)⟩⟩ hPX hPM hS (lv_sub hl [0, 1, 2, 3, 4] rfl)
