set_option maxHeartbeats 4000000 in
set_option maxRecDepth 100000 in
theorem law_loop {p : Program} {l : Launch} {e : Env} {s : State} {m : MethodId} {below : List Frame} {meth : Method} {c : Code} {b L : Nat} {sc : Nat → Int32} {G : va_G} {cB cL cI : ClassId} {sa : Nat → Nat} (X : LX l p s m meth c b L sc G cB cL cI sa) (hL : L ≤ 3072) (h8 : Nat) (h6 : Nat) (h0 : Nat) (h4 : Nat) (h5 : Nat) (h2 : Nat) (h3 : Nat) (m0 : Nat) (qt : Nat) (qp : Nat) (qr : Nat) (qm : Nat) (qo : Nat) : ∀ (n k : Nat) (h7 : Nat) (tn : Nat) (tf : Nat → Int32) (tl : Int32) (h1 : Nat) (pn : Nat) (pf : Nat → Int64) (cnt : Int32) (rf : Nat → Int64) (mf : Nat → Int32) (xp : Int32) (xs : Int32) (vth : Int32) (gt : Nat → Int32) (vtp : Int32) (gp : Nat → Int32) (vpl : Int32) (gr : Nat → Int64) (gm : Nat → Int32) (vpc : Int32) (vst : Int32) (vc : Int32) (vd : Int32) (vs : Int32) (vo : Int32) (vi : Int32) (vn : Int32) (of : Nat → Int64), k + n = 513 → 6 * k ≤ L → INV k tn tf tl pn pf cnt rf mf xp xs gt vtp gp vpl gr gm vpc vst → ∀ (H : Heap) (locs : List Loc), va_P G vwCl [(h8, .inr (4, [.ref h6, .ref h0, .ref h4, .int xp, .int xs])), (h6, .inr (3, [.ref h7, .int tl])), (h7, .inl (cB, tn, .inl tf)), (h0, .inr (0, [.ref h1, .int cnt])), (h1, .inl (cL, pn, .inr (.inl pf))), (h4, .inr (2, [.ref h5, .ref h2])), (h5, .inl (cL, 16, .inr (.inl rf))), (h2, .inr (1, [.ref h3])), (h3, .inl (cB, 4096, .inl mf)), (m0, .inr (5, [.int vth, .ref qt, .int vtp, .ref qp, .int vpl, .ref qr, .ref qm, .int vpc, .int vst, .int vc, .int vd, .int vs, .int vo, .int vi, .int vn])), (qt, .inl (cI, 32768, .inl gt)), (qp, .inl (cI, 32768, .inl gp)), (qr, .inl (cL, 11, .inr (.inl gr))), (qm, .inl (cI, 4096, .inl gm)), (qo, .inl (cL, 1, .inr (.inl of)))] H → va_D (fun q : Nat => s.heap.size ≤ q) [(h8, .inr (4, [.ref h6, .ref h0, .ref h4, .int xp, .int xs])), (h6, .inr (3, [.ref h7, .int tl])), (h7, .inl (cB, tn, .inl tf)), (h0, .inr (0, [.ref h1, .int cnt])), (h1, .inl (cL, pn, .inr (.inl pf))), (h4, .inr (2, [.ref h5, .ref h2])), (h5, .inl (cL, 16, .inr (.inl rf))), (h2, .inr (1, [.ref h3])), (h3, .inl (cB, 4096, .inl mf)), (m0, .inr (5, [.int vth, .ref qt, .int vtp, .ref qp, .int vpl, .ref qr, .ref qm, .int vpc, .int vst, .int vc, .int vd, .int vs, .int vo, .int vi, .int vn])), (qt, .inl (cI, 32768, .inl gt)), (qp, .inl (cI, 32768, .inl gp)), (qr, .inl (cL, 11, .inr (.inl gr))), (qm, .inl (cI, 4096, .inl gm)), (qo, .inl (cL, 1, .inr (.inl of)))] → va_S (fun q : Nat => s.heap.size ≤ q) s.heap H locs → ∀ (ls : Array Slot), lv_has ls 8 [(0, .ref b), (1, .ref h8), (2, .ref m0), (3, .ref qo), (4, .int (nI (6 * k)))] → W p l e room_1 s m #[Value.ref b] below meth c H locs (40 + 2 * k) (120000 + 7 * k + 2 * tn + 2 * pn) (lw_Z below #[Value.ref b] s) (F0 m 23 ls []) := by
  have X0 := X
  obtain ⟨hx, hb, hr, hml, hown, hT, hX, hbl, hlocks, hK, hst, hA62, hA84, hA45, hR60, hR82, hR99, hR110, hR112, hnot⟩ := X0
  have hA : ∀ q : Nat, s.heap.size ≤ q → (fun q : Nat => s.heap.size ≤ q) q := fun _ h => h
  have hbA : ¬ (fun q : Nat => s.heap.size ≤ q) b := Nat.not_le.mpr hbl
  intro n
  induction n with
  | zero =>
    intro k h7 tn tf tl h1 pn pf cnt rf mf xp xs vth gt vtp gp vpl gr gm vpc vst vc vd vs vo vi vn of h1 h2
    exact absurd h2 (by omega)
  | succ n ih =>
    intro k h7 tn tf tl h1 pn pf cnt rf mf xp xs vth gt vtp gp vpl gr gm vpc vst vc vd vs vo vi vn of hn hk hI H locs hP hD hS ls hl
    obtain ⟨hbt, hbp⟩ := hI.b
    have kk9 : 6 * k + 6 ≤ L → ∀ (h7 : Nat) (tn : Nat) (tf : Nat → Int32) (tl : Int32) (h1 : Nat) (pn : Nat) (pf : Nat → Int64) (cnt : Int32) (rf : Nat → Int64) (mf : Nat → Int32) (xp : Int32) (xs : Int32) (vth : Int32) (gt : Nat → Int32) (vtp : Int32) (gp : Nat → Int32) (vpl : Int32) (gr : Nat → Int64) (gm : Nat → Int32) (vpc : Int32) (vst : Int32) (vc : Int32) (vd : Int32) (vs : Int32) (vo : Int32) (vi : Int32) (vn : Int32) (of : Nat → Int64) (H : Heap) (locs : List Loc), INV (k + 1) tn tf tl pn pf cnt rf mf xp xs gt vtp gp vpl gr gm vpc vst → va_P G vwCl [(h8, .inr (4, [.ref h6, .ref h0, .ref h4, .int xp, .int xs])), (h6, .inr (3, [.ref h7, .int tl])), (h7, .inl (cB, tn, .inl tf)), (h0, .inr (0, [.ref h1, .int cnt])), (h1, .inl (cL, pn, .inr (.inl pf))), (h4, .inr (2, [.ref h5, .ref h2])), (h5, .inl (cL, 16, .inr (.inl rf))), (h2, .inr (1, [.ref h3])), (h3, .inl (cB, 4096, .inl mf)), (m0, .inr (5, [.int vth, .ref qt, .int vtp, .ref qp, .int vpl, .ref qr, .ref qm, .int vpc, .int vst, .int vc, .int vd, .int vs, .int vo, .int vi, .int vn])), (qt, .inl (cI, 32768, .inl gt)), (qp, .inl (cI, 32768, .inl gp)), (qr, .inl (cL, 11, .inr (.inl gr))), (qm, .inl (cI, 4096, .inl gm)), (qo, .inl (cL, 1, .inr (.inl of)))] H → va_D (fun q : Nat => s.heap.size ≤ q) [(h8, .inr (4, [.ref h6, .ref h0, .ref h4, .int xp, .int xs])), (h6, .inr (3, [.ref h7, .int tl])), (h7, .inl (cB, tn, .inl tf)), (h0, .inr (0, [.ref h1, .int cnt])), (h1, .inl (cL, pn, .inr (.inl pf))), (h4, .inr (2, [.ref h5, .ref h2])), (h5, .inl (cL, 16, .inr (.inl rf))), (h2, .inr (1, [.ref h3])), (h3, .inl (cB, 4096, .inl mf)), (m0, .inr (5, [.int vth, .ref qt, .int vtp, .ref qp, .int vpl, .ref qr, .ref qm, .int vpc, .int vst, .int vc, .int vd, .int vs, .int vo, .int vi, .int vn])), (qt, .inl (cI, 32768, .inl gt)), (qp, .inl (cI, 32768, .inl gp)), (qr, .inl (cL, 11, .inr (.inl gr))), (qm, .inl (cI, 4096, .inl gm)), (qo, .inl (cL, 1, .inr (.inl of)))] → va_S (fun q : Nat => s.heap.size ≤ q) s.heap H locs → ∀ (ls : Array Slot), lv_has ls 8 [(0, .ref b), (1, .ref h8), (2, .ref m0), (3, .ref qo), (4, .int (nI (6 * k)))] → W p l e room_1 s m #[Value.ref b] below meth c H locs (40 + 2 * (k + 1)) (120000 + 7 * (k + 1) + 2 * tn + 2 * pn) (lw_Z below #[Value.ref b] s) (F0 m 682 ls []) := by
      intro hi h7 tn tf tl h1 pn pf cnt rf mf xp xs vth gt vtp gp vpl gr gm vpc vst vc vd vs vo vi vn of H locs hI hP hD hS ls hl
      refine lv_iinc (v := nI (6 * (k + 1))) (lv' := [(4, .int (nI (6 * (k + 1)))), (0, .ref b), (1, .ref h8), (2, .ref m0), (3, .ref qo)]) hx hb dLa_law_682 hl (k := 4) rfl (by rw [← nI_p6]; rfl) (by decide) rfl (fun ls hl => ?_)
      refine lv_goto (tgt := 23) hx hb dLa_law_685 (by decide) ?_
      exact ih (k + 1) h7 tn tf tl h1 pn pf cnt rf mf xp xs vth gt vtp gp vpl gr gm vpc vst vc vd vs vo vi vn of (by omega) (by omega) hI H locs hP hD hS ls (lv_sub hl [1, 2, 3, 4, 0] rfl)
    refine lv_iload hx hb dLa_law_23 (lv_at hl 4 rfl) ?_
    refine lv_aload_n hx hb dLa_law_25 rfl (lv_at hl 0 rfl) ?_
    refine va_slen hx hb hX hbl hbA hS dLa_law_26 ?_
    refine lv_bipush (v := (6 : Int32)) hx hb dLa_law_27 (by decide) ?_
    refine lv_isub hx hb dLa_law_29 ?_
    refine lv_icmp_gt (tgt := 688) hx hb dLa_law_30 (by decide) (fun c1 => ?_) (fun c1 => ?_)
    · skip
      refine lv_iconst (v := 1) hx hb dLa_law_688 (by decide) ?_
      refine va_forget (fun q hq => hS.2.2 q hq) ?_
      refine W.widen (k := 601024) (n := 7293034) (by omega) (by omega) ?_
      exact lw_ret hx hb hr hlocks dLa_law_689
    · skip
      have hi : 6 * k + 6 ≤ L := lw_hi hL hk c1
      have kk := kk9 hi
      refine lv_aload_n hx hb dLa_law_33 rfl (lv_at hl 0 rfl) ?_
      refine lv_iload hx hb dLa_law_34 (lv_at hl 4 rfl) ?_
      refine va_sld hx hb hX hbl hbA hS (sc_in0 hi hL) dLa_law_36 ?_
      refine lv_bipush (v := (15 : Int32)) hx hb dLa_law_37 (by decide) ?_
      refine lv_iand hx hb dLa_law_39 ?_
      by_cases c2 : ((sc (nI (6 * k)).toNatClampNeg) &&& (15 : Int32)) = (0 : Int32)
      · skip
        refine lv_tableIn (tgt := 100) (off := 60) hx hb dLa_law_40 (by rw [c2]; decide) (by rw [c2]; decide) (by rw [c2]; rfl) (by decide) ?_
        exact lc_feed X hL hi h8 h6 h0 h4 h5 h2 h3 m0 qt qp qr qm qo h7 tn tf tl h1 pn pf cnt rf mf xp xs vth gt vtp gp vpl gr gm vpc vst vc vd vs vo vi vn of hI H locs hP hD hS ls hl kk
      by_cases c3 : ((sc (nI (6 * k)).toNatClampNeg) &&& (15 : Int32)) = (1 : Int32)
      · skip
        refine lv_tableIn (tgt := 204) (off := 164) hx hb dLa_law_40 (by rw [c3]; decide) (by rw [c3]; decide) (by rw [c3]; rfl) (by decide) ?_
        exact lc_end X hL hi h8 h6 h0 h4 h5 h2 h3 m0 qt qp qr qm qo h7 tn tf tl h1 pn pf cnt rf mf xp xs vth gt vtp gp vpl gr gm vpc vst vc vd vs vo vi vn of hI H locs hP hD hS ls hl kk
      by_cases c4 : ((sc (nI (6 * k)).toNatClampNeg) &&& (15 : Int32)) = (2 : Int32)
      · skip
        refine lv_tableIn (tgt := 240) (off := 200) hx hb dLa_law_40 (by rw [c4]; decide) (by rw [c4]; decide) (by rw [c4]; rfl) (by decide) ?_
        exact lc_load X hL hi h8 h6 h0 h4 h5 h2 h3 m0 qt qp qr qm qo h7 tn tf tl h1 pn pf cnt rf mf xp xs vth gt vtp gp vpl gr gm vpc vst vc vd vs vo vi vn of hI H locs hP hD hS ls hl kk
      by_cases c5 : ((sc (nI (6 * k)).toNatClampNeg) &&& (15 : Int32)) = (3 : Int32)
      · skip
        refine lv_tableIn (tgt := 253) (off := 213) hx hb dLa_law_40 (by rw [c5]; decide) (by rw [c5]; decide) (by rw [c5]; rfl) (by decide) ?_
        exact lc_places X hL hi h8 h6 h0 h4 h5 h2 h3 m0 qt qp qr qm qo h7 tn tf tl h1 pn pf cnt rf mf xp xs vth gt vtp gp vpl gr gm vpc vst vc vd vs vo vi vn of hI H locs hP hD hS ls hl kk
      by_cases c6 : ((sc (nI (6 * k)).toNatClampNeg) &&& (15 : Int32)) = (4 : Int32)
      · skip
        refine lv_tableIn (tgt := 266) (off := 226) hx hb dLa_law_40 (by rw [c6]; decide) (by rw [c6]; decide) (by rw [c6]; rfl) (by decide) ?_
        exact lc_set X hL hi h8 h6 h0 h4 h5 h2 h3 m0 qt qp qr qm qo h7 tn tf tl h1 pn pf cnt rf mf xp xs vth gt vtp gp vpl gr gm vpc vst vc vd vs vo vi vn of hI H locs hP hD hS ls hl kk
      by_cases c7 : ((sc (nI (6 * k)).toNatClampNeg) &&& (15 : Int32)) = (5 : Int32)
      · skip
        refine lv_tableIn (tgt := 346) (off := 306) hx hb dLa_law_40 (by rw [c7]; decide) (by rw [c7]; decide) (by rw [c7]; rfl) (by decide) ?_
        exact lc_get X hL hi h8 h6 h0 h4 h5 h2 h3 m0 qt qp qr qm qo h7 tn tf tl h1 pn pf cnt rf mf xp xs vth gt vtp gp vpl gr gm vpc vst vc vd vs vo vi vn of hI H locs hP hD hS ls hl kk
      by_cases c8 : ((sc (nI (6 * k)).toNatClampNeg) &&& (15 : Int32)) = (6 : Int32)
      · skip
        refine lv_tableIn (tgt := 401) (off := 361) hx hb dLa_law_40 (by rw [c8]; decide) (by rw [c8]; decide) (by rw [c8]; rfl) (by decide) ?_
        exact lc_put X hL hi h8 h6 h0 h4 h5 h2 h3 m0 qt qp qr qm qo h7 tn tf tl h1 pn pf cnt rf mf xp xs vth gt vtp gp vpl gr gm vpc vst vc vd vs vo vi vn of hI H locs hP hD hS ls hl kk
      by_cases c9 : ((sc (nI (6 * k)).toNatClampNeg) &&& (15 : Int32)) = (7 : Int32)
      · skip
        refine lv_tableIn (tgt := 513) (off := 473) hx hb dLa_law_40 (by rw [c9]; decide) (by rw [c9]; decide) (by rw [c9]; rfl) (by decide) ?_
        exact lc_word X hL hi h8 h6 h0 h4 h5 h2 h3 m0 qt qp qr qm qo h7 tn tf tl h1 pn pf cnt rf mf xp xs vth gt vtp gp vpl gr gm vpc vst vc vd vs vo vi vn of hI H locs hP hD hS ls hl kk
      by_cases c10 : ((sc (nI (6 * k)).toNatClampNeg) &&& (15 : Int32)) = (8 : Int32)
      · skip
        refine lv_tableIn (tgt := 600) (off := 560) hx hb dLa_law_40 (by rw [c10]; decide) (by rw [c10]; decide) (by rw [c10]; rfl) (by decide) ?_
        exact lc_run X hL hi h8 h6 h0 h4 h5 h2 h3 m0 qt qp qr qm qo h7 tn tf tl h1 pn pf cnt rf mf xp xs vth gt vtp gp vpl gr gm vpc vst vc vd vs vo vi vn of hI H locs hP hD hS ls hl kk
      by_cases c11 : ((sc (nI (6 * k)).toNatClampNeg) &&& (15 : Int32)) = (9 : Int32)
      · skip
        refine lv_tableIn (tgt := 656) (off := 616) hx hb dLa_law_40 (by rw [c11]; decide) (by rw [c11]; decide) (by rw [c11]; rfl) (by decide) ?_
        exact lc_place X hL hi h8 h6 h0 h4 h5 h2 h3 m0 qt qp qr qm qo h7 tn tf tl h1 pn pf cnt rf mf xp xs vth gt vtp gp vpl gr gm vpc vst vc vd vs vo vi vn of hI H locs hP hD hS ls hl kk
      by_cases c12 : ((sc (nI (6 * k)).toNatClampNeg) &&& (15 : Int32)) = (10 : Int32)
      · skip
        refine lv_tableIn (tgt := 669) (off := 629) hx hb dLa_law_40 (by rw [c12]; decide) (by rw [c12]; decide) (by rw [c12]; rfl) (by decide) ?_
        exact lc_steps X hL hi h8 h6 h0 h4 h5 h2 h3 m0 qt qp qr qm qo h7 tn tf tl h1 pn pf cnt rf mf xp xs vth gt vtp gp vpl gr gm vpc vst vc vd vs vo vi vn of hI H locs hP hD hS ls hl kk
      refine lv_tableOut (tgt := 682) hx hb dLa_law_40 (by have h0 := lv_neT c2 (a := 0) (by decide); have h1 := lv_neT c3 (a := 1) (by decide); have h2 := lv_neT c4 (a := 2) (by decide); have h3 := lv_neT c5 (a := 3) (by decide); have h4 := lv_neT c6 (a := 4) (by decide); have h5 := lv_neT c7 (a := 5) (by decide); have h6 := lv_neT c8 (a := 6) (by decide); have h7 := lv_neT c9 (a := 7) (by decide); have h8 := lv_neT c10 (a := 8) (by decide); have h9 := lv_neT c11 (a := 9) (by decide); have h10 := lv_neT c12 (a := 10) (by decide); omega) (by decide) ?_
      refine W.widen (k := (40 + 2 * (k + 1))) (n := (120000 + 7 * (k + 1) + 2 * tn + 2 * pn)) (by omega) (by omega) ?_
      exact kk h7 tn tf tl h1 pn pf cnt rf mf xp xs vth gt vtp gp vpl gr gm vpc vst vc vd vs vo vi vn of H locs hI.up hP hD hS ls hl
