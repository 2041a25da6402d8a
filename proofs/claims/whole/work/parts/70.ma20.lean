/-- what the law's loop keeps: k calls done -/
def INV (k tn : Nat) (tf : Nat → Int32) (tl : Int32) (pn : Nat) (pf : Nat → Int64) (cnt : Int32) (rf : Nat → Int64) (mf : Nat → Int32) (xp xs : Int32) (gt : Nat → Int32) (vtp : Int32) (gp : Nat → Int32) (vpl : Int32) (gr : Nat → Int64) (gm : Nat → Int32) (vpc vst : Int32) : Prop :=
  (0 ≤ tl.toInt ∧ tl.toInt ≤ 20 * k ∧ tl.toInt ≤ tn ∧ 512 ≤ tn ∧ tn ≤ 32768 ∧ (∀ j, fits .byte (.int (tf j)) = true) ∧ TR tf gt tl ∧ vtp = tl) ∧ (pn ≤ 4096 ∧ vpl = cnt ∧ ∃ n : Nat, n ≤ 4096 ∧ cnt = nI n ∧ n ≤ pn ∧ VP gp pf n) ∧ RR rf gr ∧ RM mf gm ∧ vpc = xp ∧ vst = xs
section INVS
variable {k tn : Nat} {tf : Nat → Int32} {tl : Int32} {pn : Nat} {pf : Nat → Int64} {cnt : Int32} {rf : Nat → Int64} {mf : Nat → Int32} {xp xs : Int32} {gt : Nat → Int32} {vtp : Int32} {gp : Nat → Int32} {vpl : Int32} {gr : Nat → Int64} {gm : Nat → Int32} {vpc vst : Int32}
theorem INV.b (h : INV k tn tf tl pn pf cnt rf mf xp xs gt vtp gp vpl gr gm vpc vst) : tn ≤ 32768 ∧ pn ≤ 4096 := ⟨h.1.2.2.2.2.1, h.2.1.1⟩
theorem INV.up (h : INV k tn tf tl pn pf cnt rf mf xp xs gt vtp gp vpl gr gm vpc vst) : INV (k + 1) tn tf tl pn pf cnt rf mf xp xs gt vtp gp vpl gr gm vpc vst := by
  obtain ⟨⟨a1, a2, a3⟩, h2⟩ := h
  exact ⟨⟨a1, by omega, a3⟩, h2⟩
theorem INV.start : INV 0 512 (fun _ => 0) (0 : Int32) 64 (fun _ => 0) (0 : Int32) (fun _ => 0) (fun _ => 0) (-1 : Int32) (0 : Int32) (fun _ => 0) (0 : Int32) (fun _ => 0) (0 : Int32) (fun _ => 0) (fun _ => 0) (-1 : Int32) (0 : Int32) :=
  ⟨⟨by decide, by decide, by decide, by decide, by decide, fun _ => (by decide : fits .byte (.int 0) = true), fun _ _ => (by decide : (0 : Int32) &&& 255 = 0), rfl⟩, ⟨by decide, rfl, 0, by decide, rfl, by decide, ⟨by decide, fun p hp => by omega, fun q => by omega, fun p hp => by omega⟩⟩, fun _ _ => rfl, fun _ => (by decide : (0 : Int32) &&& 255 = 0), rfl, rfl⟩
-- feed
theorem feed_pre (hk : k < 512) (h : INV k tn tf tl pn pf cnt rf mf xp xs gt vtp gp vpl gr gm vpc vst) : (f_Ta_hasRoom tl) = true ∧ 0 ≤ tl.toInt ∧ tl.toInt ≤ tn ∧ tl.toInt + 20 ≤ 32768 ∧ 512 ≤ tn ∧ tn ≤ 32768 ∧ (∀ j, fits .byte (.int (tf j)) = true) ∧ (¬ (tl + (20 : Int32)) ≤ (nI tn) → (min 32768 (2 * tn)) ≤ 2 * ((f_Ta_makeRoom tn tf tl).1 - tn)) ∧ 0 ≤ vtp.toInt ∧ vtp.toInt ≤ 32768 ∧ tn ≤ (f_Ta_makeRoom tn tf tl).1 ∧ (f_Ta_makeRoom tn tf tl).1 ≤ 32768 := by
  obtain ⟨⟨a1, a2, a3, a4, a5, a6, a7, rfl⟩, -⟩ := h
  have e20 : (vtp + (20 : Int32)).toInt = vtp.toInt + 20 := by
    rw [i_add (by rw [show (20 : Int32).toInt = 20 by decide]; omega) (by rw [show (20 : Int32).toInt = 20 by decide]; omega), show (20 : Int32).toInt = 20 by decide]
  have hr : f_Ta_hasRoom vtp = true := by
    unfold f_Ta_hasRoom
    rw [if_neg (by rw [Int32.lt_iff_toInt_lt, e20, show (32768 : Int32).toInt = 32768 by decide]; omega)]
  refine ⟨hr, a1, a3, by omega, a4, a5, a6, ?_, a1, by omega, ?_, ?_⟩
  · intro c
    unfold f_Ta_makeRoom
    rw [if_neg c]
    have c := i_nle c
    rw [e20, nI_toInt (by omega)] at c
    show min 32768 (2 * tn) ≤ 2 * (min 32768 (2 * tn) - tn)
    omega
  · unfold f_Ta_makeRoom; split
    · exact Nat.le_refl _
    · show tn ≤ min 32768 (2 * tn); omega
  · unfold f_Ta_makeRoom; split
    · exact a5
    · exact mn_le
theorem feed_post (hk : k < 512) (h : INV k tn tf tl pn pf cnt rf mf xp xs gt vtp gp vpl gr gm vpc vst) (a0 a1 a2 a3 a4 : Int32) : INV (k + 1) (f_Cp_feed tn tf tl a0 a1 a2 a3 a4).2.1 (f_Cp_feed tn tf tl a0 a1 a2 a3 a4).2.2.1 (f_Cp_feed tn tf tl a0 a1 a2 a3 a4).2.2.2 pn pf cnt rf mf xp xs (f_Mo_feed vtp gt a0 a1 a2 a3 a4).2.2.1 (f_Mo_feed vtp gt a0 a1 a2 a3 a4).2.2.2 gp vpl gr gm vpc vst ∧ (f_Mo_feed vtp gt a0 a1 a2 a3 a4).2.1 = 0 ∧ (f_Cp_feed tn tf tl a0 a1 a2 a3 a4).1 = (f_Mo_feed vtp gt a0 a1 a2 a3 a4).1 ∧ (f_Cp_feed tn tf tl a0 a1 a2 a3 a4).2.1 = (f_Ta_makeRoom tn tf tl).1 := by
  have hp := feed_pre hk h
  obtain ⟨⟨b1, b2, b3, b4, b5, b6, b7, rfl⟩, h2⟩ := h
  obtain ⟨e1, e2, e3, e4, e5, e6, e7, e8⟩ := feed_eq a0 a1 a2 a3 a4 b1 b3 (by omega) b4 b5 b7 b6
  refine ⟨⟨⟨by omega, by omega, by rw [e3]; omega, by rw [e3]; omega, by rw [e3]; omega, e6, e5, e4.symm⟩, h2⟩, e2, e1, e3⟩
-- load
theorem load_pre (hk : k ≤ 512) (h : INV k tn tf tl pn pf cnt rf mf xp xs gt vtp gp vpl gr gm vpc vst) : 0 ≤ tl.toInt ∧ tl.toInt ≤ 32768 ∧ tl.toInt ≤ tn ∧ tn < 1073741824 ∧ pn ≤ 32768 ∧ (¬ (tl / (8 : Int32)) ≤ (nI pn) → (f_Jm_max (tl / (8 : Int32)) ((2 : Int32) * (nI pn))).toNatClampNeg ≤ 2 * ((f_Pr_takeFrom pn pf tf tl).1 - pn)) ∧ 0 ≤ vtp.toInt ∧ vtp.toInt ≤ 32768 ∧ pn ≤ (f_Pr_takeFrom pn pf tf tl).1 ∧ (f_Pr_takeFrom pn pf tf tl).1 ≤ 4096 := by
  obtain ⟨⟨a1, a2, a3, a4, a5, a6, a7, rfl⟩, ⟨b1, -⟩, -⟩ := h
  obtain ⟨n, hn, e, h8⟩ := dv8 a1 (by omega : vtp.toInt ≤ 32768)
  obtain ⟨g1, -, -⟩ := take_spec (pn := pn) (pf := pf) (tf := tf) a1 (by omega : vtp.toInt ≤ 32768)
  have e2 : (2 : Int32) * (nI pn) = nI (2 * pn) := pk_mul 2 pn
  have hmax : (f_Jm_max (vtp / (8 : Int32)) ((2 : Int32) * (nI pn))).toNatClampNeg = max n (2 * pn) := by
    unfold f_Jm_max
    rw [e, e2]
    by_cases c : n < 2 * pn
    · rw [if_pos ((nI_lti (by omega) (by omega)).mpr c), nI_clamp (by omega)]; omega
    · rw [if_neg (by rw [nI_lti (by omega) (by omega)]; exact c), nI_clamp (by omega)]; omega
  rw [g1]
  refine ⟨a1, by omega, a3, by omega, by omega, ?_, a1, by omega, ?_, ?_⟩
  · intro c
    rw [if_neg c, hmax]
    rw [e, nI_lei (by omega) (by omega)] at c
    omega
  · split
    · exact Nat.le_refl _
    · rw [hmax]; omega
  · split
    · exact b1
    · next c =>
      rw [e, nI_lei (by omega) (by omega)] at c
      rw [hmax]; omega
theorem load_post (hk : k ≤ 512) (h : INV k tn tf tl pn pf cnt rf mf xp xs gt vtp gp vpl gr gm vpc vst) (vth vc vd vs vo vi vn : Int32) : INV (k + 1) tn tf (f_Cp_load pn pf tf tl).2.1 (f_Cp_load pn pf tf tl).2.2.1 (f_Cp_load pn pf tf tl).2.2.2.1 (f_Cp_load pn pf tf tl).2.2.2.2 rf mf xp xs gt (f_Mo_load vth vtp vpl vpc vst vc vd vs vo vi vn gt gp).2.2.1 (f_Mo_load vth vtp vpl vpc vst vc vd vs vo vi vn gt gp).2.2.2.2.1 (f_Mo_load vth vtp vpl vpc vst vc vd vs vo vi vn gt gp).2.2.2.1 gr gm vpc vst ∧ (f_Cp_load pn pf tf tl).1 = (f_Mo_load vth vtp vpl vpc vst vc vd vs vo vi vn gt gp).1 ∧ (f_Cp_load pn pf tf tl).2.2.1 = (f_Pr_takeFrom pn pf tf tl).1 := by
  have hp := load_pre hk h
  obtain ⟨⟨b1, b2, b3, b4, b5, b6, b7, rfl⟩, -, h3⟩ := h
  obtain ⟨g1, g2, -⟩ := take_spec (pn := pn) (pf := pf) (tf := tf) hp.1 hp.2.1
  obtain ⟨e1, e2, e3, e4, e5, e6, n, n1, n2, n3, n4⟩ := load_eq (pn := pn) (pf := pf) (gp := gp) vth vpl vpc vst vc vd vs vo vi vn b1 hp.2.1 b7
  have hn : n ≤ (f_Pr_takeFrom pn pf tf vtp).1 := by
    have h9 := tk_hc (pn := pn) (pf := pf) (tf := tf) b1 hp.2.1 (by omega)
    rw [g2] at h9
    obtain ⟨n', hn', en', h8'⟩ := dv8 b1 hp.2.1
    rw [en', nI_toInt (by omega)] at h9
    have : (n : Int) ≤ (n' : Int) ∨ n' < n := by omega
    rcases this with q | q
    · omega
    · exfalso
      have e9 : (vtp / (8 : Int32)).toInt = vtp.toInt / 8 := by
        rw [Int32.toInt_div, show (8 : Int32).toInt = 8 by decide, Int.tdiv_eq_ediv_of_nonneg b1]
        exact Int.bmod_eq_of_le_mul_two (by omega) (by omega)
      rw [en', nI_toInt (by omega)] at e9
      omega
  refine ⟨⟨⟨by rw [e3]; decide, by rw [e3, i_0]; omega, by rw [e3, i_0]; omega, b4, b5, b6, ?_, by rw [e4, e3]⟩, ⟨by rw [e5]; omega, e6.symm, n, n1, n3, by rw [e5]; exact hn, n4⟩, h3⟩, e1, e5⟩
  rw [e3]
  intro j hj
  rw [i_0] at hj; omega
-- end
theorem end_ret (h : INV k tn tf tl pn pf cnt rf mf xp xs gt vtp gp vpl gr gm vpc vst) {a : Int32} (h0 : ¬ a < 0) (h1 : a ≤ tl) : INV (k + 1) tn tf a pn pf cnt rf mf xp xs gt (f_Mo_end vtp a).2 gp vpl gr gm vpc vst ∧ (f_Mo_end vtp a).1 = 0 := by
  obtain ⟨⟨b1, b2, b3, b4, b5, b6, b7, rfl⟩, h2⟩ := h
  have hc : (if a < 0 then true else (if a ≤ vtp then false else true)) = false := by rw [if_neg h0, if_pos h1]
  have h0' := i_nlt0 h0
  rw [Int32.le_iff_toInt_le] at h1
  unfold f_Mo_end
  rw [hc]
  exact ⟨⟨⟨h0', by omega, by omega, b4, b5, b6, fun j hj => b7 j (by omega), rfl⟩, h2⟩, rfl⟩
theorem end_thr (h : INV k tn tf tl pn pf cnt rf mf xp xs gt vtp gp vpl gr gm vpc vst) {a : Int32} (h1 : a < 0 ∨ ¬ a ≤ tl) : INV (k + 1) tn tf tl pn pf cnt rf mf xp xs gt (f_Mo_end vtp a).2 gp vpl gr gm vpc vst ∧ (f_Mo_end vtp a).1 = 1 := by
  have hu := h.up
  obtain ⟨⟨b1, b2, b3, b4, b5, b6, b7, rfl⟩, h2⟩ := h
  have hc : (if a < 0 then true else (if a ≤ vtp then false else true)) = true := by
    by_cases q : a < 0
    · rw [if_pos q]
    · rw [if_neg q, if_neg (by rcases h1 with z | z; exact absurd z q; exact z)]
  unfold f_Mo_end
  rw [hc]
  exact ⟨hu, rfl⟩
-- set, get
theorem lt11 {a : Int32} : a ≤ (10 : Int32) ↔ a < (11 : Int32) := by
  have h1 : (10 : Int32).toInt = 10 := by decide
  have h2 : (11 : Int32).toInt = 11 := by decide
  rw [Int32.le_iff_toInt_le, Int32.lt_iff_toInt_lt]; omega
theorem reg_ok {a : Int32} (h0 : ¬ a < 0) (h1 : a < (11 : Int32)) : (if a < 0 then true else (if a ≤ (10 : Int32) then false else true)) = false := by rw [if_neg h0, if_pos (lt11.mpr h1)]
theorem reg_no {a : Int32} (h : a < 0 ∨ ¬ a < (11 : Int32)) : (if a < 0 then true else (if a ≤ (10 : Int32) then false else true)) = true := by
  by_cases q : a < 0
  · rw [if_pos q]
  · rw [if_neg q, if_neg (by rw [lt11]; rcases h with z | z; exact absurd z q; exact z)]
theorem set_ret (h : INV k tn tf tl pn pf cnt rf mf xp xs gt vtp gp vpl gr gm vpc vst) {a : Int32} (v : Int64) (h0 : ¬ a < 0) (h1 : a < (11 : Int32)) : INV (k + 1) tn tf tl pn pf cnt (f_Cp_set rf a v) mf xp xs gt vtp gp vpl (f_Mo_set gr a v).2 gm vpc vst ∧ (f_Mo_set gr a v).1 = 0 := by
  obtain ⟨a1, a2, a3, a4⟩ := h.up
  unfold f_Mo_set f_Cp_set
  rw [reg_ok h0 h1, if_neg (by decide)]
  exact ⟨⟨a1, a2, a3.upd _ _, a4⟩, rfl⟩
theorem set_thr (h : INV k tn tf tl pn pf cnt rf mf xp xs gt vtp gp vpl gr gm vpc vst) {a : Int32} (v : Int64) (h1 : a < 0 ∨ ¬ a < (11 : Int32)) : INV (k + 1) tn tf tl pn pf cnt rf mf xp xs gt vtp gp vpl (f_Mo_set gr a v).2 gm vpc vst ∧ (f_Mo_set gr a v).1 = 1 := by
  unfold f_Mo_set
  rw [reg_no h1, if_pos rfl]
  exact ⟨h.up, rfl⟩
theorem get_ret (h : INV k tn tf tl pn pf cnt rf mf xp xs gt vtp gp vpl gr gm vpc vst) {a : Int32} (h0 : ¬ a < 0) (h1 : a < (11 : Int32)) : (f_Mo_get gr a).2 = 0 ∧ f_Cp_get rf a = (f_Mo_get gr a).1 := by
  unfold f_Mo_get f_Cp_get
  rw [reg_ok h0 h1, if_neg (by decide)]
  have h0' := i_nlt0 h0
  have e := iN_int a
  rw [Int32.lt_iff_toInt_lt, show (11 : Int32).toInt = 11 by decide] at h1
  have l := iN_lt a
  exact ⟨rfl, h.2.2.1.at (by split at e <;> omega)⟩
theorem get_thr {a : Int32} (h1 : a < 0 ∨ ¬ a < (11 : Int32)) : (f_Mo_get gr a).2 = 1 := by
  unfold f_Mo_get
  rw [reg_no h1, if_pos rfl]; rfl
-- put, word
theorem there8 (a : Int64) : f_Mo_isThere a (8 : Int32) = f_Me_holds a (8 : Int32) := (there_eq a (Or.inr (Or.inr (Or.inr rfl)))).symm
theorem put_ret (h : INV k tn tf tl pn pf cnt rf mf xp xs gt vtp gp vpl gr gm vpc vst) {a : Int64} (v : Int64) (h1 : f_Me_holds a (8 : Int32) = true) : INV (k + 1) tn tf tl pn pf cnt rf (f_Cp_put mf a v) xp xs gt vtp gp vpl gr (f_Mo_put gm a v).2 vpc vst ∧ (f_Mo_put gm a v).1 = 0 := by
  obtain ⟨a1, a2, a3, a4, a5⟩ := h.up
  unfold f_Mo_put f_Cp_put
  rw [there8, h1, if_neg (by decide)]
  exact ⟨⟨a1, a2, a3, wr_eq a4 (Or.inr (Or.inr (Or.inr rfl))) h1 v, a5⟩, rfl⟩
theorem put_thr (h : INV k tn tf tl pn pf cnt rf mf xp xs gt vtp gp vpl gr gm vpc vst) {a : Int64} (v : Int64) (h1 : ¬ f_Me_holds a (8 : Int32) = true) : INV (k + 1) tn tf tl pn pf cnt rf mf xp xs gt vtp gp vpl gr (f_Mo_put gm a v).2 vpc vst ∧ (f_Mo_put gm a v).1 = 1 := by
  have h2 : f_Me_holds a (8 : Int32) = false := by simpa using h1
  unfold f_Mo_put
  rw [there8, h2, if_pos (by decide)]
  exact ⟨h.up, rfl⟩
theorem word_ret (h : INV k tn tf tl pn pf cnt rf mf xp xs gt vtp gp vpl gr gm vpc vst) {a : Int64} (h1 : f_Me_holds a (8 : Int32) = true) : (f_Mo_word gm a).2 = 0 ∧ f_Cp_word mf a = (f_Mo_word gm a).1 := by
  unfold f_Mo_word f_Cp_word
  rw [there8, h1, if_neg (by decide)]
  exact ⟨rfl, RM.rd h.2.2.2.1 h1⟩
theorem word_thr {a : Int64} (h1 : ¬ f_Me_holds a (8 : Int32) = true) : (f_Mo_word gm a).2 = 1 := by
  have h2 : f_Me_holds a (8 : Int32) = false := by simpa using h1
  unfold f_Mo_word
  rw [there8, h2, if_pos (by decide)]; rfl
-- run
theorem run_pre (h : INV k tn tf tl pn pf cnt rf mf xp xs gt vtp gp vpl gr gm vpc vst) : cnt.toInt ≤ pn ∧ ∃ V : Int32 → Prop, (¬ vpl = 0 → V (0 : Int32)) ∧ (∀ (p9 : Int32), V p9 → VOK gp p9) ∧ (∀ (p9 n9 : Int32) (g : Nat → Int64) (h : Nat → Int32), V p9 → ¬ (f_Mo_take gp p9).1 = (149 : Int32) → (f_Mo_does (f_Mo_take gp p9).1 (f_Mo_take gp p9).2.1 (f_Mo_take gp p9).2.2.1 (f_Mo_take gp p9).2.2.2.1 (f_Mo_take gp p9).2.2.2.2 gp g h p9).1 = true → V (f_Mo_does (f_Mo_take gp p9).1 (f_Mo_take gp p9).2.1 (f_Mo_take gp p9).2.2.1 (f_Mo_take gp p9).2.2.2.1 (f_Mo_take gp p9).2.2.2.2 gp g h p9).2.2.2) := by
  obtain ⟨-, ⟨b1, rfl, n, hn, rfl, hp, hV⟩, -⟩ := h
  refine ⟨by rw [nI_toInt (by omega)]; omega, VS gp n, fun q => ?_, fun p9 hp9 => vs_vok hV hp9, fun p9 _ g h9 a b c => vs_next hV p9 g h9 a b c⟩
  have h0 : 0 < n := by
    rcases Nat.eq_zero_or_pos n with z | z
    · exact absurd (by rw [z]; rfl) q
    · exact z
  exact ⟨0, h0, rfl, hV.2.2.1 h0⟩
theorem run_A (vc vd vs vo vi vn : Int32) {a : Int32} (h1 : a < 0 ∨ ¬ a ≤ (100000 : Int32)) : f_Mo_run vpl vpc vst vc vd vs vo vi vn gp gr gm a = ((0 : Int32), (1 : Int32), vpc, vst, vn, gr, gm, vc, vd, vs, vo, vi) := by
  have hc : (if a < 0 then (1 : Int32) else (if a ≤ (100000 : Int32) then (if vpl = 0 then (2 : Int32) else (0 : Int32)) else (1 : Int32))) = 1 := by
    by_cases q : a < 0
    · rw [if_pos q]
    · rw [if_neg q, if_neg (by rcases h1 with z | z; exact absurd z q; exact z)]
  unfold f_Mo_run
  rw [hc, if_neg (by decide)]
theorem run_B (vc vd vs vo vi vn : Int32) {a : Int32} (h0 : ¬ a < 0) (h1 : a ≤ (100000 : Int32)) (h2 : vpl = 0) : f_Mo_run vpl vpc vst vc vd vs vo vi vn gp gr gm a = ((0 : Int32), (2 : Int32), vpc, vst, vn, gr, gm, vc, vd, vs, vo, vi) := by
  have hc : (if a < 0 then (1 : Int32) else (if a ≤ (100000 : Int32) then (if vpl = 0 then (2 : Int32) else (0 : Int32)) else (1 : Int32))) = 2 := by
    rw [if_neg h0, if_pos h1, if_pos h2]
  unfold f_Mo_run
  rw [hc, if_neg (by decide)]
theorem run_C (h : INV k tn tf tl pn pf cnt rf mf xp xs gt vtp gp vpl gr gm vpc vst) (vc vd vs vo vi vn : Int32) {a : Int32} (h0 : ¬ a < 0) (h1 : a ≤ (100000 : Int32)) (h2 : ¬ cnt = 0) :
    INV (k + 1) tn tf tl pn pf cnt (f_Cp_run xp xs rf mf pf cnt a).2.2.2.1 (f_Cp_run xp xs rf mf pf cnt a).2.2.2.2 (f_Cp_run xp xs rf mf pf cnt a).2.1 (f_Cp_run xp xs rf mf pf cnt a).2.2.1 gt vtp gp vpl (f_Mo_run vpl vpc vst vc vd vs vo vi vn gp gr gm a).2.2.2.2.2.1 (f_Mo_run vpl vpc vst vc vd vs vo vi vn gp gr gm a).2.2.2.2.2.2.1 (f_Mo_run vpl vpc vst vc vd vs vo vi vn gp gr gm a).2.2.1 (f_Mo_run vpl vpc vst vc vd vs vo vi vn gp gr gm a).2.2.2.1 ∧ (f_Mo_run vpl vpc vst vc vd vs vo vi vn gp gr gm a).2.1 = 0 ∧ (f_Cp_run xp xs rf mf pf cnt a).1 = (f_Mo_run vpl vpc vst vc vd vs vo vi vn gp gr gm a).1 := by
  obtain ⟨c1, ⟨b1, rfl, n, hn, rfl, hp, hV⟩, c3, c4, -, -⟩ := h.up
  have h0' := i_nlt0 h0
  have h1' := h1
  rw [Int32.le_iff_toInt_le, show (100000 : Int32).toInt = 100000 by decide] at h1'
  obtain ⟨A, hA, rfl⟩ : ∃ A : Nat, A ≤ 100000 ∧ a = nI A := ⟨a.toInt.toNat, by omega, Int32.toInt_inj.mp (by rw [nI_toInt (by omega)]; omega)⟩
  have hc : (if nI A < 0 then (1 : Int32) else (if nI A ≤ (100000 : Int32) then (if nI n = 0 then (2 : Int32) else (0 : Int32)) else (1 : Int32))) = 0 := by
    rw [if_neg h0, if_pos h1, if_neg h2]
  have hn0 : 0 < n := by
    rcases Nat.eq_zero_or_pos n with z | z
    · exact absurd (by rw [z]; rfl) h2
    · exact z
  have e := run_loop hV hA xp xs rf mf (nI n) vpc vst vc vd vs vo vi vn gr gm A 0 0 rf gr mf gm vpc vn vc vd vs vo vi (by omega) hn0 (hV.2.2.1 hn0) c3 c4
  have eM : f_Mo_run (nI n) vpc vst vc vd vs vo vi vn gp gr gm (nI A) = l_Mo_run_48 (nI n) vpc vst vc vd vs vo vi vn gp gr gm (nI A) (A + 3) (nI 0) (-1 : Int32) vpc (nI 0) vn gr gm vc vd vs vo vi := by
    unfold f_Mo_run
    rw [hc, if_pos (by decide), nI_clamp (show A < 2 ^ 31 by omega)]; rfl
  have eC : f_Cp_run xp xs rf mf pf (nI n) (nI A) = l_Cp_run_52 xp xs rf mf pf (nI n) (nI A) (A + 1) (nI 0) (nI 0) (nI 0) rf mf := by
    unfold f_Cp_run
    rw [nI_clamp (show A < 2 ^ 31 by omega)]; rfl
  rw [eM, eC]
  obtain ⟨r1, r2, r3, r4, r5, r6⟩ := e
  exact ⟨⟨c1, ⟨b1, rfl, n, hn, rfl, hp, hV⟩, r4, r5, r2.symm, r3.symm⟩, r6.trans hc, r1⟩
end INVS
theorem updL_s (f : Nat → Int64) (j : Nat) (x : Int64) : vp_updL f j x j = x := by unfold vp_updL; rw [if_pos rfl]
theorem sc_in {i j L : Nat} {J : Int32} (h : i + 6 ≤ L) (hL : L ≤ 3072) (hj : j < 6) (hJ : J = nI j) : vp_in (nI i + J) L := by
  rw [vp_in_iff, i_add (by rw [hJ, nI_toInt (by omega), nI_toInt (by omega)]; omega) (by rw [hJ, nI_toInt (by omega), nI_toInt (by omega)]; omega), hJ, nI_toInt (by omega), nI_toInt (by omega)]; omega
theorem sc_in0 {i L : Nat} (h : i + 6 ≤ L) (hL : L ≤ 3072) : vp_in (nI i) L := by
  rw [vp_in_iff, nI_toInt (by omega)]; omega
