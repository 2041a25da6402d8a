theorem Walk.next {ga : Nat → Int32} {pf : Nat → Int64} {n p : Nat} (h : Walk ga pf n p) (hp : p < n) : Walk ga pf n (if f_Mo_isWide (cd ga p) = true then p + 2 else p + 1) := by
  rcases Walk.cs h with hdn | ⟨h1, h2, h3, h4⟩ | ⟨h1, h2, h3, h4, h5⟩
  · omega
  · rw [h2, if_neg (by decide)]; exact h4
  · rw [h2, if_pos rfl]; exact h5
theorem Walk.st {ga : Nat → Int32} {pf : Nat → Int64} {n p : Nat} (hn : n ≤ 4096) (hW : PW ga n pf) (h : Walk ga pf n p) : isSt ga n (p : Int) = decide (p < n) := by
  unfold isSt
  by_cases c : p < n
  · have := (h.c0 hn hW c).2
    rw [decide_eq_true c]; exact decide_eq_true ⟨by omega, by omega, by rw [Int.toNat_natCast]; exact this⟩
  · rw [decide_eq_false c]; exact decide_eq_false (fun q => by omega)
/-- the goal of a jump from a place -/
def gl (p c o i : Int32) : Int64 := if c = (6 : Int32) then (((p).toInt64 + (1 : Int64)) + ((i).toInt64)) else (((p).toInt64 + (1 : Int64)) + ((o).toInt64))
/-- does the place p go on rightly? -/
def okW (ga : Nat → Int32) (n p : Nat) (c o i : Int32) : Bool :=
  (if (f_Mo_kind c = 5 ∨ f_Mo_kind c = 6) ∧ ¬ f_Mo_n c = 8 ∧ ¬ f_Mo_n c = 9 then isSt ga n (gl (nI p) c o i).toInt else true) && (if c = 5 ∨ c = 6 ∨ c = 149 then true else decide ((if f_Mo_isWide c = true then p + 2 else p + 1) < n))
theorem jmp_c {ga : Nat → Int32} {a1 a2 : Int32} {w : Int64} {c d s o i : Int32} (h : FW w c d s o i) (ht : f_Mo_take ga a1 = (c, d, s, o, i)) (hk : f_Mo_kind c = 5 ∨ f_Mo_kind c = 6) (hI : f_Fo_isInstruction w = true) : (f_Mo_n c = 0 → f_Mo_bit3 c = false) ∧ (f_Mo_n c = 8 → c = 133) ∧ (f_Mo_n c = 9 → c = 149) ∧ ¬ f_Mo_n c = 14 ∧ ¬ f_Mo_n c = 15 := by
  have e := in56 (ga := ga) (a1 := a1) (a2 := a2) h ht hk
  rw [hI] at e
  have e2 : f_Mo_isJump c d s o i = true := by
    rw [e]; unfold f_Mo_isInstruction; rw [ht]
    rcases hk with q | q <;> rw [q] <;> simp
  unfold f_Mo_isJump at e2
  refine ⟨fun q => ?_, fun q => ?_, fun q => ?_, fun q => ?_, fun q => ?_⟩ <;> rw [q] at e2 <;> simp at e2 <;> grind
theorem go_eq {ga : Nat → Int32} {pf : Nat → Int64} {n p : Nat} (hn : n ≤ 4096) (hW : PW ga n pf) (hp : p < n) (hw : Walk ga pf n p) : f_Fo_goesOnRightly pf (nI n) (nI p) (pf p) = okW ga n p (cd ga p) (f_Mo_take ga (nI p)).2.2.2.1 (f_Mo_take ga (nI p)).2.2.2.2 := by
  have hF := FW_of (by omega) (hW p hp).1 (hW p hp).2
  have hI := (hw.c0 hn hW hp).1
  have hc := FW_c hF
  have hs := (hw.next hp).st hn hW
  have kk := kd_eq hF
  have tt := tw_eq hF
  have hj := jmp_c (ga := ga) (a1 := nI p) (a2 := nI n) hF rfl
  have jf : f_Fi_jumpFrom (nI p) (pf p) = gl (nI p) (f_Mo_take ga (nI p)).1 (f_Mo_take ga (nI p)).2.2.2.1 (f_Mo_take ga (nI p)).2.2.2.2 := by
    unfold f_Fi_jumpFrom gl; rw [hF.1, hF.2.2.2.1, hF.2.2.2.2]
  have jp := jp_eq hF
  have n1 : ((nI p + (1 : Int32)).toInt64).toInt = ((p + 1 : Nat) : Int) := by rw [nI_p1, nI_64 (by omega)]
  have n2 : ((nI p + (2 : Int32)).toInt64).toInt = ((p + 2 : Nat) : Int) := by rw [nI_p2, nI_64 (by omega)]
  unfold f_Fo_goesOnRightly f_Fi_isExit f_Fi_jumpsAlways
  simp only [st_eq hn hW]
  rw [jf, tt, n1, n2, hF.1]
  show _ = okW ga n p (f_Mo_take ga (nI p)).1 _ _
  have hs' : isSt ga n (((if f_Mo_isWide (f_Mo_take ga (nI p)).1 = true then p + 2 else p + 1 : Nat)) : Int) = decide ((if f_Mo_isWide (f_Mo_take ga (nI p)).1 = true then p + 2 else p + 1) < n) := hs
  unfold okW
  rw [← hs']
  generalize f_Mo_take ga (nI p) = t at *
  obtain ⟨c, d, s, o, i⟩ := t
  dsimp only at *
  generalize isSt ga n (gl (nI p) c o i).toInt = G at *
  clear hF hs hs' jf n1 n2 hW
  by_cases hk : f_Mo_kind c = 5 ∨ f_Mo_kind c = 6
  · obtain ⟨j0, j8, j9, j14, j15⟩ := hj hk hI
    rw [jp hk]
    obtain ⟨k, rfl⟩ := c256 hc
    obtain ⟨q5, q6, q133, q149⟩ := jp_code hk
    have hwd : f_Mo_isWide (nI k.val) = false := wide_n (by rcases hk with q | q <;> rw [q] <;> decide)
    rw [hwd]
    generalize nI k.val = c at *
    simp only [q5, q6, q149]
    rcases n16 hc with q | q | q | q | q | q | q | q | q | q | q | q | q | q | q | q <;> rcases hk with z | z <;> simp [q, z] at * <;> (try simp [j0]) <;> grind
  · have h5 : ¬ c = 5 := fun q => hk (Or.inl (by rw [q]; decide))
    have h6 : ¬ c = 6 := fun q => hk (Or.inr (by rw [q]; decide))
    have h149 : ¬ c = 149 := fun q => hk (Or.inl (by rw [q]; decide))
    have hper : f_Fi_jumpsPerhaps (pf p) = false := by
      unfold f_Fi_jumpsPerhaps
      rw [kk, if_neg (fun q => hk (Or.inl q)), if_neg (fun q => hk (Or.inr q))]
    rw [hper]
    simp [h5, h6, h149, hk]
    cases f_Mo_isWide c <;> simp
theorem ww_eq {ga : Nat → Int32} {pf : Nat → Int64} {n : Nat} (hn : n ≤ 4096) (hW : PW ga n pf) (h0 : Walk ga pf n 0) (vc vd vs vo vi : Int32) : ∀ (f p : Nat) (c9 d9 s9 o9 i9 : Int32), Walk ga pf n p → l_Fo_firstGoingWrong_2 pf (nI n) f (nI p) = (l_Mo_wrongWay_2 vc vd vs vo vi ga (nI n) f (nI p) c9 d9 s9 o9 i9).1 := by
  intro f
  induction f with
  | zero => intros; rfl
  | succ f ih =>
    intro p c9 d9 s9 o9 i9 hw
    have hp := hw.le
    rw [l_Fo_firstGoingWrong_2, l_Mo_wrongWay_2]
    by_cases c : n ≤ p
    · have hc' : nI n ≤ nI p := (nI_lei (by omega) (by omega)).mpr c
      rw [if_pos hc', if_pos hc']
    · have hp2 : p < n := by omega
      have hc' : ¬ nI n ≤ nI p := by rw [nI_lei (by omega) (by omega)]; exact c
      rw [if_neg hc', if_neg hc', at_eq hn hp2, go_eq hn hW hp2 hw]
      have hF := FW_of (by omega) (hW p hp2).1 (hW p hp2).2
      have tt := tw_eq hF
      have hnx := hw.next hp2
      have e11 : nI p + (1 : Int32) + (1 : Int32) = nI (p + 2) := by rw [nI_p1, nI_p1]
      have hg : ∀ a : Int64, f_Mo_isGoal ga a (nI n) = isSt ga n a.toInt := fun a => by
        unfold f_Mo_isGoal
        rw [nI_clamp (show n < 2 ^ 31 by omega)]
        exact goal_eq hn hW a (n + 1) 0 h0 (by omega) (by omega)
      simp only [hg]
      have hgl : (if (f_Mo_take ga (nI p)).1 = (6 : Int32) then ((((nI p).toInt64) + (1 : Int64)) + (((f_Mo_take ga (nI p)).2.2.2.2).toInt64)) else ((((nI p).toInt64) + (1 : Int64)) + (((f_Mo_take ga (nI p)).2.2.2.1).toInt64))) = gl (nI p) (cd ga p) (f_Mo_take ga (nI p)).2.2.2.1 (f_Mo_take ga (nI p)).2.2.2.2 := rfl
      rw [hgl, tt, e11, nI_p1, nI_p2]
      have hnxI : (if f_Mo_isWide (cd ga p) = true then nI (p + 2) else nI (p + 1)) = nI (if f_Mo_isWide (cd ga p) = true then p + 2 else p + 1) := by split <;> rfl
      have hc1 : (f_Mo_take ga (nI p)).1 = cd ga p := rfl
      rw [hc1, hnxI]
      have hlt : (nI (if f_Mo_isWide (cd ga p) = true then p + 2 else p + 1) < nI n) ↔ ((if f_Mo_isWide (cd ga p) = true then p + 2 else p + 1) < n) := nI_lti (by split <;> omega) (by omega)
      have hih := fun c9 d9 s9 o9 i9 => ih (if f_Mo_isWide (cd ga p) = true then p + 2 else p + 1) c9 d9 s9 o9 i9 hnx
      have hcl : (if f_Mo_isWide (cd ga p) = true then l_Fo_firstGoingWrong_2 pf (nI n) f (nI (p + 2)) else l_Fo_firstGoingWrong_2 pf (nI n) f (nI (p + 1))) = l_Fo_firstGoingWrong_2 pf (nI n) f (nI (if f_Mo_isWide (cd ga p) = true then p + 2 else p + 1)) := by split <;> rfl
      rw [hcl]
      simp only [hlt]
      unfold okW
      generalize isSt ga n (gl (nI p) (cd ga p) (f_Mo_take ga (nI p)).2.2.2.1 (f_Mo_take ga (nI p)).2.2.2.2).toInt = GG
      generalize (if f_Mo_isWide (cd ga p) = true then p + 2 else p + 1) = q9 at *
      generalize cd ga p = cc at *
      clear hcl hlt hnxI hgl hg hF tt
      by_cases k5 : (f_Mo_kind cc = 5 ∨ f_Mo_kind cc = 6) ∧ ¬ f_Mo_n cc = 8 ∧ ¬ f_Mo_n cc = 9
      · have kb : (if f_Mo_kind cc = (5 : Int32) then (if f_Mo_n cc = (8 : Int32) then false else (if f_Mo_n cc = (9 : Int32) then false else true)) else (if f_Mo_kind cc = (6 : Int32) then (if f_Mo_n cc = (8 : Int32) then false else (if f_Mo_n cc = (9 : Int32) then false else true)) else false)) = true := by
          obtain ⟨k1, k2, k3⟩ := k5
          rw [if_neg k2, if_neg k3]
          rcases k1 with q | q
          · rw [if_pos q]
          · rw [if_pos q]; split <;> rfl
        rw [if_pos k5, if_pos kb]
        cases GG with
        | false => simp
        | true =>
          simp only [Bool.true_and]
          by_cases q5 : cc = 5
          · simp [q5]; rw [hih]
          by_cases q6 : cc = 6
          · simp [q6]; rw [hih]
          by_cases q149 : cc = 149
          · simp [q149]; rw [hih]
          by_cases ql : q9 < n
          · simp [q5, q6, q149, ql]; rw [hih]
          · simp [q5, q6, q149, ql]
      · have kb : ¬ (if f_Mo_kind cc = (5 : Int32) then (if f_Mo_n cc = (8 : Int32) then false else (if f_Mo_n cc = (9 : Int32) then false else true)) else (if f_Mo_kind cc = (6 : Int32) then (if f_Mo_n cc = (8 : Int32) then false else (if f_Mo_n cc = (9 : Int32) then false else true)) else false)) = true := by
          intro z; apply k5
          by_cases k2 : f_Mo_n cc = 8
          · simp [k2] at z
          by_cases k3 : f_Mo_n cc = 9
          · simp [k3] at z
          refine ⟨?_, k2, k3⟩
          by_cases k1 : f_Mo_kind cc = 5
          · exact Or.inl k1
          · by_cases k6 : f_Mo_kind cc = 6
            · exact Or.inr k6
            · simp [k1, k6] at z
        rw [if_neg k5, if_neg kb]
        simp only [Bool.true_and]
        by_cases q5 : cc = 5
        · simp [q5]; rw [hih]
        by_cases q6 : cc = 6
        · simp [q6]; rw [hih]
        by_cases q149 : cc = 149
        · simp [q149]; rw [hih]
        by_cases ql : q9 < n
        · simp [q5, q6, q149, ql]; rw [hih]
        · simp [q5, q6, q149, ql]
