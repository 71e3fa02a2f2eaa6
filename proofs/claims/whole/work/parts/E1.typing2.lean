/-! ===== the rows that rules and tactics make are of their types ===== -/
theorem WT.inv {nt : Nat → Nat} {Γ : List Nat} {l : tl_T} {t : Nat} (h : WT nt Γ l t) : ((tl_at l 0).1 = 8 → ∃ u a b, l = (8, t) :: (a ++ b) ∧ ty_isF u = true ∧ t = ty_to u ∧ WT nt Γ a u ∧ WT nt Γ b (ty_from u)) ∧ ((tl_at l 0).1 = 9 → ∃ u a b, l = (9, 4) :: (a ++ b) ∧ t = 4 ∧ WT nt Γ a u ∧ WT nt Γ b u) ∧ ((tl_at l 0).1 = 10 → ∃ a, l = (10, t) :: a ∧ ty_isF t = true ∧ WT nt (ty_from t :: Γ) a (ty_to t)) := by
  obtain ⟨f, h⟩ := h
  cases f with
  | zero => exact h.elim
  | succ f =>
    obtain ⟨h0, h⟩ := h
    rcases h with ⟨v, h1, rfl, -⟩ | ⟨j, rfl, -⟩ | ⟨u, a, b, rfl, h2, h3, h4, h5⟩ | ⟨u, a, b, rfl, h2, h3, h4⟩ | ⟨a, rfl, h2, h3⟩
    · exact ⟨fun q => by simp [tl_at] at q; omega, fun q => by simp [tl_at] at q; omega, fun q => by simp [tl_at] at q; omega⟩
    · exact ⟨fun q => by simp [tl_at] at q; omega, fun q => by simp [tl_at] at q; omega, fun q => by simp [tl_at] at q; omega⟩
    · exact ⟨fun _ => ⟨u, a, b, rfl, h2, h3, ⟨f, h4⟩, ⟨f, h5⟩⟩, fun q => by simp [tl_at] at q, fun q => by simp [tl_at] at q⟩
    · subst h2
      exact ⟨fun q => by simp [tl_at] at q, fun _ => ⟨u, a, b, rfl, rfl, ⟨f, h3⟩, ⟨f, h4⟩⟩, fun q => by simp [tl_at] at q⟩
    · exact ⟨fun q => by simp [tl_at] at q, fun q => by simp [tl_at] at q, fun _ => ⟨a, rfl, h2, ⟨f, h3⟩⟩⟩
theorem at_hd {l a rest : tl_T} {s : Nat} (h : l.drop s = a ++ rest) (ha : 0 < a.length) : tl_at l s = tl_at a 0 := by
  unfold tl_at
  have : (l.drop s)[0]? = l[s]? := by simp
  rw [← this, h, List.getElem?_append_left ha]
theorem cp_pos {l : tl_T} (h : tl_cp 1 l) : 0 < l.length := by
  obtain ⟨x, r, e⟩ := tl_cp_pos h
  rw [e]
  simp
/-- an equation and its sides -/
theorem WT.E {nt : Nat → Nat} {l : tl_T} {t : Nat} (h : WT nt [] l t) (hE : tl_isE l = true) : ∃ u a b, l = (9, 4) :: (a ++ b) ∧ t = 4 ∧ WT nt [] a u ∧ WT nt [] b u ∧ l.drop 1 = a ++ b ∧ tl_end l 1 = 1 + a.length ∧ l.drop (1 + a.length) = b ++ [] ∧ tl_part l 1 = a ∧ tl_part l (tl_end l 1) = b ∧ tl_at l 1 = tl_at a 0 ∧ tl_at l (tl_end l 1) = tl_at b 0 ∧ (tl_at l 1).2 = u ∧ (tl_at l (tl_end l 1)).2 = u := by
  obtain ⟨u, a, b, e, ht, ha, hb⟩ := h.inv.2.1 (by simpa [tl_isE] using hE)
  have d1 : l.drop 1 = a ++ (b ++ []) := by rw [e]; simp
  have d2 := at_next d1
  obtain ⟨p1, e1⟩ := at_part d1 ha.cp.1
  obtain ⟨p2, -⟩ := at_part d2 hb.cp.1
  have h1 := at_hd d1 (cp_pos ha.cp.1)
  have h2 := at_hd d2 (cp_pos hb.cp.1)
  refine ⟨u, a, b, e, ht, ha, hb, by rw [d1]; simp, e1, d2, p1, by rw [e1]; exact p2, h1, by rw [e1]; exact h2, by rw [h1]; exact ha.hd, by rw [e1, h2]; exact hb.hd⟩
def st_okW (S : st_S) : Prop := ∀ t, t < (st_T S).length → ∃ u, WT (st_nt S) [] (st_tm S t) u
theorem st_okW.h {S : st_S} (h : st_okW S) {t : Nat} (ht : t < (st_T S).length) : WT (st_nt S) [] (st_tm S t) (tl_at (st_tm S t) 0).2 := by
  obtain ⟨u, hu⟩ := h t ht
  rw [hu.hd]
  exact hu
/-- conclusions are of TRUTHS -/
def st_ok4 (S : st_S) : Prop := (∀ p, p < (st_th S).length → st_cn S p < (st_T S).length ∧ (tl_at (st_tm S (st_cn S p)) 0).2 = 4) ∧ ∀ g, g < (st_gl S).length → st_gt S g < (st_T S).length ∧ (tl_at (st_tm S (st_gt S g)) 0).2 = 4
theorem WT.uniq {nt : Nat → Nat} {Γ Γ' : List Nat} {l : tl_T} {t u : Nat} (h : WT nt Γ l t) (h' : WT nt Γ' l u) : t = u := h.hd.symm.trans h'.hd
theorem WT.beta {nt : Nat → Nat} {l x rest : tl_T} {i t : Nat} (hd : l.drop i = x ++ rest) (h : WT nt [] x t) (h8 : (tl_at x 0).1 = 8) (h10 : (tl_at l (i + 1)).1 = 10) : WT nt [] (tl_beta l i) t := by
  obtain ⟨u, a, b, e, hF, ht, ha, hb⟩ := h.inv.1 h8
  have d1 : l.drop (i + 1) = a ++ (b ++ rest) := by
    rw [← List.drop_drop, hd, e]
    simp
  have d2 := at_next d1
  have ca := ha.cp.1
  have e1 := (at_part d1 ca).2
  obtain ⟨body, ea, -, hbody⟩ := ha.inv.2.2 (by rw [← at_hd d1 (cp_pos ca)]; exact h10)
  have d3 : l.drop (i + 2) = body ++ (b ++ rest) := by
    rw [show i + 2 = (i + 1) + 1 from rfl, ← List.drop_drop, d1, ea]
    simp
  have pb : tl_part l (tl_end l (i + 1)) = b := by rw [e1]; exact (at_part d2 hb.cp.1).1
  have := WT.fil (by_ := .inl b) d3 hbody (fun c q => by cases q; exact hb) (fun c q => by cases q)
  unfold tl_beta tl_fill
  rw [pb, e1, ea, List.length_cons, show i + 1 + (body.length + 1) - (i + 1 + 1) = body.length by omega, ht]
  exact this
theorem ru_wt {S : st_S} {k a b c : Nat} {L : tl_T} (hW : st_okW S) (h4 : st_ok4 S) (hn : ∀ v, v < 8 → ty_ok (st_nt S v)) (hi : ru_in S k a b c) (hf : ru_fit S k a b c = true) (hL : ru_row S k a b c = some L) : WT (st_nt S) [] L 4 := by
  have cw : ∀ {p}, p < (st_th S).length → WT (st_nt S) [] (st_tm S (st_cn S p)) 4 := fun {p} hp => by
    have := hW.h (h4.1 p hp).1
    rw [(h4.1 p hp).2] at this
    exact this
  rcases hi with ⟨rfl | rfl | rfl, ha⟩ | ⟨rfl | rfl | rfl | rfl, ha, hb⟩ | ⟨rfl, ha, hb⟩ | ⟨rfl, ha, hb, hc⟩
  · cases hL
    exact WT.eq (hW.h ha) (hW.h ha)
  · cases hL
    have := hW.h ha
    simp only [ru_fit, beq_iff_eq] at hf
    rw [hf] at this
    exact this
  · cases hL
    have w := hW.h ha
    obtain ⟨b1, b2⟩ := tl_isB_iff.mp hf
    exact WT.eq w (WT.beta (i := 0) (rest := []) (by simp) w b1 b2)
  · cases hL
    simp only [ru_fit, Bool.and_eq_true, beq_iff_eq] at hf
    obtain ⟨⟨f1, f2⟩, f3⟩ := hf
    obtain ⟨u, p, q, -, -, hp, hq, -, -, -, p1, p2, -⟩ := (cw ha).E f1
    obtain ⟨u', p', q', -, -, hp', hq', -, -, -, p1', p2', -⟩ := (cw hb).E f2
    rw [p2, p1'] at f3
    subst f3
    have := hq.uniq hp'
    subst this
    rw [p1, p2']
    exact WT.eq hp hq'
  · cases hL
    simp only [ru_fit, Bool.and_eq_true, beq_iff_eq] at hf
    obtain ⟨⟨⟨f1, f2⟩, f3⟩, f4⟩ := hf
    obtain ⟨u, p, q, -, -, hp, hq, -, -, -, p1, p2, -, -, t1, -⟩ := (cw ha).E f1
    obtain ⟨u', p', q', -, -, hp', hq', -, -, -, p1', p2', -, -, t1', -⟩ := (cw hb).E f2
    rw [t1] at f3 f4 ⊢
    rw [t1'] at f4
    subst f4
    have ok := ty_FT hp.cp.2.1 f3
    rw [p1, p2, p1', p2']
    have w := WT.eq (WT.app ok.2.1 f3 rfl hp hp') (WT.app ok.2.1 f3 rfl hq hq')
    simpa using w
  · cases hL
    simp only [ru_fit, Bool.and_eq_true, beq_iff_eq] at hf
    obtain ⟨f1, f2⟩ := hf
    obtain ⟨u, p, q, -, -, hp, hq, -, -, -, p1, p2, -⟩ := (cw ha).E f1
    rw [p1] at f2
    rw [p2]
    have e : u = 4 := by rw [f2] at hp; exact hp.uniq (cw hb)
    subst e
    exact hq
  · cases hL
    exact WT.eq (cw ha) (cw hb)
  · unfold ru_fit at hf
    simp only [Bool.and_eq_true] at hf
    obtain ⟨u, p, q, -, -, hp, hq, d1, e1, d2, p1, p2, -, -, t1, -⟩ := (cw ha).E hf.1
    unfold ru_row at hL
    simp only at hL
    split at hL
    · next hlog =>
      cases hL
      rw [t1] at hlog ⊢
      obtain ⟨j1, j2, j3, j4⟩ := ty_jn_ok (hn b hb) hp.cp.2.1 hlog
      have w1 := WT.abs (v := b) (rest := q) d1 hp hb
      have w2 := WT.abs (v := b) d2 hq hb
      rw [← e1] at w2
      have x1 := WT.lam (nt := st_nt S) (Γ := []) (t := ty_jn (st_nt S b) u) j1 j2 (by rw [j3, j4]; exact w1)
      have x2 := WT.lam (nt := st_nt S) (Γ := []) (t := ty_jn (st_nt S b) u) j1 j2 (by rw [j3, j4]; exact w2)
      have w := WT.eq x1 x2
      simpa using w
    · cases hL
  · cases hL
    simp only [ru_fit, beq_iff_eq] at hf
    have wc := hW.h hc
    rw [← hf] at wc
    exact WT.inst (cw ha) wc hb
theorem ru_hwt {S : st_S} {a b c : Nat} (hW : st_okW S) (hH : st_okH S) (ha : a < (st_th S).length) (hb : b < 8) (hc : c < (st_T S).length) (hf : ru_fit S 8 a b c = true) : ∀ l ∈ ru_hr S 8 a b c, ∃ u, WT (st_nt S) [] l u := by
  intro l hl
  unfold ru_hr at hl
  rw [if_pos rfl] at hl
  obtain ⟨t, ht, rfl⟩ := List.mem_map.mp hl
  simp only [ru_fit, beq_iff_eq] at hf
  have wc := hW.h hc
  rw [← hf] at wc
  have e := List.getElem?_eq_getElem ha
  have : t < (st_T S).length := (hH a _ e).2.1 t (by unfold st_hy at ht; rw [e] at ht; exact ht)
  exact ⟨_, WT.inst (hW.h this) wc hb⟩
theorem st_okW.V {S : st_S} (h : st_okW S) : st_okV S := by
  intro l hl hE i hi h10 k y k1 k2 hy hy2
  obtain ⟨j, hj⟩ := List.mem_iff_getElem?.mp hl
  have hjl := getE_lt hj
  have el : st_tm S j = l := by unfold st_tm; rw [hj]; rfl
  have w := h.h hjl
  rw [el] at w
  obtain ⟨u, p, q, -, -, hp, hq, d1, e1, d2, p1, p2, a1, a2, t1, t2⟩ := w.E hE
  rw [t1]
  rcases hi with rfl | rfl
  · rw [a1] at h10
    obtain ⟨body, eb, -, hbody⟩ := hp.inv.2.2 h10
    have d3 : l.drop 2 = body ++ q := by
      rw [show 2 = 1 + 1 from rfl, ← List.drop_drop, d1, eb]
      simp
    obtain ⟨f, hf⟩ := hbody
    rw [e1, eb, List.length_cons] at k2
    exact wt_bv (i := 2) f [] body _ hf 2 q d3 (Nat.le_refl _) (fun k _ _ => by rw [Nat.sub_self]; rfl) k y (by omega) (by omega) hy hy2
  · rw [a2] at h10
    obtain ⟨body, eb, -, hbody⟩ := hq.inv.2.2 h10
    have d3 : l.drop (tl_end l 1 + 1) = body ++ [] := by
      rw [e1, ← List.drop_drop, d2, eb]
      simp
    have e2 := (at_part d2 hq.cp.1).2
    rw [← e1] at e2
    obtain ⟨f, hf⟩ := hbody
    rw [e2, eb, List.length_cons] at k2
    exact wt_bv (i := tl_end l 1 + 1) f [] body _ hf _ [] d3 (Nat.le_refl _) (fun k _ _ => by rw [Nat.sub_self]; rfl) k y (by omega) (by omega) hy hy2
theorem lv_wt {S : st_S} {k a g : Nat} {x y : Int32} (hW : st_okW S) (h4 : st_ok4 S) (hg : g < (st_gl S).length) (ht : tc_there S x y k a) (hf : su_fit S k a g = true) : ∀ l ∈ lv_rows S k a g, WT (st_nt S) [] l 4 := by
  obtain ⟨-, hh⟩ := ht
  have w : WT (st_nt S) [] (su_m S g) 4 := by
    have := hW.h (h4.2 g hg).1
    rw [(h4.2 g hg).2] at this
    exact this
  rcases hh with ⟨rfl | rfl | rfl | rfl | rfl, rfl⟩ | ⟨rfl | rfl, -, ha⟩ | ⟨rfl, -, ha⟩ | ⟨rfl, -, ha⟩
  · intro l hl; cases hl
  · intro l hl; cases hl
  · simp only [su_fit, Bool.and_eq_true, beq_iff_eq] at hf
    obtain ⟨⟨⟨f1, f2⟩, f3⟩, f4⟩ := hf
    obtain ⟨u, p, q, -, -, hp, hq, d1, e1, d2, p1, p2, a1, a2, t1, t2⟩ := w.E f1
    rw [a1] at f2
    rw [a2] at f3
    obtain ⟨v, fa, xa, ep, hF, -, wf, wx⟩ := hp.inv.1 f2
    obtain ⟨v', gb, yb, eq, -, -, wg, wy⟩ := hq.inv.1 f3
    have d3 : (su_m S g).drop 2 = fa ++ (xa ++ q) := by
      rw [show 2 = 1 + 1 from rfl, ← List.drop_drop, d1, ep]
      simp
    have d4 := at_next d3
    have d5 : (su_m S g).drop (tl_end (su_m S g) 1 + 1) = gb ++ (yb ++ []) := by
      rw [e1, ← List.drop_drop, d2, eq]
      simp
    have d6 := at_next d5
    obtain ⟨r1, r2⟩ := at_part d3 wf.cp.1
    obtain ⟨r3, r4⟩ := at_part d5 wg.cp.1
    rw [at_hd d3 (cp_pos wf.cp.1), at_hd d5 (cp_pos wg.cp.1), wf.hd, wg.hd] at f4
    subst f4
    have r5 : tl_part (su_m S g) (tl_end (su_m S g) 2) = xa := by rw [r2]; exact (at_part d4 wx.cp.1).1
    have r6 : tl_part (su_m S g) (tl_end (su_m S g) (tl_end (su_m S g) 1 + 1)) = yb := by rw [r4]; exact (at_part d6 wy.cp.1).1
    show ∀ l ∈ [(9, 4) :: (tl_part (su_m S g) 2 ++ tl_part (su_m S g) (tl_end (su_m S g) 1 + 1)), (9, 4) :: (tl_part (su_m S g) (tl_end (su_m S g) 2) ++ tl_part (su_m S g) (tl_end (su_m S g) (tl_end (su_m S g) 1 + 1)))], WT (st_nt S) [] l 4
    rw [r1, r3, r5, r6]
    exact fm_cons (WT.eq wf wg) (fm_cons (WT.eq wx wy) (fun l hl => by cases hl))
  · intro l hl; cases hl
  · simp only [su_fit, Bool.and_eq_true, beq_iff_eq] at hf
    obtain ⟨u, p, q, -, -, hp, hq, -, -, -, p1, p2, -, -, t1, -⟩ := w.E hf.1
    rw [t1] at hf
    obtain ⟨-, e⟩ := hf
    subst e
    show ∀ l ∈ [tl_part (su_m S g) (tl_end (su_m S g) 1), tl_part (su_m S g) 1], WT (st_nt S) [] l 4
    rw [p1, p2]
    exact fm_cons hq (fm_cons hp (fun l hl => by cases hl))
  · simp only [su_fit, Bool.and_eq_true, beq_iff_eq] at hf
    obtain ⟨u, p, q, -, -, hp, hq, -, -, -, p1, p2, -, -, t1, -⟩ := w.E hf.1
    rw [t1] at hf
    have wx := hW.h ha
    rw [hf.2] at wx
    show ∀ l ∈ [(9, 4) :: (tl_part (su_m S g) 1 ++ st_tm S a), (9, 4) :: (st_tm S a ++ tl_part (su_m S g) (tl_end (su_m S g) 1))], WT (st_nt S) [] l 4
    rw [p1, p2]
    exact fm_cons (WT.eq hp wx) (fm_cons (WT.eq wx hq) (fun l hl => by cases hl))
  · simp only [su_fit, beq_iff_eq] at hf
    have wx := hW.h ha
    rw [hf] at wx
    exact fm_cons (WT.eq wx w) (fm_cons wx (fun l hl => by cases hl))
  · simp only [su_fit, Bool.and_eq_true, beq_iff_eq] at hf
    obtain ⟨⟨⟨⟨⟨f1, f2⟩, f3⟩, f4⟩, -⟩, -⟩ := hf
    obtain ⟨u, p, q, -, -, hp, hq, d1, e1, d2, p1, p2, a1, a2, t1, t2⟩ := w.E f1
    rw [a1] at f2
    rw [a2] at f3
    rw [t1] at f4
    obtain ⟨bp, ebp, -, hbp⟩ := hp.inv.2.2 f2
    obtain ⟨bq, ebq, -, hbq⟩ := hq.inv.2.2 f3
    have d3 : (su_m S g).drop 2 = bp ++ q := by
      rw [show 2 = 1 + 1 from rfl, ← List.drop_drop, d1, ebp]
      simp
    have d4 : (su_m S g).drop (tl_end (su_m S g) 1 + 1) = bq ++ [] := by
      rw [e1, ← List.drop_drop, d2, ebq]
      simp
    have e2 := (at_part d2 hq.cp.1).2
    rw [← e1] at e2
    have w1 := WT.fil (by_ := .inr a) d3 hbp (fun c z => by cases z) (fun c z => by cases z; exact ⟨ha, f4.symm⟩)
    have w2 := WT.fil (by_ := .inr a) d4 hbq (fun c z => by cases z) (fun c z => by cases z; exact ⟨ha, f4.symm⟩)
    have g1 : tl_fill (su_m S g) 1 (.inr a) = tl_sub (tl_of (su_m S g) 2 (.inr a)) (su_m S g) 2 bp.length := by
      unfold tl_fill
      rw [e1, ebp, List.length_cons, show 1 + (bp.length + 1) - (1 + 1) = bp.length by omega]
    have g2 : tl_fill (su_m S g) (tl_end (su_m S g) 1) (.inr a) = tl_sub (tl_of (su_m S g) (tl_end (su_m S g) 1 + 1) (.inr a)) (su_m S g) (tl_end (su_m S g) 1 + 1) bq.length := by
      unfold tl_fill
      rw [e2, ebq, List.length_cons, show tl_end (su_m S g) 1 + (bq.length + 1) - (tl_end (su_m S g) 1 + 1) = bq.length by omega]
    show ∀ l ∈ [(9, 4) :: (tl_fill (su_m S g) 1 (.inr a) ++ tl_fill (su_m S g) (tl_end (su_m S g) 1) (.inr a))], WT (st_nt S) [] l 4
    rw [g1, g2]
    exact fm_cons (WT.eq w1 w2) (fun l hl => by cases hl)
  · intro l hl; cases hl
