/-! ===== the law's contract gives the claim ===== -/
theorem whole_start {p : Program} {e : Env} {s : State} {m : MethodId} {below : List Frame} {meth : Method} {c : Code} (l : Launch) {b L : Nat} {xs : Nat → Int32} (hL : L ≤ 2560) (C0 : lw_At p s m meth c b L xs) : W p l e room_1 s m #[Value.ref b] below meth c s.heap [] 0 0 (lw_Z below #[Value.ref b] s) (entryFrame m ([Value.ref b] : List Value).toArray 4) := by
  obtain ⟨G, hT, h1, h2⟩ := sd_start C0
  obtain ⟨hx, hb, hr, hml, hown, hts, hX, hbl, hlocks, hgv⟩ := C0
  have e1 : G.2.2.2.1 = b := by rw [h2]
  have e2 : G.2.2.2.2.1 = L := by rw [h2]
  have K := la_start (G := G) (o := s.heap.size) (Q := fun r _ _ => r = some (.int 1)) (by rw [h1]; exact Nat.le_refl _) (by rw [e2]; exact hL) (fun _ => rfl)
  rw [e1] at K
  have hl := lv_entry [Value.ref b] (n := 4) (Nat.le_of_ble_eq_true rfl)
  rw [lg_entry_eq]
  refine K p l e room_1 (lw_Z below #[Value.ref b] s) s m _ below meth c s.heap [] _ ⟨hx, hb, hml, hown, fun w hw => hts w (sd_sub hw), hT, fun hi => absurd hi (by decide), ⟨by decide, by decide, by decide, by decide⟩, by rw [h1]; exact Nat.le_refl _, ?_⟩ ⟨rfl, by rw [h1]; exact Nat.le_refl _, fun a e he => by cases he⟩ va_S.rf hl
  intro r h nx H locs ls pc hq hR hS hret
  subst hq
  refine va_forget (fun q hq => ?_) (lw_ret hx hb hr hlocks hret.1)
  have := hS.2.2 q hq
  unfold sd_A at this
  rw [h1] at this
  exact this
