/-! ===== reads with a value given ===== -/
section FXV
variable {G : sd_G} {M : sd_M} {d mc ms : Nat} {Q : sd_Q} {pc : Nat} {al : List (Nat × Value)} {st : List Value} {nx k n : Nat} {S : fx_S} {o : Nat} {D : fx_D} {h0 : sd_H}
theorem fx_getiv {index x : Nat} {t : List fx_E} {v : Int32} (ci j : Nat) (hd : decode M.2.1 pc = .ok (.getfield index, 3)) (hw : sd_fl M.1.cls index ci j) (hs : S x = some (.inl (ci, t))) (ht : t[j]? = some (.inr false)) (hv : D.2.1 x j = v) (kk : sd_W G M d mc ms Q (pc + 3) al (.int v :: st) (fx_h G.1.2 S o D h0) nx k n) : sd_W G M d mc ms Q pc al (.ref (o + x) :: st) (fx_h G.1.2 S o D h0) nx k n := fx_geti ci j hd hw hs ht (by rw [hv]; exact kk)
theorem fx_ialdv {x N : Nat} {i v : Int32} (j : Nat) (hd : decode M.2.1 pc = .ok (.iaload, 1)) (hs : S x = some (.inr (.inl N))) (hi : i = nI j) (hj : j < N) (hN : N < 2 ^ 31) (hv : D.1 x j = v) (kk : sd_W G M d mc ms Q (pc + 1) al (.int v :: st) (fx_h G.1.2 S o D h0) nx k n) : sd_W G M d mc ms Q pc al (.int i :: .ref (o + x) :: st) (fx_h G.1.2 S o D h0) nx k n := fx_iald j hd hs hi hj hN (by rw [hv]; exact kk)
end FXV
/-- the model's cells: itself, and its arrays in their order -/
def mo_T : List fx_E := [.inl 1, .inl 2, .inl 3, .inl 4, .inl 5, .inr false, .inr false, .inr false, .inl 6, .inl 7, .inl 8, .inl 9, .inl 10, .inl 11, .inr false, .inl 12, .inr false, .inl 13, .inl 14, .inl 15, .inl 16, .inl 17, .inl 18, .inl 19, .inl 20, .inl 21, .inl 22, .inr false, .inr false, .inr false, .inl 23, .inl 24, .inl 25, .inl 26, .inl 27, .inl 28, .inl 29, .inr false]
def mo_L : List Nat := [0, 1728, 1728, 72, 8, 24, 40, 40, 240, 40, 40, 40, 12, 30, 30, 180, 30, 30, 30, 30, 30, 30, 30, 194, 194, 194, 194, 194, 194, 400]
def mo_S : fx_S := fun x => if x = 0 then some (.inl (10, mo_T)) else (mo_L[x]?).map (fun N => .inr (.inl N))
