/-! ===== a section of a row changes ===== -/
set_option maxRecDepth 20000 in
theorem gsp_cg {X Y : Nat → Int32} {p : Nat} (hp : p < 3) (hf : ∀ i, 68 ≤ i → i < 95 → Y i = X i) : ∀ k, k ≤ 3 → gsp Y p k = gsp X p k
  | 0, _ => rfl
  | k + 1, hk => by simp only [gsp]; rw [gsp_cg hp hf k (by omega), hf _ (by omega) (by omega)]
set_option maxRecDepth 20000 in
theorem wtT_cg {X Y : Nat → Int32} {x : Int32} (hf : ∀ i, 28 ≤ i → i < 68 → Y i = X i) : ∀ n, n ≤ 10 → wtT Y x n = wtT X x n
  | 0, _ => rfl
  | n + 1, hn => by simp only [wtT]; rw [wtT_cg hf n (by omega), hf _ (by omega) (by omega), hf _ (by omega) (by omega), hf _ (by omega) (by omega)]
set_option maxRecDepth 20000 in
theorem wtP_cg {X Y : Nat → Int32} {x z : Int32} (hf : ∀ i, 68 ≤ i → i < 95 → Y i = X i) : ∀ n, n ≤ 3 → wtP Y x z n = wtP X x z n
  | 0, _ => rfl
  | n + 1, hn => by simp only [wtP]; rw [wtP_cg hf n (by omega), hf _ (by omega) (by omega), gsp_cg (by omega) hf 3 (by omega)]
set_option maxRecDepth 20000 in
theorem VxB.ch {X Y : Nat → Int32} {nc nt np nw tm tB : Nat} (h : VxB X nc nt np nw tm tB) (hf : ∀ i, i < 331 → ¬ (8 ≤ i ∧ i < 28) → Y i = X i) (hs : ∀ c, c < nc → Bd (Y (8 + 4 * c)) 99 ∧ Bd (Y (8 + 4 * c + 1)) 4999 ∧ Bd (Y (8 + 4 * c + 2)) 9 ∧ Bd (Y (8 + 4 * c + 3)) 100000000) : VxB Y nc nt np nw tm tB := by
  obtain ⟨h1, h2, h3, h4, h5, h6, h7, h8, h9⟩ := h
  refine ⟨?_, h2, ?_, fun c hc => ?_, fun t ht => ?_, fun p hp => ?_, fun w hw9 => ?_, fun c hc => ?_, fun k hk c hc hc5 => ?_⟩
  · rw [hf 0 (by omega) (by omega), hf 1 (by omega) (by omega), hf 2 (by omega) (by omega), hf 3 (by omega) (by omega), hf 4 (by omega) (by omega), hf 7 (by omega) (by omega)]; exact h1
  · unfold VxL; rw [hf 5 (by omega) (by omega), hf 6 (by omega) (by omega)]; exact h3
  · exact hs c hc
  · unfold VxT; rw [hf _ (by omega) (by omega), hf _ (by omega) (by omega), hf _ (by omega) (by omega), hf _ (by omega) (by omega)]; exact h5 t ht
  · unfold VxP; rw [hf _ (by omega) (by omega), hf _ (by omega) (by omega), hf _ (by omega) (by omega), hf _ (by omega) (by omega), hf _ (by omega) (by omega), hf _ (by omega) (by omega), hf _ (by omega) (by omega), hf _ (by omega) (by omega), hf _ (by omega) (by omega)]; exact h6 p hp
  · unfold VxW; rw [hf _ (by omega) (by omega), hf _ (by omega) (by omega), hf _ (by omega) (by omega), hf _ (by omega) (by omega), hf _ (by omega) (by omega)]; exact h7 w hw9
  · rw [wtP_cg (fun i a1 a2 => hf i (by omega) (by omega)) np h2.2.2.1, wtT_cg (fun i a1 a2 => hf i (by omega) (by omega)) nt h2.2.1]; exact h8 c hc
  · rw [hf _ (by omega) (by omega)]; exact h9 k hk c hc hc5
theorem Vx.ch {X Y : Nat → Int32} {nc nt np nw tm : Nat} (h : Vx X nc nt np nw tm) (hf : ∀ i, i < 331 → ¬ (8 ≤ i ∧ i < 28) → Y i = X i) (hs : ∀ c, c < nc → Bd (Y (8 + 4 * c)) 99 ∧ Bd (Y (8 + 4 * c + 1)) 4999 ∧ Bd (Y (8 + 4 * c + 2)) 9 ∧ Bd (Y (8 + 4 * c + 3)) 100000000) : Vx Y nc nt np nw tm := VxB.ch h hf hs
set_option maxRecDepth 20000 in
theorem VxB.tu {X Y : Nat → Int32} {nc nt np nw tm tB : Nat} (h : VxB X nc nt np nw tm tB) (hf : ∀ i, i < 331 → ¬ (28 ≤ i ∧ i < 68) → Y i = X i) (hs : ∀ t, t < nt → VxT Y nc t) (hw : ∀ c, c < nc → Bd (wtP Y (nI c) (wtT Y (nI c) nt) np) 120) : VxB Y nc nt np nw tm tB := by
  obtain ⟨h1, h2, h3, h4, h5, h6, h7, h8, h9⟩ := h
  refine ⟨?_, h2, ?_, fun c hc => ?_, fun t ht => ?_, fun p hp => ?_, fun w hw9 => ?_, fun c hc => ?_, fun k hk c hc hc5 => ?_⟩
  · rw [hf 0 (by omega) (by omega), hf 1 (by omega) (by omega), hf 2 (by omega) (by omega), hf 3 (by omega) (by omega), hf 4 (by omega) (by omega), hf 7 (by omega) (by omega)]; exact h1
  · unfold VxL; rw [hf 5 (by omega) (by omega), hf 6 (by omega) (by omega)]; exact h3
  · rw [hf _ (by omega) (by omega), hf _ (by omega) (by omega), hf _ (by omega) (by omega), hf _ (by omega) (by omega)]; exact h4 c hc
  · exact hs t ht
  · unfold VxP; rw [hf _ (by omega) (by omega), hf _ (by omega) (by omega), hf _ (by omega) (by omega), hf _ (by omega) (by omega), hf _ (by omega) (by omega), hf _ (by omega) (by omega), hf _ (by omega) (by omega), hf _ (by omega) (by omega), hf _ (by omega) (by omega)]; exact h6 p hp
  · unfold VxW; rw [hf _ (by omega) (by omega), hf _ (by omega) (by omega), hf _ (by omega) (by omega), hf _ (by omega) (by omega), hf _ (by omega) (by omega)]; exact h7 w hw9
  · exact hw c hc
  · rw [hf _ (by omega) (by omega)]; exact h9 k hk c hc hc5
theorem Vx.tu {X Y : Nat → Int32} {nc nt np nw tm : Nat} (h : Vx X nc nt np nw tm) (hf : ∀ i, i < 331 → ¬ (28 ≤ i ∧ i < 68) → Y i = X i) (hs : ∀ t, t < nt → VxT Y nc t) (hw : ∀ c, c < nc → Bd (wtP Y (nI c) (wtT Y (nI c) nt) np) 120) : Vx Y nc nt np nw tm := VxB.tu h hf hs hw
set_option maxRecDepth 20000 in
theorem VxB.pu {X Y : Nat → Int32} {nc nt np nw tm tB : Nat} (h : VxB X nc nt np nw tm tB) (hf : ∀ i, i < 331 → ¬ (68 ≤ i ∧ i < 95) → Y i = X i) (hs : ∀ p, p < np → VxP Y nc tB p) (hw : ∀ c, c < nc → Bd (wtP Y (nI c) (wtT Y (nI c) nt) np) 120) : VxB Y nc nt np nw tm tB := by
  obtain ⟨h1, h2, h3, h4, h5, h6, h7, h8, h9⟩ := h
  refine ⟨?_, h2, ?_, fun c hc => ?_, fun t ht => ?_, fun p hp => ?_, fun w hw9 => ?_, fun c hc => ?_, fun k hk c hc hc5 => ?_⟩
  · rw [hf 0 (by omega) (by omega), hf 1 (by omega) (by omega), hf 2 (by omega) (by omega), hf 3 (by omega) (by omega), hf 4 (by omega) (by omega), hf 7 (by omega) (by omega)]; exact h1
  · unfold VxL; rw [hf 5 (by omega) (by omega), hf 6 (by omega) (by omega)]; exact h3
  · rw [hf _ (by omega) (by omega), hf _ (by omega) (by omega), hf _ (by omega) (by omega), hf _ (by omega) (by omega)]; exact h4 c hc
  · unfold VxT; rw [hf _ (by omega) (by omega), hf _ (by omega) (by omega), hf _ (by omega) (by omega), hf _ (by omega) (by omega)]; exact h5 t ht
  · exact hs p hp
  · unfold VxW; rw [hf _ (by omega) (by omega), hf _ (by omega) (by omega), hf _ (by omega) (by omega), hf _ (by omega) (by omega), hf _ (by omega) (by omega)]; exact h7 w hw9
  · exact hw c hc
  · rw [hf _ (by omega) (by omega)]; exact h9 k hk c hc hc5
theorem Vx.pu {X Y : Nat → Int32} {nc nt np nw tm : Nat} (h : Vx X nc nt np nw tm) (hf : ∀ i, i < 331 → ¬ (68 ≤ i ∧ i < 95) → Y i = X i) (hs : ∀ p, p < np → VxP Y nc tm p) (hw : ∀ c, c < nc → Bd (wtP Y (nI c) (wtT Y (nI c) nt) np) 120) : Vx Y nc nt np nw tm := VxB.pu h hf hs hw
set_option maxRecDepth 20000 in
theorem VxB.wa {X Y : Nat → Int32} {nc nt np nw tm tB : Nat} (h : VxB X nc nt np nw tm tB) (hf : ∀ i, i < 331 → ¬ (95 ≤ i ∧ i < 131) → Y i = X i) (hs : ∀ w, w < nw → VxW Y w) : VxB Y nc nt np nw tm tB := by
  obtain ⟨h1, h2, h3, h4, h5, h6, h7, h8, h9⟩ := h
  refine ⟨?_, h2, ?_, fun c hc => ?_, fun t ht => ?_, fun p hp => ?_, fun w hw9 => ?_, fun c hc => ?_, fun k hk c hc hc5 => ?_⟩
  · rw [hf 0 (by omega) (by omega), hf 1 (by omega) (by omega), hf 2 (by omega) (by omega), hf 3 (by omega) (by omega), hf 4 (by omega) (by omega), hf 7 (by omega) (by omega)]; exact h1
  · unfold VxL; rw [hf 5 (by omega) (by omega), hf 6 (by omega) (by omega)]; exact h3
  · rw [hf _ (by omega) (by omega), hf _ (by omega) (by omega), hf _ (by omega) (by omega), hf _ (by omega) (by omega)]; exact h4 c hc
  · unfold VxT; rw [hf _ (by omega) (by omega), hf _ (by omega) (by omega), hf _ (by omega) (by omega), hf _ (by omega) (by omega)]; exact h5 t ht
  · unfold VxP; rw [hf _ (by omega) (by omega), hf _ (by omega) (by omega), hf _ (by omega) (by omega), hf _ (by omega) (by omega), hf _ (by omega) (by omega), hf _ (by omega) (by omega), hf _ (by omega) (by omega), hf _ (by omega) (by omega), hf _ (by omega) (by omega)]; exact h6 p hp
  · exact hs w hw9
  · rw [wtP_cg (fun i a1 a2 => hf i (by omega) (by omega)) np h2.2.2.1, wtT_cg (fun i a1 a2 => hf i (by omega) (by omega)) nt h2.2.1]; exact h8 c hc
  · rw [hf _ (by omega) (by omega)]; exact h9 k hk c hc hc5
theorem Vx.wa {X Y : Nat → Int32} {nc nt np nw tm : Nat} (h : Vx X nc nt np nw tm) (hf : ∀ i, i < 331 → ¬ (95 ≤ i ∧ i < 131) → Y i = X i) (hs : ∀ w, w < nw → VxW Y w) : Vx Y nc nt np nw tm := VxB.wa h hf hs
set_option maxRecDepth 20000 in
theorem VxB.lk {X Y : Nat → Int32} {nc nt np nw tm tB : Nat} (h : VxB X nc nt np nw tm tB) (hf : ∀ i, i < 331 → ¬ (5 ≤ i ∧ i < 7) → Y i = X i) (hs : VxL Y nc nt) : VxB Y nc nt np nw tm tB := by
  obtain ⟨h1, h2, h3, h4, h5, h6, h7, h8, h9⟩ := h
  refine ⟨?_, h2, ?_, fun c hc => ?_, fun t ht => ?_, fun p hp => ?_, fun w hw9 => ?_, fun c hc => ?_, fun k hk c hc hc5 => ?_⟩
  · rw [hf 0 (by omega) (by omega), hf 1 (by omega) (by omega), hf 2 (by omega) (by omega), hf 3 (by omega) (by omega), hf 4 (by omega) (by omega), hf 7 (by omega) (by omega)]; exact h1
  · exact hs
  · rw [hf _ (by omega) (by omega), hf _ (by omega) (by omega), hf _ (by omega) (by omega), hf _ (by omega) (by omega)]; exact h4 c hc
  · unfold VxT; rw [hf _ (by omega) (by omega), hf _ (by omega) (by omega), hf _ (by omega) (by omega), hf _ (by omega) (by omega)]; exact h5 t ht
  · unfold VxP; rw [hf _ (by omega) (by omega), hf _ (by omega) (by omega), hf _ (by omega) (by omega), hf _ (by omega) (by omega), hf _ (by omega) (by omega), hf _ (by omega) (by omega), hf _ (by omega) (by omega), hf _ (by omega) (by omega), hf _ (by omega) (by omega)]; exact h6 p hp
  · unfold VxW; rw [hf _ (by omega) (by omega), hf _ (by omega) (by omega), hf _ (by omega) (by omega), hf _ (by omega) (by omega), hf _ (by omega) (by omega)]; exact h7 w hw9
  · rw [wtP_cg (fun i a1 a2 => hf i (by omega) (by omega)) np h2.2.2.1, wtT_cg (fun i a1 a2 => hf i (by omega) (by omega)) nt h2.2.1]; exact h8 c hc
  · rw [hf _ (by omega) (by omega)]; exact h9 k hk c hc hc5
theorem Vx.lk {X Y : Nat → Int32} {nc nt np nw tm : Nat} (h : Vx X nc nt np nw tm) (hf : ∀ i, i < 331 → ¬ (5 ≤ i ∧ i < 7) → Y i = X i) (hs : VxL Y nc nt) : Vx Y nc nt np nw tm := VxB.lk h hf hs
set_option maxRecDepth 20000 in
theorem Lr.ch {M N : Me} {b : Nat} {X Y : Nat → Int32} {nc nt np nw tm : Nat} (h : Lr M b X nc nt np nw tm) (hc : nc ≤ 5) (ht : nt ≤ 10) (hp : np ≤ 3) (hw : nw ≤ 6) (hf : ∀ i, i < 331 → ¬ (8 ≤ i ∧ i < 28) → Y i = X i) (hg : ∀ a, b ≤ a → a < b + 30 → ¬ (b + 2 ≤ a ∧ a < b + 7) → N.1 a = M.1 a) (hs : ∀ c, c < nc → ∀ j, j < 3 → N.1 (b + 2 + c) j = Y (8 + 4 * c + j)) (hs2 : ∀ c, c < nc → N.1 (b + 2 + c) 3 + nI 1 = Y (8 + 4 * c + 3)) : Lr N b Y nc nt np nw tm := by
  obtain ⟨h0, h1, h2, h3, h4, h5, h6, h7⟩ := h
  refine ⟨h0, ?_, fun c hc1 j hj => ?_, fun c hc1 => ?_, fun t ht1 j hj => ?_, fun p hp1 j hj => ?_, fun w hw1 j hj => ?_, fun k hk c hc1 => ?_⟩
  · rw [hg b (by omega) (by omega) (by omega), hf 5 (by omega) (by omega), hf 6 (by omega) (by omega)]; exact h1
  · exact hs c hc1 j hj
  · exact hs2 c hc1
  · rw [hg _ (by omega) (by omega) (by omega), hf _ (by omega) (by omega)]; exact h4 t ht1 j hj
  · rw [hg _ (by omega) (by omega) (by omega), hf _ (by omega) (by omega)]; exact h5 p hp1 j hj
  · rw [hg _ (by omega) (by omega) (by omega), hf _ (by omega) (by omega)]; exact h6 w hw1 j hj
  · rw [hg _ (by omega) (by omega) (by omega), hf _ (by omega) (by omega)]; exact h7 k hk c hc1
set_option maxRecDepth 20000 in
theorem Lr.tu {M N : Me} {b : Nat} {X Y : Nat → Int32} {nc nt np nw tm : Nat} (h : Lr M b X nc nt np nw tm) (hc : nc ≤ 5) (ht : nt ≤ 10) (hp : np ≤ 3) (hw : nw ≤ 6) (hf : ∀ i, i < 331 → ¬ (28 ≤ i ∧ i < 68) → Y i = X i) (hg : ∀ a, b ≤ a → a < b + 30 → ¬ (b + 8 ≤ a ∧ a < b + 18) → N.1 a = M.1 a) (hs : ∀ t, t < nt → ∀ j, j < 4 → N.1 (b + 8 + t) j = Y (28 + 4 * t + j)) : Lr N b Y nc nt np nw tm := by
  obtain ⟨h0, h1, h2, h3, h4, h5, h6, h7⟩ := h
  refine ⟨h0, ?_, fun c hc1 j hj => ?_, fun c hc1 => ?_, fun t ht1 j hj => ?_, fun p hp1 j hj => ?_, fun w hw1 j hj => ?_, fun k hk c hc1 => ?_⟩
  · rw [hg b (by omega) (by omega) (by omega), hf 5 (by omega) (by omega), hf 6 (by omega) (by omega)]; exact h1
  · rw [hg _ (by omega) (by omega) (by omega), hf _ (by omega) (by omega)]; exact h2 c hc1 j hj
  · rw [hg _ (by omega) (by omega) (by omega), hf _ (by omega) (by omega)]; exact h3 c hc1
  · exact hs t ht1 j hj
  · rw [hg _ (by omega) (by omega) (by omega), hf _ (by omega) (by omega)]; exact h5 p hp1 j hj
  · rw [hg _ (by omega) (by omega) (by omega), hf _ (by omega) (by omega)]; exact h6 w hw1 j hj
  · rw [hg _ (by omega) (by omega) (by omega), hf _ (by omega) (by omega)]; exact h7 k hk c hc1
set_option maxRecDepth 20000 in
theorem Lr.pu {M N : Me} {b : Nat} {X Y : Nat → Int32} {nc nt np nw tm : Nat} (h : Lr M b X nc nt np nw tm) (hc : nc ≤ 5) (ht : nt ≤ 10) (hp : np ≤ 3) (hw : nw ≤ 6) (hf : ∀ i, i < 331 → ¬ (68 ≤ i ∧ i < 95) → Y i = X i) (hg : ∀ a, b ≤ a → a < b + 30 → ¬ (b + 19 ≤ a ∧ a < b + 22) → N.1 a = M.1 a) (hs : ∀ p, p < np → ∀ j, j < 9 → N.1 (b + 19 + p) j = Y (68 + 9 * p + j)) : Lr N b Y nc nt np nw tm := by
  obtain ⟨h0, h1, h2, h3, h4, h5, h6, h7⟩ := h
  refine ⟨h0, ?_, fun c hc1 j hj => ?_, fun c hc1 => ?_, fun t ht1 j hj => ?_, fun p hp1 j hj => ?_, fun w hw1 j hj => ?_, fun k hk c hc1 => ?_⟩
  · rw [hg b (by omega) (by omega) (by omega), hf 5 (by omega) (by omega), hf 6 (by omega) (by omega)]; exact h1
  · rw [hg _ (by omega) (by omega) (by omega), hf _ (by omega) (by omega)]; exact h2 c hc1 j hj
  · rw [hg _ (by omega) (by omega) (by omega), hf _ (by omega) (by omega)]; exact h3 c hc1
  · rw [hg _ (by omega) (by omega) (by omega), hf _ (by omega) (by omega)]; exact h4 t ht1 j hj
  · exact hs p hp1 j hj
  · rw [hg _ (by omega) (by omega) (by omega), hf _ (by omega) (by omega)]; exact h6 w hw1 j hj
  · rw [hg _ (by omega) (by omega) (by omega), hf _ (by omega) (by omega)]; exact h7 k hk c hc1
set_option maxRecDepth 20000 in
theorem Lr.wa {M N : Me} {b : Nat} {X Y : Nat → Int32} {nc nt np nw tm : Nat} (h : Lr M b X nc nt np nw tm) (hc : nc ≤ 5) (ht : nt ≤ 10) (hp : np ≤ 3) (hw : nw ≤ 6) (hf : ∀ i, i < 331 → ¬ (95 ≤ i ∧ i < 131) → Y i = X i) (hg : ∀ a, b ≤ a → a < b + 30 → ¬ (b + 23 ≤ a ∧ a < b + 29) → N.1 a = M.1 a) (hs : ∀ w, w < nw → ∀ j, j < 6 → N.1 (b + 23 + w) j = Y (95 + 6 * w + j)) : Lr N b Y nc nt np nw tm := by
  obtain ⟨h0, h1, h2, h3, h4, h5, h6, h7⟩ := h
  refine ⟨h0, ?_, fun c hc1 j hj => ?_, fun c hc1 => ?_, fun t ht1 j hj => ?_, fun p hp1 j hj => ?_, fun w hw1 j hj => ?_, fun k hk c hc1 => ?_⟩
  · rw [hg b (by omega) (by omega) (by omega), hf 5 (by omega) (by omega), hf 6 (by omega) (by omega)]; exact h1
  · rw [hg _ (by omega) (by omega) (by omega), hf _ (by omega) (by omega)]; exact h2 c hc1 j hj
  · rw [hg _ (by omega) (by omega) (by omega), hf _ (by omega) (by omega)]; exact h3 c hc1
  · rw [hg _ (by omega) (by omega) (by omega), hf _ (by omega) (by omega)]; exact h4 t ht1 j hj
  · rw [hg _ (by omega) (by omega) (by omega), hf _ (by omega) (by omega)]; exact h5 p hp1 j hj
  · exact hs w hw1 j hj
  · rw [hg _ (by omega) (by omega) (by omega), hf _ (by omega) (by omega)]; exact h7 k hk c hc1
set_option maxRecDepth 20000 in
theorem Lr.lk {M N : Me} {b : Nat} {X Y : Nat → Int32} {nc nt np nw tm : Nat} (h : Lr M b X nc nt np nw tm) (hc : nc ≤ 5) (ht : nt ≤ 10) (hp : np ≤ 3) (hw : nw ≤ 6) (hf : ∀ i, i < 331 → ¬ (5 ≤ i ∧ i < 7) → Y i = X i) (hg : ∀ a, b ≤ a → a < b + 30 → ¬ (b + 0 ≤ a ∧ a < b + 1) → N.1 a = M.1 a) (hs : N.1 b 5 = Y 5 ∧ N.1 b 6 = Y 6) (hs2 : ∀ j, j < 5 → N.1 b j = M.1 b j) : Lr N b Y nc nt np nw tm := by
  obtain ⟨h0, h1, h2, h3, h4, h5, h6, h7⟩ := h
  refine ⟨h0, ?_, fun c hc1 j hj => ?_, fun c hc1 => ?_, fun t ht1 j hj => ?_, fun p hp1 j hj => ?_, fun w hw1 j hj => ?_, fun k hk c hc1 => ?_⟩
  · rw [hs2 0 (by omega), hs2 1 (by omega), hs2 2 (by omega), hs2 3 (by omega), hs2 4 (by omega)]; exact ⟨h1.1, h1.2.1, h1.2.2.1, h1.2.2.2.1, h1.2.2.2.2.1, hs.1, hs.2⟩
  · rw [hg _ (by omega) (by omega) (by omega), hf _ (by omega) (by omega)]; exact h2 c hc1 j hj
  · rw [hg _ (by omega) (by omega) (by omega), hf _ (by omega) (by omega)]; exact h3 c hc1
  · rw [hg _ (by omega) (by omega) (by omega), hf _ (by omega) (by omega)]; exact h4 t ht1 j hj
  · rw [hg _ (by omega) (by omega) (by omega), hf _ (by omega) (by omega)]; exact h5 p hp1 j hj
  · rw [hg _ (by omega) (by omega) (by omega), hf _ (by omega) (by omega)]; exact h6 w hw1 j hj
  · rw [hg _ (by omega) (by omega) (by omega), hf _ (by omega) (by omega)]; exact h7 k hk c hc1
set_option maxRecDepth 20000 in
theorem bw_ex {x : Int32} {n : Nat} (h : bw x 0 n = true) : ∃ j, j ≤ n ∧ x = nI j := by
  simp only [bw, Bool.and_eq_true, decide_eq_true_eq] at h
  refine ⟨x.toInt.toNat, by omega, ?_⟩
  apply Int32.toInt_inj.mp
  have := x.toInt_lt
  rw [nI_toInt (by omega)]
  omega
set_option maxRecDepth 20000 in
theorem inr_ex {x : Int32} {n : Nat} (h : inr x n = true) : ∃ j, j < n ∧ x = nI j := by
  rw [inr_bw] at h
  simp only [bw, Bool.and_eq_true, decide_eq_true_eq] at h
  refine ⟨x.toInt.toNat, by omega, ?_⟩
  apply Int32.toInt_inj.mp
  have := x.toInt_lt
  rw [nI_toInt (by omega)]
  omega
set_option maxRecDepth 20000 in
theorem c_within {a b d : Int32} {M : Me} : DX7_within [.int a, .int b, .int d] M = some (bw a b.toInt d.toInt, M) := by
  have e : bw a b.toInt d.toInt = (cge a b && cle a d) := by
    unfold bw cge cle
    simp only [Int32.le_iff_toInt_le]
  rw [e]
  simp -implicitDefEqProofs (disch := omega) [DX7_within, EX7_within, kp_, bsome, bnone, gi_s, gj_s, gr_s, gv_s, ik_, jk_, il_, jl_, rl_, i2_, i2_a, i2_b, j2_, j2_a, j2_b, i2d_, i2d_a, i2d_b, j2d_, j2d_a, j2d_b, i1_, i1_a, j1_, j1_a, i2l_, i2l_a, l2i_, l2i_a, fgi_, fgi_a, fgj_, fgj_a, fgr_, fgr_a, iald_, iald_a, iald_b, zald_, zald_a, zald_b, jald_, jald_a, jald_b, rald_, rald_a, rald_b, alen_, alen_a, sald_, sald_a, ic_, ic_a, jc_, jc_a, bc_, bc_a, bc_b, bj_, bj_a, bj_b, bz_, bz_a, band_, band_a, bor_, bor_a, bnot_, bnot_a, anil_, ai_, ai_a, ai_b, aj_, aj_a, aj_b, ar_, ar_a, ar_b, kb2i_, cvi_, cvi_a, cvi_b, cvj_, cvj_a, cvj_b, cvz_, cvz_a, cvz_b, csi_, csi_a, csj_, csj_a, csz_, csz_a, snop_, sseq_, sseq_n, sseq_s, sif_, sif_a, scut_, scut_a, ssi_, ssi_a, ssj_, ssj_a, ssr_, ssr_a, sinc_, sinc_a, sret_, sret_a, sretj_, sretj_a, sretv_, spop_, spop_a, kc_scv_, scv_, scv_a, scv_b, scs_, scs_a, fpi_, fpi_a, fpi_b, fpj_, fpj_a, fpj_b, foi_, foi_a, foi_b, foj_, foj_a, foj_b, aii_, aii_a, aii_b, aii_c, aiz_, aiz_a, aiz_b, aiz_c, aij_, aij_a, aij_b, aij_c, aoi_, aoi_a, aoi_b, aoi_c, aoj_, aoj_a, aoj_b, aoj_c, scopy_, scopy_a, scopy_b, scopy_c, scopy_d, scopy_e, ssw_, ssw_a, sel_n, sel_c, mfi_, mfi_a, mfj_, mfj_a, mfz_, mfz_a, kb_mfv_, mfv_, mfv_a, cut, lset, lset2, isL, Value.category, ent, entn, if_some, if_pair, if_cons, if_int, if_long, if_ref, ite_self, gz_b, ↓icb, ↓icb2, b2i_ne, ge0, ge1, ge2, ge3, ge4, ge5, ge6, ge7, ge8, ge9, ge10, ge11, ge12, ge13, ge14, lit32, nI_add, pk_mul, clt_nI, cle_nI, cgt_nI, cge_nI, ceq_nI, cne_nI, inr_nI, nI_clamp, nI_eq, nI_leI, nI_ltI]
def Act (F G : Fi) (args : List Value) (M : Me) : Prop := ∃ r M1 M2, F (.ref 0 :: args) M = some (r, M1) ∧ G (.ref 492 :: args) M1 = some (r, M2) ∧ (∃ nc nt np nw tm o u, Core M2 nc nt np nw tm o u) ∧ BalSame M M2
set_option maxRecDepth 20000 in
theorem nI_tm1 {n : Nat} (h : n < 2 ^ 31) : (nI n - nI 1).toInt = (n : Int) - 1 := by
  rw [Int32.toInt_sub, nI_toInt h, show (nI 1).toInt = 1 from by decide]
  exact bm32 (by omega) (by omega)
theorem bmJ {n : Nat} (h : n < 2 ^ 31) : ((n : Int) - 1).bmod 4294967296 = (n : Int) - 1 := bm32 (by omega) (by omega)
section
variable {M : Me} {n : Nat} {x : Int32}
set_option maxRecDepth 20000 in
theorem c_isChamber (hn : M.1 1 0 = nI n) (h : n < 2 ^ 31) : DX7_isChamber [.ref 0, .int x] M = some (inr x n, M) := by
  rw [inr_bw]
  simp -implicitDefEqProofs (disch := omega) [DX7_isChamber, EX7_isChamber, kp_, bsome, bnone, gi_s, gj_s, gr_s, gv_s, ik_, jk_, il_, jl_, rl_, i2_, i2_a, i2_b, j2_, j2_a, j2_b, i2d_, i2d_a, i2d_b, j2d_, j2d_a, j2d_b, i1_, i1_a, j1_, j1_a, i2l_, i2l_a, l2i_, l2i_a, fgi_, fgi_a, fgj_, fgj_a, fgr_, fgr_a, iald_, iald_a, iald_b, zald_, zald_a, zald_b, jald_, jald_a, jald_b, rald_, rald_a, rald_b, alen_, alen_a, sald_, sald_a, ic_, ic_a, jc_, jc_a, bc_, bc_a, bc_b, bj_, bj_a, bj_b, bz_, bz_a, band_, band_a, bor_, bor_a, bnot_, bnot_a, anil_, ai_, ai_a, ai_b, aj_, aj_a, aj_b, ar_, ar_a, ar_b, kb2i_, cvi_, cvi_a, cvi_b, cvj_, cvj_a, cvj_b, cvz_, cvz_a, cvz_b, csi_, csi_a, csj_, csj_a, csz_, csz_a, snop_, sseq_, sseq_n, sseq_s, sif_, sif_a, scut_, scut_a, ssi_, ssi_a, ssj_, ssj_a, ssr_, ssr_a, sinc_, sinc_a, sret_, sret_a, sretj_, sretj_a, sretv_, spop_, spop_a, kc_scv_, scv_, scv_a, scv_b, scs_, scs_a, fpi_, fpi_a, fpi_b, fpj_, fpj_a, fpj_b, foi_, foi_a, foi_b, foj_, foj_a, foj_b, aii_, aii_a, aii_b, aii_c, aiz_, aiz_a, aiz_b, aiz_c, aij_, aij_a, aij_b, aij_c, aoi_, aoi_a, aoi_b, aoi_c, aoj_, aoj_a, aoj_b, aoj_c, scopy_, scopy_a, scopy_b, scopy_c, scopy_d, scopy_e, ssw_, ssw_a, sel_n, sel_c, mfi_, mfi_a, mfj_, mfj_a, mfz_, mfz_a, kb_mfv_, mfv_, mfv_a, cut, lset, lset2, isL, Value.category, ent, entn, if_some, if_pair, if_cons, if_int, if_long, if_ref, ite_self, gz_b, ↓icb, ↓icb2, b2i_ne, ge0, ge1, ge2, ge3, ge4, ge5, ge6, ge7, ge8, ge9, ge10, ge11, ge12, ge13, ge14, lit32, nI_add, pk_mul, clt_nI, cle_nI, cgt_nI, cge_nI, ceq_nI, cne_nI, inr_nI, nI_clamp, nI_eq, nI_leI, nI_ltI, k0, f0_0, k1_, hn, c_within, bmJ, nI_toInt]
set_option maxRecDepth 20000 in
theorem c_isTube (hn : M.1 1 1 = nI n) (h : n < 2 ^ 31) : DX7_isTube [.ref 0, .int x] M = some (inr x n, M) := by
  rw [inr_bw]
  simp -implicitDefEqProofs (disch := omega) [DX7_isTube, EX7_isTube, kp_, bsome, bnone, gi_s, gj_s, gr_s, gv_s, ik_, jk_, il_, jl_, rl_, i2_, i2_a, i2_b, j2_, j2_a, j2_b, i2d_, i2d_a, i2d_b, j2d_, j2d_a, j2d_b, i1_, i1_a, j1_, j1_a, i2l_, i2l_a, l2i_, l2i_a, fgi_, fgi_a, fgj_, fgj_a, fgr_, fgr_a, iald_, iald_a, iald_b, zald_, zald_a, zald_b, jald_, jald_a, jald_b, rald_, rald_a, rald_b, alen_, alen_a, sald_, sald_a, ic_, ic_a, jc_, jc_a, bc_, bc_a, bc_b, bj_, bj_a, bj_b, bz_, bz_a, band_, band_a, bor_, bor_a, bnot_, bnot_a, anil_, ai_, ai_a, ai_b, aj_, aj_a, aj_b, ar_, ar_a, ar_b, kb2i_, cvi_, cvi_a, cvi_b, cvj_, cvj_a, cvj_b, cvz_, cvz_a, cvz_b, csi_, csi_a, csj_, csj_a, csz_, csz_a, snop_, sseq_, sseq_n, sseq_s, sif_, sif_a, scut_, scut_a, ssi_, ssi_a, ssj_, ssj_a, ssr_, ssr_a, sinc_, sinc_a, sret_, sret_a, sretj_, sretj_a, sretv_, spop_, spop_a, kc_scv_, scv_, scv_a, scv_b, scs_, scs_a, fpi_, fpi_a, fpi_b, fpj_, fpj_a, fpj_b, foi_, foi_a, foi_b, foj_, foj_a, foj_b, aii_, aii_a, aii_b, aii_c, aiz_, aiz_a, aiz_b, aiz_c, aij_, aij_a, aij_b, aij_c, aoi_, aoi_a, aoi_b, aoi_c, aoj_, aoj_a, aoj_b, aoj_c, scopy_, scopy_a, scopy_b, scopy_c, scopy_d, scopy_e, ssw_, ssw_a, sel_n, sel_c, mfi_, mfi_a, mfj_, mfj_a, mfz_, mfz_a, kb_mfv_, mfv_, mfv_a, cut, lset, lset2, isL, Value.category, ent, entn, if_some, if_pair, if_cons, if_int, if_long, if_ref, ite_self, gz_b, ↓icb, ↓icb2, b2i_ne, ge0, ge1, ge2, ge3, ge4, ge5, ge6, ge7, ge8, ge9, ge10, ge11, ge12, ge13, ge14, lit32, nI_add, pk_mul, clt_nI, cle_nI, cgt_nI, cge_nI, ceq_nI, cne_nI, inr_nI, nI_clamp, nI_eq, nI_leI, nI_ltI, k0, f0_0, k1_, hn, c_within, bmJ, nI_toInt]
set_option maxRecDepth 20000 in
theorem c_isPump (hn : M.1 1 2 = nI n) (h : n < 2 ^ 31) : DX7_isPump [.ref 0, .int x] M = some (inr x n, M) := by
  rw [inr_bw]
  simp -implicitDefEqProofs (disch := omega) [DX7_isPump, EX7_isPump, kp_, bsome, bnone, gi_s, gj_s, gr_s, gv_s, ik_, jk_, il_, jl_, rl_, i2_, i2_a, i2_b, j2_, j2_a, j2_b, i2d_, i2d_a, i2d_b, j2d_, j2d_a, j2d_b, i1_, i1_a, j1_, j1_a, i2l_, i2l_a, l2i_, l2i_a, fgi_, fgi_a, fgj_, fgj_a, fgr_, fgr_a, iald_, iald_a, iald_b, zald_, zald_a, zald_b, jald_, jald_a, jald_b, rald_, rald_a, rald_b, alen_, alen_a, sald_, sald_a, ic_, ic_a, jc_, jc_a, bc_, bc_a, bc_b, bj_, bj_a, bj_b, bz_, bz_a, band_, band_a, bor_, bor_a, bnot_, bnot_a, anil_, ai_, ai_a, ai_b, aj_, aj_a, aj_b, ar_, ar_a, ar_b, kb2i_, cvi_, cvi_a, cvi_b, cvj_, cvj_a, cvj_b, cvz_, cvz_a, cvz_b, csi_, csi_a, csj_, csj_a, csz_, csz_a, snop_, sseq_, sseq_n, sseq_s, sif_, sif_a, scut_, scut_a, ssi_, ssi_a, ssj_, ssj_a, ssr_, ssr_a, sinc_, sinc_a, sret_, sret_a, sretj_, sretj_a, sretv_, spop_, spop_a, kc_scv_, scv_, scv_a, scv_b, scs_, scs_a, fpi_, fpi_a, fpi_b, fpj_, fpj_a, fpj_b, foi_, foi_a, foi_b, foj_, foj_a, foj_b, aii_, aii_a, aii_b, aii_c, aiz_, aiz_a, aiz_b, aiz_c, aij_, aij_a, aij_b, aij_c, aoi_, aoi_a, aoi_b, aoi_c, aoj_, aoj_a, aoj_b, aoj_c, scopy_, scopy_a, scopy_b, scopy_c, scopy_d, scopy_e, ssw_, ssw_a, sel_n, sel_c, mfi_, mfi_a, mfj_, mfj_a, mfz_, mfz_a, kb_mfv_, mfv_, mfv_a, cut, lset, lset2, isL, Value.category, ent, entn, if_some, if_pair, if_cons, if_int, if_long, if_ref, ite_self, gz_b, ↓icb, ↓icb2, b2i_ne, ge0, ge1, ge2, ge3, ge4, ge5, ge6, ge7, ge8, ge9, ge10, ge11, ge12, ge13, ge14, lit32, nI_add, pk_mul, clt_nI, cle_nI, cgt_nI, cge_nI, ceq_nI, cne_nI, inr_nI, nI_clamp, nI_eq, nI_leI, nI_ltI, k0, f0_0, k1_, hn, c_within, bmJ, nI_toInt]
set_option maxRecDepth 20000 in
theorem c_isWatch (hn : M.1 1 3 = nI n) (h : n < 2 ^ 31) : DX7_isWatch [.ref 0, .int x] M = some (inr x n, M) := by
  rw [inr_bw]
  simp -implicitDefEqProofs (disch := omega) [DX7_isWatch, EX7_isWatch, kp_, bsome, bnone, gi_s, gj_s, gr_s, gv_s, ik_, jk_, il_, jl_, rl_, i2_, i2_a, i2_b, j2_, j2_a, j2_b, i2d_, i2d_a, i2d_b, j2d_, j2d_a, j2d_b, i1_, i1_a, j1_, j1_a, i2l_, i2l_a, l2i_, l2i_a, fgi_, fgi_a, fgj_, fgj_a, fgr_, fgr_a, iald_, iald_a, iald_b, zald_, zald_a, zald_b, jald_, jald_a, jald_b, rald_, rald_a, rald_b, alen_, alen_a, sald_, sald_a, ic_, ic_a, jc_, jc_a, bc_, bc_a, bc_b, bj_, bj_a, bj_b, bz_, bz_a, band_, band_a, bor_, bor_a, bnot_, bnot_a, anil_, ai_, ai_a, ai_b, aj_, aj_a, aj_b, ar_, ar_a, ar_b, kb2i_, cvi_, cvi_a, cvi_b, cvj_, cvj_a, cvj_b, cvz_, cvz_a, cvz_b, csi_, csi_a, csj_, csj_a, csz_, csz_a, snop_, sseq_, sseq_n, sseq_s, sif_, sif_a, scut_, scut_a, ssi_, ssi_a, ssj_, ssj_a, ssr_, ssr_a, sinc_, sinc_a, sret_, sret_a, sretj_, sretj_a, sretv_, spop_, spop_a, kc_scv_, scv_, scv_a, scv_b, scs_, scs_a, fpi_, fpi_a, fpi_b, fpj_, fpj_a, fpj_b, foi_, foi_a, foi_b, foj_, foj_a, foj_b, aii_, aii_a, aii_b, aii_c, aiz_, aiz_a, aiz_b, aiz_c, aij_, aij_a, aij_b, aij_c, aoi_, aoi_a, aoi_b, aoi_c, aoj_, aoj_a, aoj_b, aoj_c, scopy_, scopy_a, scopy_b, scopy_c, scopy_d, scopy_e, ssw_, ssw_a, sel_n, sel_c, mfi_, mfi_a, mfj_, mfj_a, mfz_, mfz_a, kb_mfv_, mfv_, mfv_a, cut, lset, lset2, isL, Value.category, ent, entn, if_some, if_pair, if_cons, if_int, if_long, if_ref, ite_self, gz_b, ↓icb, ↓icb2, b2i_ne, ge0, ge1, ge2, ge3, ge4, ge5, ge6, ge7, ge8, ge9, ge10, ge11, ge12, ge13, ge14, lit32, nI_add, pk_mul, clt_nI, cle_nI, cgt_nI, cge_nI, ceq_nI, cne_nI, inr_nI, nI_clamp, nI_eq, nI_leI, nI_ltI, k0, f0_0, k1_, hn, c_within, bmJ, nI_toInt]
end
set_option maxRecDepth 20000 in
theorem c_flip {M : Me} {b a i : Nat} (ha : kd a = 8) (hl : i < ln a) (hl2 : ln a ≤ 1000) : DX1_flip [.ref b, .ref a, .int (nI i)] M = some (nI 1 - M.1 a i, wi M a i (nI 1 - M.1 a i)) := by
  have e : (wi M a i (nI 1 - M.1 a i)).1 a i = nI 1 - M.1 a i := by simp [wi]
  simp -implicitDefEqProofs (disch := omega) [DX1_flip, EX1_flip, kp_, bsome, bnone, gi_s, gj_s, gr_s, gv_s, ik_, jk_, il_, jl_, rl_, i2_, i2_a, i2_b, j2_, j2_a, j2_b, i2d_, i2d_a, i2d_b, j2d_, j2d_a, j2d_b, i1_, i1_a, j1_, j1_a, i2l_, i2l_a, l2i_, l2i_a, fgi_, fgi_a, fgj_, fgj_a, fgr_, fgr_a, iald_, iald_a, iald_b, zald_, zald_a, zald_b, jald_, jald_a, jald_b, rald_, rald_a, rald_b, alen_, alen_a, sald_, sald_a, ic_, ic_a, jc_, jc_a, bc_, bc_a, bc_b, bj_, bj_a, bj_b, bz_, bz_a, band_, band_a, bor_, bor_a, bnot_, bnot_a, anil_, ai_, ai_a, ai_b, aj_, aj_a, aj_b, ar_, ar_a, ar_b, kb2i_, cvi_, cvi_a, cvi_b, cvj_, cvj_a, cvj_b, cvz_, cvz_a, cvz_b, csi_, csi_a, csj_, csj_a, csz_, csz_a, snop_, sseq_, sseq_n, sseq_s, sif_, sif_a, scut_, scut_a, ssi_, ssi_a, ssj_, ssj_a, ssr_, ssr_a, sinc_, sinc_a, sret_, sret_a, sretj_, sretj_a, sretv_, spop_, spop_a, kc_scv_, scv_, scv_a, scv_b, scs_, scs_a, fpi_, fpi_a, fpi_b, fpj_, fpj_a, fpj_b, foi_, foi_a, foi_b, foj_, foj_a, foj_b, aii_, aii_a, aii_b, aii_c, aiz_, aiz_a, aiz_b, aiz_c, aij_, aij_a, aij_b, aij_c, aoi_, aoi_a, aoi_b, aoi_c, aoj_, aoj_a, aoj_b, aoj_c, scopy_, scopy_a, scopy_b, scopy_c, scopy_d, scopy_e, ssw_, ssw_a, sel_n, sel_c, mfi_, mfi_a, mfj_, mfj_a, mfz_, mfz_a, kb_mfv_, mfv_, mfv_a, cut, lset, lset2, isL, Value.category, ent, entn, if_some, if_pair, if_cons, if_int, if_long, if_ref, ite_self, gz_b, ↓icb, ↓icb2, b2i_ne, ge0, ge1, ge2, ge3, ge4, ge5, ge6, ge7, ge8, ge9, ge10, ge11, ge12, ge13, ge14, lit32, nI_add, pk_mul, clt_nI, cle_nI, cgt_nI, cge_nI, ceq_nI, cne_nI, inr_nI, nI_clamp, nI_eq, nI_leI, nI_ltI, ha, hl, hl2, e]
set_option maxRecDepth 20000 in
theorem c_swap {M : Me} {a i : Nat} {v : Int32} (ha : kd a = 8) (hl : i < ln a) (hl2 : ln a ≤ 1000) : DX7_swap [.ref a, .int (nI i), .int v] M = some (M.1 a i, wi M a i v) := by
  simp -implicitDefEqProofs (disch := omega) [DX7_swap, EX7_swap, kp_, bsome, bnone, gi_s, gj_s, gr_s, gv_s, ik_, jk_, il_, jl_, rl_, i2_, i2_a, i2_b, j2_, j2_a, j2_b, i2d_, i2d_a, i2d_b, j2d_, j2d_a, j2d_b, i1_, i1_a, j1_, j1_a, i2l_, i2l_a, l2i_, l2i_a, fgi_, fgi_a, fgj_, fgj_a, fgr_, fgr_a, iald_, iald_a, iald_b, zald_, zald_a, zald_b, jald_, jald_a, jald_b, rald_, rald_a, rald_b, alen_, alen_a, sald_, sald_a, ic_, ic_a, jc_, jc_a, bc_, bc_a, bc_b, bj_, bj_a, bj_b, bz_, bz_a, band_, band_a, bor_, bor_a, bnot_, bnot_a, anil_, ai_, ai_a, ai_b, aj_, aj_a, aj_b, ar_, ar_a, ar_b, kb2i_, cvi_, cvi_a, cvi_b, cvj_, cvj_a, cvj_b, cvz_, cvz_a, cvz_b, csi_, csi_a, csj_, csj_a, csz_, csz_a, snop_, sseq_, sseq_n, sseq_s, sif_, sif_a, scut_, scut_a, ssi_, ssi_a, ssj_, ssj_a, ssr_, ssr_a, sinc_, sinc_a, sret_, sret_a, sretj_, sretj_a, sretv_, spop_, spop_a, kc_scv_, scv_, scv_a, scv_b, scs_, scs_a, fpi_, fpi_a, fpi_b, fpj_, fpj_a, fpj_b, foi_, foi_a, foi_b, foj_, foj_a, foj_b, aii_, aii_a, aii_b, aii_c, aiz_, aiz_a, aiz_b, aiz_c, aij_, aij_a, aij_b, aij_c, aoi_, aoi_a, aoi_b, aoi_c, aoj_, aoj_a, aoj_b, aoj_c, scopy_, scopy_a, scopy_b, scopy_c, scopy_d, scopy_e, ssw_, ssw_a, sel_n, sel_c, mfi_, mfi_a, mfj_, mfj_a, mfz_, mfz_a, kb_mfv_, mfv_, mfv_a, cut, lset, lset2, isL, Value.category, ent, entn, if_some, if_pair, if_cons, if_int, if_long, if_ref, ite_self, gz_b, ↓icb, ↓icb2, b2i_ne, ge0, ge1, ge2, ge3, ge4, ge5, ge6, ge7, ge8, ge9, ge10, ge11, ge12, ge13, ge14, lit32, nI_add, pk_mul, clt_nI, cle_nI, cgt_nI, cge_nI, ceq_nI, cne_nI, inr_nI, nI_clamp, nI_eq, nI_leI, nI_ltI, ha, hl, hl2]
