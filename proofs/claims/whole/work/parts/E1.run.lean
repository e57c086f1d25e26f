/-! the law's run, from the heap it begins with -/
section RUN
variable {p : Program} {l : Launch} {e : Env} {s : State} {m : MethodId} {below : List Frame} {meth : Method} {c : Code} {G : va_G} {ca : Nat → ClassId} {ad : Nat → Nat} {h0 : am_h} {b n : Nat}
theorem law_end {args : Array Value} {s t : State} {f : am_h} {k z : Nat} (hk : k ≤ 600000) {N : Nat} (hz : z ≤ N) (q : MQ below (am_Q G ca s.heap.size ad (some (.int 1)) f) args s k z (am_A s.heap.size) t) : lw_Z N below args s t := by
  obtain ⟨o, a1, a2, ⟨a3, -, -⟩, L, ⟨a4, a5, s1, s2, s3, s4, s5, s6⟩, a6⟩ := q
  refine ⟨o, a1, a2, a3, a4, a5, s1, s2, by omega, s4, by omega, fun a x hx => ?_⟩
  obtain ⟨x', y1, y2, y3, y4⟩ := s6 a x hx
  refine ⟨x', y1, y2, y3, fun i _ => y4 i (fun hm => ?_)⟩
  have lt : a < s.heap.size := (Array.getElem?_eq_some_iff.mp hx).1
  have ge : s.heap.size ≤ a := a6 _ hm
  exact Nat.not_le.mpr lt ge
theorem law_run {N : Nat} (hN : 1000000 ≤ N) (tx : ∀ h, LWI h0 h → opS XP 100 mX11_text mX12_text [.ref 0] [.ref 126] h) (hX : am_X p room_1 s m #[Value.ref b] meth c G ca s.heap.size ad mL_law 101) (hY : am_Y s G ca s.heap.size ad h0 s.heap []) (had : ad 1000000 = b) (b0 : B0 h0) (z : LW0 h0 n) (wf : am_wf h0) : W p l e room_1 s m #[Value.ref b] below meth c s.heap [] 0 0 (lw_Z N below #[Value.ref b] s) (entryFrame m ([Value.ref b] : List Value).toArray 4) := by
  obtain ⟨h2, k, W2⟩ := lw_all b0 z tx
  have k1 := k (fun r f => r = some (.int 1) ∧ f = h2)
  have k2 : Cal 101 mL_law [.ref 1000000] h0 (fun r f => r = some (.int 1) ∧ f = h2) := by rw [k1]; exact ⟨rfl, rfl⟩
  obtain ⟨r, f, ee, rfl, rfl⟩ := k2
  have snd := am_sound (l := l) am_mn ee wf
  have rm := W2.1.1.2.2.2.2
  have n0 := b0.1
  have z0 := b0.2.1
  obtain ⟨r1, r2⟩ := rm
  have c1 : a_n f - a_n h0 ≤ 800 := by omega
  have c2 : a_z f - a_z h0 ≤ 100000 := by omega
  have LR := am_LR.en (ad := ad) (n := 4) (as := [.ref 1000000]) (by show 1 ≤ 4; omega)
  have w := snd.2.2 p e room_1 s m #[Value.ref b] below meth c G ca s.heap.size ad s.heap [] _ 0 0 hX hY LR (by rw [Nat.zero_add]; exact Nat.le_trans c1 (Nat.le_of_ble_eq_true rfl)) (by rw [Nat.zero_add]; exact Nat.le_trans c2 (Nat.le_of_ble_eq_true rfl))
  have eas : ([.ref 1000000] : List Value).map (cV ad) = [.ref b] := by rw [← had]; rfl
  rw [eas] at w
  rw [lg_entry_eq]
  intro T hT XT
  obtain ⟨t, a1, a2⟩ := w T hT XT
  refine ⟨t, a1, law_end ?_ ?_ a2⟩
  · omega
  · omega
end RUN
