/-! the law from its entry: what is left is that text answers alike on both sides -/
section WHOLE2
/-- text answers alike on both sides wherever the law's loop may stand -/
def TXT : Prop := ∀ (L : Nat) (xs : Nat → Int32) (fo : Option Nat) (h : am_h), LWI (hW L xs fo) h → opS XP 100 mX11_text mX12_text [.ref 0] [.ref 126] h
theorem whole_start {N : Nat} (hN : 1000000 ≤ N) (tx : TXT) {p : Program} {e : Env} {s : State} {m : MethodId} {below : List Frame} {meth : Method} {c : Code} (l : Launch) (_hflags : l.flags = flags0) {b L : Nat} {xs : Nat → Int32} (hL : L ≤ 3584) (C0 : lw_At p s m meth c b L xs) (hname : meth.name = x.name) : W p l e room_1 s m #[Value.ref b] below meth c s.heap [] 0 0 (lw_Z N below #[Value.ref b] s) (entryFrame m ([Value.ref b] : List Value).toArray 4) := by
  obtain ⟨G, ca, ad, fo, hf, K, Y, hd⟩ := world C0
  obtain ⟨hx, hb, hr, hml, hown, hts, hX, hbl, hlocks, hgv⟩ := C0
  have X : am_X p room_1 s m #[Value.ref b] meth c G ca s.heap.size ad mL_law 101 := ⟨hx, hb, hr, hml, hown, fun w hw => hts w (List.mem_filter.mp hw).1, hlocks, hname, K, Nat.le_refl _, Nat.le_of_ble_eq_true rfl, Nat.le_of_ble_eq_true rfl⟩
  exact law_run hN (tx L xs fo) X Y hd (hW_B hf) (hW_L hL) hW_wf
end WHOLE2
