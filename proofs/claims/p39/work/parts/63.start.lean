theorem zokz_run : zokz (zrun (zL.take 166)) := by
  unfold zokz
  decide +kernel
theorem whole_start {p : Program} {e : Env} {s : State} {m : MethodId} {below : List Frame} {meth : Method} {c : Code} (l : Launch) (hflags : l.flags = flags0) {b L : Nat} {xs : Nat → Int32} (hL2 : L ≤ 260) (C0 : lw_At p s m meth c b L xs) : W p l e room_1 s m #[Value.ref b] below meth c s.heap [] 0 0 (lw_Z below #[Value.ref b] s) (entryFrame m ([Value.ref b] : List Value).toArray 12) := whole_run l hflags hL2 C0 (fun n S => TI (2 * n) S) (fun n F hn h => tw_body hn (by omega) h (fun S1 h1 => ⟨rfl, h1⟩)) (zrun (zL.take 166)) (init_cls rfl) zokz_run z166_38 ti0
