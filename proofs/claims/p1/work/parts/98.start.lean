/-! The walk begins: at most one call. -/
theorem whole_start (l : Launch) (_hflags : l.flags = flags0) {p : Program} {e : Env} {s : State} {m : MethodId} {below : List Frame} {meth : Method} {c : Code} {b : Nat} {xs : List Int32} (hbd : xs.length ≤ 5) (C0 : lw_At p s m meth c b xs.length (fun j => xs.getD j 0)) :
    W p l e room_1 s m #[Value.ref b] below meth c s.heap [] 0 0 (lw_Z below #[Value.ref b] s) (entryFrame m ([Value.ref b] : List Value).toArray 4) :=
  whole_of hTab_ok l (by omega) C0 (fun fb => p1_run fb xs.length hbd _)
