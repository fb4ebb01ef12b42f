-- ===== all calls answer alike; the law from its entry =====
theorem PAll_ok (N : Nat) (hN : 200000 < N) : PAll N Rel :=
  ⟨pa_feed N (by omega), pa_town N (by omega), pa_fault N, pa_told N (by omega), pa_stair N (by omega), pa_person N (by omega), pa_fit N (by omega), pa_go N (by omega), pa_build N, pa_law N, pa_drift N (by omega), pa_reach N (by omega), pa_guests N (by omega), pa_wish N hN, pa_pair N hN, pa_carried N hN, pa_step N (by omega), pa_worst N (by omega), pa_best N (by omega), pa_cover N hN, pa_see N, pa_fits N (by omega), pa_ask N (by omega), pa_write N, pa_tear N, pa_judge N (by omega), pa_seed N, pa_keep N (by omega), pa_goBack N (by omega)⟩
theorem whole_start {p : Program} {e : Env} {s : State} {m : MethodId} {below : List Frame} {meth : Method} {c : Code} (l : Launch) {b L : Nat} {xs : Nat → Int32} (hL : L ≤ 2560) (C0 : lw_At p s m meth c b L xs) : W p l e room_1 s m #[Value.ref b] below meth c s.heap [] 0 0 (lw_Z below #[Value.ref b] s) (entryFrame m ([Value.ref b] : List Value).toArray 4) := by
  obtain ⟨N, hN⟩ : ∃ N : Nat, 200000 < N := ⟨200001, by decide⟩
  exact start_of (N := N) (PAll_ok N hN) Rel_0 l hL C0
