/-! what the thrower needs, at the law's start -/
theorem ex_nv {s : State} {b : Nat} (hgv : (Jvm.Cond.and given_1 narrow_1).before #[Value.ref b] s = true) {w : Cond} (h : w ∈ flatC (Jvm.Cond.and given_1 narrow_1)) : w.before #[Value.ref b] s = true := flat_of_before _ hgv _ h
theorem ex_str {s : State} {b k : Nat} {tx : String} (h1 : (Cond.stringRef RX11 k tx).before #[Value.ref b] s = true) (h2 : (Cond.exactly (.string RX11 k) "java/lang/String").before #[Value.ref b] s = true) : ∃ sa, vk_R RX11 k tx sa s := by
  obtain ⟨a, c, cell, k, e1, -⟩ := Cond.exactly_spec h2
  exact ⟨a, vk_R.of h1 e1⟩
theorem ex_start {p : Program} {s : State} {m : MethodId} {meth : Method} {c : Code} {b L : Nat} {xs : Nat → Int32} (C0 : lw_At p s m meth c b L xs) (D : va_G) (ca : Nat → ClassId) : Ex_ (G0_ s.heap.size D ca) s := by
  obtain ⟨hx, hb, hr, hml, hown, hts, hXs, hbl, hlocks, hgv⟩ := C0
  refine ⟨ex_str (hts _ (by decide +kernel)) (ex_nv hgv (by decide +kernel)), ex_str (hts _ (by decide +kernel)) (ex_nv hgv (by decide +kernel)), ex_str (hts _ (by decide +kernel)) (ex_nv hgv (by decide +kernel)), va_Nc.of (ex_nv hgv (by decide +kernel)), fun w hw => ?_, ?_, ?_⟩
  · rcases dw_cases hw with ⟨x, rfl⟩ | ⟨x, y, rfl⟩
    · exact va_Nw.of rfl (hts _ (List.mem_filter.mp hw).1)
    · exact va_Nw.of rfl (hts _ (List.mem_filter.mp hw).1)
  · exact vx_Zqof (args := #[Value.ref b]) (hts _ (by decide +kernel)) (hts _ (by decide +kernel)) (ex_nv hgv (by decide +kernel)) (fun a h1 h2 => absurd h1 (Nat.not_lt.mpr h2))
  · exact vx_Zqof (args := #[Value.ref b]) (hts _ (by decide +kernel)) (hts _ (by decide +kernel)) (ex_nv hgv (by decide +kernel)) (fun a h1 h2 => absurd h1 (Nat.not_lt.mpr h2))
theorem st_off {l : Launch} (hf : l.flags = flags0) : l.stackTraces = false := by
  unfold Launch.stackTraces; rw [hf]; decide
