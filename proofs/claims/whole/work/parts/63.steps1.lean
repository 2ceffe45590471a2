/-! ===== 63.steps1 ===== -/
theorem INV.pad {M N : Mem} (h : INV M) (s : Sc10 M N) : N.1 175 1 = wv M 1 1 := by
  obtain ⟨-, -, ⟨n, hn, e1, e2, e3⟩, -⟩ := h
  rw [s.1 175 (by decide), wv_at (by decide), e1, e2]
theorem s_meets {G : GT} {M : Mem} {v1 v2 v3 : Int32} (hI : INV M) : T_X10_meets G [.ref 0, .int v1, .int v2, .int v3] M (fun r N => T_X11_meets G [.ref 175, .int v1, .int v2, .int v3] N (fun r' P => r' = r ∧ INV P)) :=
  t_X10_meets hI.1.wok (fun N s => t_X11_meets (W := wv M) (hI.rg s) (hI.rp s) (fun P z => ⟨rfl, hI.ask s z.x⟩))
theorem s_why {G : GT} {M : Mem} {v1 v2 v3 : Int32} (hI : INV M) : T_X10_why G [.ref 0, .int v1, .int v2, .int v3] M (fun r N => T_X11_why G [.ref 175, .int v1, .int v2, .int v3] N (fun r' P => r' = r ∧ INV P)) :=
  t_X10_why hI.1.wok (fun N s => t_X11_why (W := wv M) (hI.rg s) (hI.rp s) (fun P z => ⟨rfl, hI.ask s z.x⟩))
theorem s_governs {G : GT} {M : Mem} {v1 v2 : Int32} (hI : INV M) : T_X10_governs G [.ref 0, .int v1, .int v2] M (fun r N => T_X11_governs G [.ref 175, .int v1, .int v2] N (fun r' P => r' = r ∧ INV P)) :=
  t_X10_governs hI.1.wok (fun N s => t_X11_governs (W := wv M) (hI.rg s) (hI.rp s) (fun P z => ⟨rfl, hI.ask s z.x⟩))
theorem s_gives {G : GT} {M : Mem} {v1 v2 : Int32} (hI : INV M) : T_X10_gives G [.ref 0, .int v1, .int v2] M (fun r N => T_X11_gives G [.ref 175, .int v1, .int v2] N (fun r' P => r' = r ∧ INV P)) :=
  t_X10_gives hI.1.wok (fun N s => t_X11_gives (W := wv M) (hI.rg s) (hI.rp s) (fun P z => ⟨rfl, hI.ask s z.x⟩))
theorem s_those {G : GT} {M : Mem} {v1 v2 : Int32} (hI : INV M) : T_X10_those G [.ref 0, .int v1, .int v2] M (fun r N => T_X11_those G [.ref 175, .int v1, .int v2] N (fun r' P => r' = r ∧ INV P)) :=
  t_X10_those hI.1.wok (fun N s => t_X11_those (W := wv M) (hI.rg s) (hI.rp s) (fun P z => ⟨rfl, hI.ask s z.x⟩))
theorem s_sum {G : GT} {M : Mem} {v1 : Int32} (hI : INV M) : T_X10_sum G [.ref 0, .int v1] M (fun r N => T_X11_sum G [.ref 175, .int v1] N (fun r' P => r' = r ∧ INV P)) :=
  t_X10_sum hI.1.wok (fun N s => t_X11_sum (W := wv M) (hI.rg s) (hI.rp s) (fun P z => ⟨rfl, hI.ask s z.x⟩))
theorem s_route {G : GT} {M : Mem} {v1 v2 v3 : Int32} (hI : INV M) : T_X10_route G [.ref 0, .int v1, .int v2, .int v3] M (fun r N => T_X11_route G [.ref 175, .int v1, .int v2, .int v3] N (fun r' P => r' = r ∧ INV P)) :=
  t_X10_route hI.1.wok (fun N s => t_X11_route (W := wv M) (hI.rg s) (hI.rp s) (fun P z => ⟨rfl, hI.ask s z.x⟩))
theorem s_passage {G : GT} {M : Mem} {v1 v2 v3 : Int32} (hI : INV M) : T_X10_passage G [.ref 0, .int v1, .int v2, .int v3] M (fun r N => T_X11_passage G [.ref 175, .int v1, .int v2, .int v3] N (fun r' P => r' = r ∧ INV P)) :=
  t_X10_passage hI.1.wok (fun N s => t_X11_passage (W := wv M) (hI.rg s) (hI.rp s) (fun P z => ⟨rfl, hI.ask s z.x⟩))
theorem s_term {G : GT} {M : Mem} {v1 v2 v3 : Int32} (hI : INV M) : T_X10_term G [.ref 0, .int v1, .int v2, .int v3] M (fun r N => T_X11_term G [.ref 175, .int v1, .int v2, .int v3] N (fun r' P => r' = r ∧ INV P)) :=
  t_X10_term hI.1.wok (fun N s => t_X11_term (W := wv M) (hI.rg s) (hI.rp s) (hI.rt s) (hI.w6 s) (fun P z => ⟨rfl, hI.ask s z.x⟩))
theorem s_whole {G : GT} {M : Mem} {v1 v2 : Int32} (hI : INV M) : T_X10_whole G [.ref 0, .int v1, .int v2] M (fun r N => T_X11_whole G [.ref 175, .int v1, .int v2] N (fun r' P => r' = r ∧ INV P)) :=
  t_X10_whole hI.1.wok (fun N s => t_X11_whole (W := wv M) (hI.rg s) (hI.rp s) (hI.rt s) (hI.w6 s) (fun P z => ⟨rfl, hI.ask s z.x⟩))
theorem s_taken {G : GT} {M : Mem} {v1 : Int32} (hI : INV M) : T_X10_taken G [.ref 0, .int v1] M (fun r N => T_X11_taken G [.ref 175, .int v1] N (fun r' P => r' = r ∧ INV P)) :=
  t_X10_taken hI.1.wok (fun N s => t_X11_taken (W := wv M) (hI.rg s) (hI.rp s) (fun P z => ⟨rfl, hI.ask s z.x⟩))
theorem s_caught {G : GT} {M : Mem} {v1 : Int32} (hI : INV M) : T_X10_caught G [.ref 0, .int v1] M (fun r N => T_X11_caught G [.ref 175, .int v1] N (fun r' P => r' = r ∧ INV P)) :=
  t_X10_caught hI.1.wok (fun N s => t_X11_caught (W := wv M) (hI.rg s) (hI.rp s) (fun P z => ⟨rfl, hI.ask s z.x⟩))
theorem s_brief {G : GT} {M : Mem} {v1 : Int32} (hI : INV M) : T_X10_brief G [.ref 0, .int v1] M (fun r N => T_X11_brief G [.ref 175, .int v1] N (fun r' P => r' = r ∧ INV P)) :=
  t_X10_brief hI.1.wok (fun N s => t_X11_brief (W := wv M) (hI.rg s) ⟨rfl, hI.ask s Zx.rf⟩)
theorem s_read {G : GT} {M : Mem} {v1 v2 v3 : Int32} (hI : INV M) : T_X10_read G [.ref 0, .int v1, .int v2, .int v3] M (fun r N => T_X11_read G [.ref 175, .int v1, .int v2, .int v3] N (fun r' P => r' = r ∧ INV P)) :=
  t_X10_read hI.1.wok hI.1.rdok (fun N s => t_X11_read (W := wv M) (hI.rg s) (hI.rp s) (hI.rt s) (fun P z => ⟨rfl, hI.ask s z.x⟩))
theorem s_ways {G : GT} {M : Mem} {v1 v2 : Int32} (hI : INV M) : T_X10_ways G [.ref 0, .int v1, .int v2] M (fun r N => T_X11_ways G [.ref 175, .int v1, .int v2] N (fun r' P => r' = r ∧ INV P)) :=
  t_X10_ways hI.1.wok hI.1.rdok (fun N s => t_X11_ways (W := wv M) (hI.rg s) (hI.rp s) (hI.rt s) (fun P z => ⟨rfl, hI.ask s z.x⟩))
theorem s_hangs {G : GT} {M : Mem} {v1 v2 : Int32} (hI : INV M) : T_X10_hangs G [.ref 0, .int v1, .int v2] M (fun r N => T_X11_hangs G [.ref 175, .int v1, .int v2] N (fun r' P => r' = r ∧ INV P)) :=
  t_X10_hangs hI.1.wok hI.1.rdok (fun N s => t_X11_hangs (W := wv M) (hI.rg s) (hI.rp s) (hI.rt s) (fun P z => ⟨rfl, hI.ask s z.x⟩))
theorem s_force {G : GT} {M : Mem} {v1 v2 : Int32} (hI : INV M) : T_X10_force G [.ref 0, .int v1, .int v2] M (fun r N => T_X11_force G [.ref 175, .int v1, .int v2] N (fun r' P => r' = r ∧ INV P)) :=
  t_X10_force hI.1.wok (fun N s => t_X11_force (W := wv M) (hI.rg s) (hI.rp s) (fun P z => ⟨rfl, hI.ask s z.x⟩))
theorem s_open {G : GT} {M : Mem} {v1 : Int32} (hI : INV M) : T_X10_open G [.ref 0, .int v1] M (fun r N => T_X11_open G [.ref 175, .int v1] N (fun r' P => r' = r ∧ INV P)) :=
  t_X10_open hI.1.wok (fun N s => t_X11_open (W := wv M) (hI.rg s) (hI.rt s) ⟨rfl, hI.ask s Zx.rf⟩)
theorem s_all {G : GT} {M : Mem} {v1 v2 : Int32} (hI : INV M) : T_X10_all G [.ref 0, .int v1, .int v2] M (fun r N => T_X11_all G [.ref 175, .int v1, .int v2] N (fun r' P => r' = r ∧ INV P)) :=
  t_X10_all hI.1.wok (fun N s => t_X11_all (W := wv M) (hI.rg s) (fun P z => ⟨rfl, hI.ask s z⟩))
theorem s_mend {G : GT} {M : Mem} {v1 v2 v3 : Int32} (hI : INV M) : T_X10_mend G [.ref 0, .int v1, .int v2, .int v3] M (fun r N => T_X11_mend G [.ref 175, .int v1, .int v2, .int v3] N (fun r' P => r' = r ∧ INV P)) :=
  t_X10_mend hI.1.wok hI.1.rdok hI.1.q01 (fun N s => t_X11_mend (W := wv M) (hI.rg s) (hI.rp s) (hI.rt s) hI.1.dayo (fun P z => ⟨rfl, hI.ask s z.x⟩))
theorem s_of {G : GT} {M : Mem} {v1 v2 : Int32} (hI : INV M) : T_X10_of G [.ref 0, .int v1, .int v2] M (fun r N => T_X11_of G [.ref 175, .int v1, .int v2] N (fun r' P => r' = r ∧ INV P)) :=
  t_X10_of hI.1.wok (fun N s => t_X11_of (W := wv M) (hI.rg s) (hI.rt s) ⟨rfl, hI.ask s Zx.rf⟩)
theorem s_about {G : GT} {M : Mem} {v1 v2 : Int32} (hI : INV M) : T_X10_about G [.ref 0, .int v1, .int v2] M (fun r N => T_X11_about G [.ref 175, .int v1, .int v2] N (fun r' P => r' = r ∧ INV P)) :=
  t_X10_about hI.1.wok (fun N s => t_X11_about (W := wv M) (hI.rp s) ⟨rfl, hI.ask s Zx.rf⟩)
theorem s_told {G : GT} {M : Mem} {v1 : Int32} (hI : INV M) : T_X10_told G [.ref 0, .int v1] M (fun r N => T_X11_told G [.ref 175, .int v1] N (fun r' P => r' = r ∧ INV P)) :=
  t_X10_told hI.1.wok (fun N s => t_X11_told (W := wv M) (hI.rg s) (hI.rp s) (hI.pad s) ⟨rfl, hI.ask s Zx.rf⟩)
theorem s_part {G : GT} {M : Mem} {v1 v2 v3 : Int32} (hI : INV M) : T_X10_part G [.ref 0, .int v1, .int v2, .int v3] M (fun r N => T_X11_part G [.ref 175, .int v1, .int v2, .int v3] N (fun r' P => r' = r ∧ INV P)) :=
  t_X10_part hI.1.wok hI.1.cs (fun N s => t_X11_part (W := wv M) (hI.rg s) ⟨rfl, hI.ask s Zx.rf⟩)

