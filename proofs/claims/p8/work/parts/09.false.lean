/-! The claim is false as it is written: at the start 'wx1.about' every premise holds ('wx1.atStart', in the parts that mkref.py makes), and the run leaves the law by a throw out of the method 'clone' of AT_FIRST's class, called within CrossingDesk$Movement.<init>. -/
def wy_low (f : NFrame) : Bool := f.method.cls == 0 && (f.method.idx == 0 && (f.args.size == 0 && (f.stage == 0 && (f.saved.size == 0 && (!f.awaiting && (f.answer.isNone && (f.locked.isNone && f.words == 0)))))))
theorem wy_low_is {f : NFrame} (h : wy_low f = true) : [Frame.native f] = Lib.HandBits.below0 := by
  obtain ⟨⟨c, i⟩, as, st, sa, aw, an, lo, wo⟩ := f
  simp only [wy_low, Bool.and_eq_true, beq_iff_eq, Bool.not_eq_true', Option.isNone_iff_eq_none] at h
  obtain ⟨h1, h2, h3, h4, h5, h6, h7, h8, h9⟩ := h
  have h3' := Array.eq_empty_of_size_eq_zero h3
  have h5' := Array.eq_empty_of_size_eq_zero h5
  subst h1; subst h2; subst h3'; subst h4; subst h5'; subst h6; subst h7; subst h8; subst h9
  rfl
def wy_up : List Frame → Bool
  | [] => false
  | [.throwing _] => false
  | _ => true
def wy_in (s : State) : Bool := match s.frames.getLast? with
  | some (.native f) => wy_low f && wy_up s.frames.dropLast
  | _ => false
theorem wy_within {s : State} (h : wy_in s = true) : Within s Lib.HandBits.below0 := by
  unfold wy_in at h
  split at h
  · rename_i f hf
    simp only [Bool.and_eq_true] at h
    obtain ⟨h1, h2⟩ := h
    refine ⟨s.frames.dropLast, ?_, ?_, ?_⟩
    · rw [← wy_low_is h1]
      have hne : s.frames ≠ [] := by intro e; rw [e] at hf; cases hf
      have := List.dropLast_concat_getLast hne
      have hl : s.frames.getLast hne = Frame.native f := by
        have := List.getLast?_eq_some_getLast hne
        rw [hf] at this
        exact (Option.some.inj this).symm
      rw [hl] at this
      exact this.symm
    · intro e; rw [e] at h2; cases h2
    · intro a e; rw [e] at h2; cases h2
  · cases h
def wy_end (a : Addr) (s : State) : Bool := match s.frames with
  | [.throwing b, .native f] => decide (b = a) && wy_low f
  | _ => false
theorem wy_ended {a : Addr} {s : State} (h : wy_end a s = true) : Ended s Lib.HandBits.below0 (.threw a) := by
  unfold wy_end at h
  split at h
  · rename_i b f hf
    simp only [Bool.and_eq_true, decide_eq_true_eq] at h
    obtain ⟨rfl, h2⟩ := h
    show s.frames = .throwing b :: Lib.HandBits.below0
    rw [hf, ← wy_low_is h2]
  · cases h
/-! the machine has gone into the method 'clone' of the class of number 15, the class of AT_FIRST's cell -/
set_option maxRecDepth 16384 in
theorem wx1.at_clone : ((stepsAlone p0.tables e0 28 about).topJava?).any (fun g => g.method.cls == 15 && g.method.idx == 0 && g.pc == 0) = true := by decide +kernel
set_option maxRecDepth 16384 in
theorem wx1.way : (List.range 34).all (fun n => wy_in (stepsAlone p0.tables e0 n about)) = true := by decide +kernel
set_option maxRecDepth 16384 in
theorem wx1.stop : wy_end 2 (stepsAlone p0.tables e0 34 about) = true := by decide +kernel
set_option maxRecDepth 16384 in
theorem wx1.runs : (stepsAlone p0.tables e0 34 about).status = .running := by decide +kernel
theorem wx1.within : ∀ k, k < 34 → Within (stepsAlone p0.tables e0 k about) Lib.HandBits.below0 := fun k hk => wy_within (List.all_eq_true.mp wx1.way k (List.mem_range.mpr hk))
theorem wx1.ended : Ended (stepsAlone p0.tables e0 34 about) Lib.HandBits.below0 (.threw 2) := wy_ended wx1.stop
theorem wy_limb_1 (a : Array Value) (s t : State) : limb_1_1.after a s (.threw 2) t ≠ true := by
  intro h; cases h
theorem wy_limb_2 (a : Array Value) (s t : State) : limb_1_2.after a s (.threw 2) t ≠ true := by
  intro h; cases h
/-! the claim's own words for 'it falls' -/
theorem wx_falls_1 : RefutedClaimed_1_1 :=
  ⟨launch0, wx1.p0, wx1.e0, wx1.about, ⟨0, 0⟩, wx1.args0, Lib.HandBits.below0, rfl, wx1.atStart, 34, .threw 2, wx1.within, wx1.runs, wx1.ended, fun h => wy_limb_1 _ _ _ h.1⟩
theorem wx_falls_2 : RefutedClaimed_1_2 :=
  ⟨launch0, wx1.p0, wx1.e0, wx1.about, ⟨0, 0⟩, wx1.args0, Lib.HandBits.below0, rfl, wx1.atStart, 34, .threw 2, wx1.within, wx1.runs, wx1.ended, fun h => wy_limb_2 _ _ _ h.1⟩
theorem wx_not_1 : ¬ Claimed_1_1 := by
  intro h
  obtain ⟨l, p, e, s, m, args, below, hfl, ⟨hL, hW, had, -, hc, hk, hf, ha, hh, happ, hcalls, hrest, hpre⟩, n, o, hw, -, he, hno⟩ := wx_falls_1
  obtain ⟨n', o', hw', -, he', hyes⟩ := h l hfl hL hW p e had hc hk s m args below hf ha hh happ ⟨hcalls, hrest, hpre⟩
  obtain ⟨rfl, rfl⟩ := the_end_unique (f := fun k => stepsAlone p.tables e k s) hw he hw' he'
  exact hno hyes
theorem wx_not_2 : ¬ Claimed_1_2 := by
  intro h
  obtain ⟨l, p, e, s, m, args, below, hfl, ⟨hL, hW, had, -, hc, hk, hf, ha, hh, happ, hcalls, hrest, hpre⟩, n, o, hw, -, he, hno⟩ := wx_falls_2
  obtain ⟨n', o', hw', -, he', hyes⟩ := h l hfl hL hW p e had hc hk s m args below hf ha hh happ ⟨hcalls, hrest, hpre⟩
  obtain ⟨rfl, rfl⟩ := the_end_unique (f := fun k => stepsAlone p.tables e k s) hw he hw' he'
  exact hno hyes
theorem owed_is_false : ¬ (Claimed_1_1 ∧ Claimed_1_2) := fun h => wx_not_1 h.1
/-! the same start but for the one cell, which is of the class called "[I" (the printed witness's start): the run goes on past that place -/
def wx1.usual : State := { about with heap := about.heap.modify 2 fun c => { c with cls := 10 } }
set_option maxRecDepth 16384 in
theorem wx1.usual_goes_on : (stepsAlone p0.tables e0 60 usual).status = .running ∧ wy_in (stepsAlone p0.tables e0 60 usual) = true := by decide +kernel
