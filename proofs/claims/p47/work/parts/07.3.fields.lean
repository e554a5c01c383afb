theorem hin_X0 : ∀ w ∈ u_ws RX0 TX0 12, w ∈ TT := by
  rw [show u_ws RX0 TX0 12 = [Cond.lays "NestedChecker$Automaton" "NestedChecker$Automaton" "states" "I", Cond.lays "NestedChecker$Automaton" "NestedChecker$Automaton" "symbols" "I", Cond.lays "NestedChecker$Automaton" "NestedChecker$Automaton" "starts" "I", Cond.lays "NestedChecker$Automaton" "NestedChecker$Automaton" "accepts" "I", Cond.lays "NestedChecker$Automaton" "NestedChecker$Automaton" "rules" "I", Cond.lays "NestedChecker$Automaton" "NestedChecker$Automaton" "calls" "I", Cond.laysFinal "NestedChecker$Automaton" "NestedChecker$Automaton" "letter" "[I", Cond.laysFinal "NestedChecker$Automaton" "NestedChecker$Automaton" "from" "[I", Cond.laysFinal "NestedChecker$Automaton" "NestedChecker$Automaton" "to" "[I", Cond.laysFinal "NestedChecker$Automaton" "NestedChecker$Automaton" "symbol" "[I", Cond.laysFinal "NestedChecker$Automaton" "NestedChecker$Automaton" "step" "[I", Cond.laysFinal "NestedChecker$Automaton" "NestedChecker$Automaton" "stacked" "[I"] from rfl]
  exact List.forall_mem_cons.mpr ⟨(tt lm_286 rfl), List.forall_mem_cons.mpr ⟨(tt lm_288 rfl), List.forall_mem_cons.mpr ⟨(tt lm_290 rfl), List.forall_mem_cons.mpr ⟨(tt lm_292 rfl), List.forall_mem_cons.mpr ⟨(tt lm_294 rfl), List.forall_mem_cons.mpr ⟨(tt lm_296 rfl), List.forall_mem_cons.mpr ⟨(tt lm_298 rfl), List.forall_mem_cons.mpr ⟨(tt lm_300 rfl), List.forall_mem_cons.mpr ⟨(tt lm_302 rfl), List.forall_mem_cons.mpr ⟨(tt lm_304 rfl), List.forall_mem_cons.mpr ⟨(tt lm_306 rfl), List.forall_mem_cons.mpr ⟨(tt lm_308 rfl), fun _ h => absurd h List.not_mem_nil⟩⟩⟩⟩⟩⟩⟩⟩⟩⟩⟩⟩
theorem cd_X0 : kCd 0 RX0 TX0 12 tyX0 := ⟨rfl, hin_X0, tyX0_ok, nmX0⟩
theorem hin_X1 : ∀ w ∈ u_ws RX1 TX1 12, w ∈ TT := by
  rw [show u_ws RX1 TX1 12 = [Cond.lays "NestedChecker$Reader" "NestedChecker$Reader" "made" "LNestedChecker$Setting;", Cond.lays "NestedChecker$Reader" "NestedChecker$Reader" "taped" "I", Cond.lays "NestedChecker$Reader" "NestedChecker$Reader" "faultKind" "I", Cond.lays "NestedChecker$Reader" "NestedChecker$Reader" "faultPlace" "I", Cond.laysFinal "NestedChecker$Reader" "NestedChecker$Reader" "tape" "[B", Cond.lays "NestedChecker$Reader" "NestedChecker$Reader" "length" "I", Cond.lays "NestedChecker$Reader" "NestedChecker$Reader" "kind" "I", Cond.lays "NestedChecker$Reader" "NestedChecker$Reader" "place" "I", Cond.lays "NestedChecker$Reader" "NestedChecker$Reader" "size" "I", Cond.lays "NestedChecker$Reader" "NestedChecker$Reader" "value" "I", Cond.laysFinal "NestedChecker$Reader" "NestedChecker$Reader" "namePlace" "[I", Cond.laysFinal "NestedChecker$Reader" "NestedChecker$Reader" "nameSize" "[I"] from rfl]
  exact List.forall_mem_cons.mpr ⟨(tt lm_407 rfl), List.forall_mem_cons.mpr ⟨(tt lm_409 rfl), List.forall_mem_cons.mpr ⟨(tt lm_411 rfl), List.forall_mem_cons.mpr ⟨(tt lm_413 rfl), List.forall_mem_cons.mpr ⟨(tt lm_415 rfl), List.forall_mem_cons.mpr ⟨(tt lm_417 rfl), List.forall_mem_cons.mpr ⟨(tt lm_419 rfl), List.forall_mem_cons.mpr ⟨(tt lm_421 rfl), List.forall_mem_cons.mpr ⟨(tt lm_423 rfl), List.forall_mem_cons.mpr ⟨(tt lm_425 rfl), List.forall_mem_cons.mpr ⟨(tt lm_427 rfl), List.forall_mem_cons.mpr ⟨(tt lm_429 rfl), fun _ h => absurd h List.not_mem_nil⟩⟩⟩⟩⟩⟩⟩⟩⟩⟩⟩⟩
theorem cd_X1 : kCd 1 RX1 TX1 12 tyX1 := ⟨rfl, hin_X1, tyX1_ok, nmX1⟩
theorem hin_X3 : ∀ w ∈ u_ws RX3 TX3 7, w ∈ TT := by
  rw [show u_ws RX3 TX3 7 = [Cond.lays "NestedChecker$RunCount" "NestedChecker$RunCount" "pending" "I", Cond.laysFinal "NestedChecker$RunCount" "NestedChecker$RunCount" "now" "[J", Cond.laysFinal "NestedChecker$RunCount" "NestedChecker$RunCount" "scratch" "[J", Cond.laysFinal "NestedChecker$RunCount" "NestedChecker$RunCount" "below" "[J", Cond.laysFinal "NestedChecker$RunCount" "NestedChecker$RunCount" "belowCall" "[I", Cond.lays "NestedChecker$RunCount" "NestedChecker$RunCount" "ends" "[J", Cond.lays "NestedChecker$RunCount" "NestedChecker$RunCount" "more" "[J"] from rfl]
  exact List.forall_mem_cons.mpr ⟨(tt lm_639 rfl), List.forall_mem_cons.mpr ⟨(tt lm_641 rfl), List.forall_mem_cons.mpr ⟨(tt lm_643 rfl), List.forall_mem_cons.mpr ⟨(tt lm_645 rfl), List.forall_mem_cons.mpr ⟨(tt lm_647 rfl), List.forall_mem_cons.mpr ⟨(tt lm_649 rfl), List.forall_mem_cons.mpr ⟨(tt lm_651 rfl), fun _ h => absurd h List.not_mem_nil⟩⟩⟩⟩⟩⟩⟩
theorem cd_X3 : kCd 2 RX3 TX3 7 tyX3 := ⟨rfl, hin_X3, tyX3_ok, nmX3⟩
theorem hin_X4 : ∀ w ∈ u_ws RX4 TX4 17, w ∈ TT := by
  rw [show u_ws RX4 TX4 17 = [Cond.laysFinal "NestedChecker$Search" "NestedChecker$Search" "foundLength" "[I", Cond.laysFinal "NestedChecker$Search" "NestedChecker$Search" "foundCode" "[I", Cond.lays "NestedChecker$Search" "NestedChecker$Search" "foundSlots" "I", Cond.lays "NestedChecker$Search" "NestedChecker$Search" "calls" "I", Cond.lays "NestedChecker$Search" "NestedChecker$Search" "paired" "I", Cond.lays "NestedChecker$Search" "NestedChecker$Search" "letters" "I", Cond.laysFinal "NestedChecker$Search" "NestedChecker$Search" "all" "LNestedChecker$Automaton;", Cond.lays "NestedChecker$Search" "NestedChecker$Search" "left" "LNestedChecker$Automaton;", Cond.lays "NestedChecker$Search" "NestedChecker$Search" "right" "LNestedChecker$Automaton;", Cond.lays "NestedChecker$Search" "NestedChecker$Search" "whole" "Z", Cond.laysFinal "NestedChecker$Search" "NestedChecker$Search" "words" "LNestedChecker$Shelf;", Cond.laysFinal "NestedChecker$Search" "NestedChecker$Search" "blocks" "LNestedChecker$Shelf;", Cond.laysFinal "NestedChecker$Search" "NestedChecker$Search" "nodes" "LNestedChecker$Shelf;", Cond.lays "NestedChecker$Search" "NestedChecker$Search" "relations" "I", Cond.laysFinal "NestedChecker$Search" "NestedChecker$Search" "relation" "[I", Cond.laysFinal "NestedChecker$Search" "NestedChecker$Search" "number" "[I", Cond.laysFinal "NestedChecker$Search" "NestedChecker$Search" "powers" "[I"] from rfl]
  exact List.forall_mem_cons.mpr ⟨(tt lm_543 rfl), List.forall_mem_cons.mpr ⟨(tt lm_545 rfl), List.forall_mem_cons.mpr ⟨(tt lm_547 rfl), List.forall_mem_cons.mpr ⟨(tt lm_549 rfl), List.forall_mem_cons.mpr ⟨(tt lm_551 rfl), List.forall_mem_cons.mpr ⟨(tt lm_553 rfl), List.forall_mem_cons.mpr ⟨(tt lm_555 rfl), List.forall_mem_cons.mpr ⟨(tt lm_557 rfl), List.forall_mem_cons.mpr ⟨(tt lm_559 rfl), List.forall_mem_cons.mpr ⟨(tt lm_561 rfl), List.forall_mem_cons.mpr ⟨(tt lm_563 rfl), List.forall_mem_cons.mpr ⟨(tt lm_565 rfl), List.forall_mem_cons.mpr ⟨(tt lm_567 rfl), List.forall_mem_cons.mpr ⟨(tt lm_569 rfl), List.forall_mem_cons.mpr ⟨(tt lm_571 rfl), List.forall_mem_cons.mpr ⟨(tt lm_573 rfl), List.forall_mem_cons.mpr ⟨(tt lm_575 rfl), fun _ h => absurd h List.not_mem_nil⟩⟩⟩⟩⟩⟩⟩⟩⟩⟩⟩⟩⟩⟩⟩⟩⟩
theorem cd_X4 : kCd 3 RX4 TX4 17 tyX4 := ⟨rfl, hin_X4, tyX4_ok, nmX4⟩
theorem hin_X5 : ∀ w ∈ u_ws RX5 TX5 7, w ∈ TT := by
  rw [show u_ws RX5 TX5 7 = [Cond.lays "NestedChecker$Setting" "NestedChecker$Setting" "calls" "I", Cond.lays "NestedChecker$Setting" "NestedChecker$Setting" "paired" "I", Cond.lays "NestedChecker$Setting" "NestedChecker$Setting" "letters" "I", Cond.lays "NestedChecker$Setting" "NestedChecker$Setting" "automata" "I", Cond.laysFinal "NestedChecker$Setting" "NestedChecker$Setting" "first" "LNestedChecker$Automaton;", Cond.laysFinal "NestedChecker$Setting" "NestedChecker$Setting" "second" "LNestedChecker$Automaton;", Cond.laysFinal "NestedChecker$Setting" "NestedChecker$Setting" "monitor" "LNestedChecker$Walk;"] from rfl]
  exact List.forall_mem_cons.mpr ⟨(tt lm_376 rfl), List.forall_mem_cons.mpr ⟨(tt lm_378 rfl), List.forall_mem_cons.mpr ⟨(tt lm_380 rfl), List.forall_mem_cons.mpr ⟨(tt lm_382 rfl), List.forall_mem_cons.mpr ⟨(tt lm_384 rfl), List.forall_mem_cons.mpr ⟨(tt lm_386 rfl), List.forall_mem_cons.mpr ⟨(tt lm_388 rfl), fun _ h => absurd h List.not_mem_nil⟩⟩⟩⟩⟩⟩⟩
theorem cd_X5 : kCd 4 RX5 TX5 7 tyX5 := ⟨rfl, hin_X5, tyX5_ok, nmX5⟩
theorem hin_X6 : ∀ w ∈ u_ws RX6 TX6 5, w ∈ TT := by
  rw [show u_ws RX6 TX6 5 = [Cond.lays "NestedChecker$Shelf" "NestedChecker$Shelf" "size" "I", Cond.laysFinal "NestedChecker$Shelf" "NestedChecker$Shelf" "items" "[I", Cond.laysFinal "NestedChecker$Shelf" "NestedChecker$Shelf" "length" "[I", Cond.laysFinal "NestedChecker$Shelf" "NestedChecker$Shelf" "code" "[I", Cond.laysFinal "NestedChecker$Shelf" "NestedChecker$Shelf" "mood" "[I"] from rfl]
  exact List.forall_mem_cons.mpr ⟨(tt lm_491 rfl), List.forall_mem_cons.mpr ⟨(tt lm_493 rfl), List.forall_mem_cons.mpr ⟨(tt lm_495 rfl), List.forall_mem_cons.mpr ⟨(tt lm_497 rfl), List.forall_mem_cons.mpr ⟨(tt lm_499 rfl), fun _ h => absurd h List.not_mem_nil⟩⟩⟩⟩⟩
theorem cd_X6 : kCd 5 RX6 TX6 5 tyX6 := ⟨rfl, hin_X6, tyX6_ok, nmX6⟩
theorem hin_X7 : ∀ w ∈ u_ws RX7 TX7 6, w ∈ TT := by
  rw [show u_ws RX7 TX7 6 = [Cond.lays "NestedChecker$SummaryTable" "NestedChecker$SummaryTable" "known" "Z", Cond.lays "NestedChecker$SummaryTable" "NestedChecker$SummaryTable" "size" "I", Cond.laysFinal "NestedChecker$SummaryTable" "NestedChecker$SummaryTable" "states" "[I", Cond.laysFinal "NestedChecker$SummaryTable" "NestedChecker$SummaryTable" "pairs" "[I", Cond.laysFinal "NestedChecker$SummaryTable" "NestedChecker$SummaryTable" "present" "[I", Cond.laysFinal "NestedChecker$SummaryTable" "NestedChecker$SummaryTable" "overs" "[I"] from rfl]
  exact List.forall_mem_cons.mpr ⟨(tt lm_452 rfl), List.forall_mem_cons.mpr ⟨(tt lm_454 rfl), List.forall_mem_cons.mpr ⟨(tt lm_456 rfl), List.forall_mem_cons.mpr ⟨(tt lm_458 rfl), List.forall_mem_cons.mpr ⟨(tt lm_460 rfl), List.forall_mem_cons.mpr ⟨(tt lm_462 rfl), fun _ h => absurd h List.not_mem_nil⟩⟩⟩⟩⟩⟩
theorem cd_X7 : kCd 6 RX7 TX7 6 tyX7 := ⟨rfl, hin_X7, tyX7_ok, nmX7⟩
theorem hin_X8 : ∀ w ∈ u_ws RX8 TX8 13, w ∈ TT := by
  rw [show u_ws RX8 TX8 13 = [Cond.lays "NestedChecker$Tally" "NestedChecker$Tally" "calls" "I", Cond.lays "NestedChecker$Tally" "NestedChecker$Tally" "paired" "I", Cond.lays "NestedChecker$Tally" "NestedChecker$Tally" "letters" "I", Cond.lays "NestedChecker$Tally" "NestedChecker$Tally" "insides" "I", Cond.laysFinal "NestedChecker$Tally" "NestedChecker$Tally" "insidePairs" "[I", Cond.laysFinal "NestedChecker$Tally" "NestedChecker$Tally" "insideCode" "[I", Cond.laysFinal "NestedChecker$Tally" "NestedChecker$Tally" "insideEnd" "[I", Cond.lays "NestedChecker$Tally" "NestedChecker$Tally" "blocks" "I", Cond.laysFinal "NestedChecker$Tally" "NestedChecker$Tally" "blockPairs" "[I", Cond.laysFinal "NestedChecker$Tally" "NestedChecker$Tally" "blockCode" "[I", Cond.laysFinal "NestedChecker$Tally" "NestedChecker$Tally" "blockEnd" "[I", Cond.laysFinal "NestedChecker$Tally" "NestedChecker$Tally" "many" "[I", Cond.laysFinal "NestedChecker$Tally" "NestedChecker$Tally" "last" "[I"] from rfl]
  exact List.forall_mem_cons.mpr ⟨(tt lm_597 rfl), List.forall_mem_cons.mpr ⟨(tt lm_599 rfl), List.forall_mem_cons.mpr ⟨(tt lm_601 rfl), List.forall_mem_cons.mpr ⟨(tt lm_603 rfl), List.forall_mem_cons.mpr ⟨(tt lm_605 rfl), List.forall_mem_cons.mpr ⟨(tt lm_607 rfl), List.forall_mem_cons.mpr ⟨(tt lm_609 rfl), List.forall_mem_cons.mpr ⟨(tt lm_611 rfl), List.forall_mem_cons.mpr ⟨(tt lm_613 rfl), List.forall_mem_cons.mpr ⟨(tt lm_615 rfl), List.forall_mem_cons.mpr ⟨(tt lm_617 rfl), List.forall_mem_cons.mpr ⟨(tt lm_619 rfl), List.forall_mem_cons.mpr ⟨(tt lm_621 rfl), fun _ h => absurd h List.not_mem_nil⟩⟩⟩⟩⟩⟩⟩⟩⟩⟩⟩⟩⟩
theorem cd_X8 : kCd 7 RX8 TX8 13 tyX8 := ⟨rfl, hin_X8, tyX8_ok, nmX8⟩
theorem hin_X9 : ∀ w ∈ u_ws RX9 TX9 3, w ∈ TT := by
  rw [show u_ws RX9 TX9 3 = [Cond.laysFinal "NestedChecker$Trays" "NestedChecker$Trays" "values" "[J", Cond.laysFinal "NestedChecker$Trays" "NestedChecker$Trays" "sorts" "[I", Cond.laysFinal "NestedChecker$Trays" "NestedChecker$Trays" "places" "[I"] from rfl]
  exact List.forall_mem_cons.mpr ⟨(tt lm_208 rfl), List.forall_mem_cons.mpr ⟨(tt lm_210 rfl), List.forall_mem_cons.mpr ⟨(tt lm_212 rfl), fun _ h => absurd h List.not_mem_nil⟩⟩⟩
theorem cd_X9 : kCd 8 RX9 TX9 3 tyX9 := ⟨rfl, hin_X9, tyX9_ok, nmX9⟩
theorem hin_X10 : ∀ w ∈ u_ws RX10 TX10 8, w ∈ TT := by
  rw [show u_ws RX10 TX10 8 = [Cond.lays "NestedChecker$Walk" "NestedChecker$Walk" "watched" "I", Cond.lays "NestedChecker$Walk" "NestedChecker$Walk" "steps" "I", Cond.lays "NestedChecker$Walk" "NestedChecker$Walk" "pending" "I", Cond.lays "NestedChecker$Walk" "NestedChecker$Walk" "states" "I", Cond.lays "NestedChecker$Walk" "NestedChecker$Walk" "pairs" "I", Cond.laysFinal "NestedChecker$Walk" "NestedChecker$Walk" "belowStates" "[I", Cond.laysFinal "NestedChecker$Walk" "NestedChecker$Walk" "belowPairs" "[I", Cond.laysFinal "NestedChecker$Walk" "NestedChecker$Walk" "belowCall" "[I"] from rfl]
  exact List.forall_mem_cons.mpr ⟨(tt lm_336 rfl), List.forall_mem_cons.mpr ⟨(tt lm_338 rfl), List.forall_mem_cons.mpr ⟨(tt lm_340 rfl), List.forall_mem_cons.mpr ⟨(tt lm_342 rfl), List.forall_mem_cons.mpr ⟨(tt lm_344 rfl), List.forall_mem_cons.mpr ⟨(tt lm_346 rfl), List.forall_mem_cons.mpr ⟨(tt lm_348 rfl), List.forall_mem_cons.mpr ⟨(tt lm_350 rfl), fun _ h => absurd h List.not_mem_nil⟩⟩⟩⟩⟩⟩⟩⟩
theorem cd_X10 : kCd 9 RX10 TX10 8 tyX10 := ⟨rfl, hin_X10, tyX10_ok, nmX10⟩
theorem hin_X11 : ∀ w ∈ u_ws RX11 TX11 15, w ∈ TT := by
  rw [show u_ws RX11 TX11 15 = [Cond.lays "NestedChecker" "NestedChecker" "lastStatus" "I", Cond.lays "NestedChecker" "NestedChecker" "fractionTop" "J", Cond.lays "NestedChecker" "NestedChecker" "fractionBottom" "J", Cond.laysFinal "NestedChecker" "NestedChecker" "trays" "LNestedChecker$Trays;", Cond.laysFinal "NestedChecker" "NestedChecker" "reader" "LNestedChecker$Reader;", Cond.lays "NestedChecker" "NestedChecker" "live" "LNestedChecker$Setting;", Cond.laysFinal "NestedChecker" "NestedChecker" "kept" "[LNestedChecker$Setting;", Cond.lays "NestedChecker" "NestedChecker" "marks" "I", Cond.laysFinal "NestedChecker" "NestedChecker" "firstTable" "LNestedChecker$SummaryTable;", Cond.laysFinal "NestedChecker" "NestedChecker" "secondTable" "LNestedChecker$SummaryTable;", Cond.laysFinal "NestedChecker" "NestedChecker" "search" "LNestedChecker$Search;", Cond.laysFinal "NestedChecker" "NestedChecker" "tally" "LNestedChecker$Tally;", Cond.laysFinal "NestedChecker" "NestedChecker" "walker" "LNestedChecker$Walk;", Cond.laysFinal "NestedChecker" "NestedChecker" "runCount" "LNestedChecker$RunCount;", Cond.lays "NestedChecker" "NestedChecker" "drawn" "I"] from rfl]
  exact List.forall_mem_cons.mpr ⟨(tt lm_669 rfl), List.forall_mem_cons.mpr ⟨(tt lm_671 rfl), List.forall_mem_cons.mpr ⟨(tt lm_673 rfl), List.forall_mem_cons.mpr ⟨(tt lm_675 rfl), List.forall_mem_cons.mpr ⟨(tt lm_677 rfl), List.forall_mem_cons.mpr ⟨(tt lm_679 rfl), List.forall_mem_cons.mpr ⟨(tt lm_681 rfl), List.forall_mem_cons.mpr ⟨(tt lm_683 rfl), List.forall_mem_cons.mpr ⟨(tt lm_685 rfl), List.forall_mem_cons.mpr ⟨(tt lm_687 rfl), List.forall_mem_cons.mpr ⟨(tt lm_689 rfl), List.forall_mem_cons.mpr ⟨(tt lm_691 rfl), List.forall_mem_cons.mpr ⟨(tt lm_693 rfl), List.forall_mem_cons.mpr ⟨(tt lm_695 rfl), List.forall_mem_cons.mpr ⟨(tt lm_697 rfl), fun _ h => absurd h List.not_mem_nil⟩⟩⟩⟩⟩⟩⟩⟩⟩⟩⟩⟩⟩⟩⟩
theorem cd_X11 : kCd 10 RX11 TX11 15 tyX11 := ⟨rfl, hin_X11, tyX11_ok, nmX11⟩
theorem hin_X12 : ∀ w ∈ u_ws RX12 TX12 51, w ∈ TT := by
  rw [show u_ws RX12 TX12 51 = [Cond.laysFinal "NestedCheckerModel" "NestedCheckerModel" "at" "[I", Cond.laysFinal "NestedCheckerModel" "NestedCheckerModel" "names" "[J", Cond.lays "NestedCheckerModel" "NestedCheckerModel" "status" "I", Cond.lays "NestedCheckerModel" "NestedCheckerModel" "top" "J", Cond.lays "NestedCheckerModel" "NestedCheckerModel" "bottom" "J", Cond.laysFinal "NestedCheckerModel" "NestedCheckerModel" "sort" "[I", Cond.laysFinal "NestedCheckerModel" "NestedCheckerModel" "trayMany" "[I", Cond.laysFinal "NestedCheckerModel" "NestedCheckerModel" "trays" "[J", Cond.laysFinal "NestedCheckerModel" "NestedCheckerModel" "tape" "[B", Cond.laysFinal "NestedCheckerModel" "NestedCheckerModel" "text" "[B", Cond.lays "NestedCheckerModel" "NestedCheckerModel" "taped" "I", Cond.lays "NestedCheckerModel" "NestedCheckerModel" "size" "I", Cond.lays "NestedCheckerModel" "NestedCheckerModel" "token" "I", Cond.lays "NestedCheckerModel" "NestedCheckerModel" "from" "I", Cond.lays "NestedCheckerModel" "NestedCheckerModel" "end" "I", Cond.lays "NestedCheckerModel" "NestedCheckerModel" "value" "I", Cond.lays "NestedCheckerModel" "NestedCheckerModel" "faultKind" "I", Cond.lays "NestedCheckerModel" "NestedCheckerModel" "faultPlace" "I", Cond.lays "NestedCheckerModel" "NestedCheckerModel" "faults" "I", Cond.lays "NestedCheckerModel" "NestedCheckerModel" "seen" "I", Cond.laysFinal "NestedCheckerModel" "NestedCheckerModel" "ruleBy" "[I", Cond.laysFinal "NestedCheckerModel" "NestedCheckerModel" "rBy" "[I", Cond.laysFinal "NestedCheckerModel" "NestedCheckerModel" "sBy" "[I", Cond.laysFinal "NestedCheckerModel" "NestedCheckerModel" "belowBy" "[I", Cond.laysFinal "NestedCheckerModel" "NestedCheckerModel" "wordBy" "[I", Cond.laysFinal "NestedCheckerModel" "NestedCheckerModel" "toBy" "[J", Cond.laysFinal "NestedCheckerModel" "NestedCheckerModel" "betweenBy" "[J", Cond.laysFinal "NestedCheckerModel" "NestedCheckerModel" "overBy" "[J", Cond.laysFinal "NestedCheckerModel" "NestedCheckerModel" "allBy" "[J", Cond.laysFinal "NestedCheckerModel" "NestedCheckerModel" "partnerBy" "[I", Cond.lays "NestedCheckerModel" "NestedCheckerModel" "pendingMany" "I", Cond.lays "NestedCheckerModel" "NestedCheckerModel" "looseMany" "I", Cond.lays "NestedCheckerModel" "NestedCheckerModel" "deepest" "I", Cond.laysFinal "NestedCheckerModel" "NestedCheckerModel" "tableR" "[I", Cond.laysFinal "NestedCheckerModel" "NestedCheckerModel" "tableS" "[I", Cond.lays "NestedCheckerModel" "NestedCheckerModel" "tableMany" "I", Cond.laysFinal "NestedCheckerModel" "NestedCheckerModel" "matchBy" "[I", Cond.laysFinal "NestedCheckerModel" "NestedCheckerModel" "segmentBy" "[I", Cond.laysFinal "NestedCheckerModel" "NestedCheckerModel" "aheadBy" "[I", Cond.laysFinal "NestedCheckerModel" "NestedCheckerModel" "behindBy" "[I", Cond.laysFinal "NestedCheckerModel" "NestedCheckerModel" "relationBy" "[I", Cond.laysFinal "NestedCheckerModel" "NestedCheckerModel" "goesBy" "[I", Cond.laysFinal "NestedCheckerModel" "NestedCheckerModel" "spansBy" "[I", Cond.laysFinal "NestedCheckerModel" "NestedCheckerModel" "aheadOf" "[I", Cond.laysFinal "NestedCheckerModel" "NestedCheckerModel" "behindOf" "[I", Cond.lays "NestedCheckerModel" "NestedCheckerModel" "relationMany" "I", Cond.laysFinal "NestedCheckerModel" "NestedCheckerModel" "foundWord" "[I", Cond.laysFinal "NestedCheckerModel" "NestedCheckerModel" "tryBy" "[I", Cond.lays "NestedCheckerModel" "NestedCheckerModel" "foundMany" "I", Cond.lays "NestedCheckerModel" "NestedCheckerModel" "drawn" "I", Cond.lays "NestedCheckerModel" "NestedCheckerModel" "marks" "I"] from rfl]
  exact List.forall_mem_cons.mpr ⟨(tt lm_1652 rfl), List.forall_mem_cons.mpr ⟨(tt lm_1654 rfl), List.forall_mem_cons.mpr ⟨(tt lm_1656 rfl), List.forall_mem_cons.mpr ⟨(tt lm_1658 rfl), List.forall_mem_cons.mpr ⟨(tt lm_1660 rfl), List.forall_mem_cons.mpr ⟨(tt lm_1662 rfl), List.forall_mem_cons.mpr ⟨(tt lm_1664 rfl), List.forall_mem_cons.mpr ⟨(tt lm_1666 rfl), List.forall_mem_cons.mpr ⟨(tt lm_1668 rfl), List.forall_mem_cons.mpr ⟨(tt lm_1670 rfl), List.forall_mem_cons.mpr ⟨(tt lm_1672 rfl), List.forall_mem_cons.mpr ⟨(tt lm_1674 rfl), List.forall_mem_cons.mpr ⟨(tt lm_1676 rfl), List.forall_mem_cons.mpr ⟨(tt lm_1678 rfl), List.forall_mem_cons.mpr ⟨(tt lm_1680 rfl), List.forall_mem_cons.mpr ⟨(tt lm_1682 rfl), List.forall_mem_cons.mpr ⟨(tt lm_1684 rfl), List.forall_mem_cons.mpr ⟨(tt lm_1686 rfl), List.forall_mem_cons.mpr ⟨(tt lm_1688 rfl), List.forall_mem_cons.mpr ⟨(tt lm_1690 rfl), List.forall_mem_cons.mpr ⟨(tt lm_1692 rfl), List.forall_mem_cons.mpr ⟨(tt lm_1694 rfl), List.forall_mem_cons.mpr ⟨(tt lm_1696 rfl), List.forall_mem_cons.mpr ⟨(tt lm_1698 rfl), List.forall_mem_cons.mpr ⟨(tt lm_1700 rfl), List.forall_mem_cons.mpr ⟨(tt lm_1702 rfl), List.forall_mem_cons.mpr ⟨(tt lm_1704 rfl), List.forall_mem_cons.mpr ⟨(tt lm_1706 rfl), List.forall_mem_cons.mpr ⟨(tt lm_1708 rfl), List.forall_mem_cons.mpr ⟨(tt lm_1710 rfl), List.forall_mem_cons.mpr ⟨(tt lm_1712 rfl), List.forall_mem_cons.mpr ⟨(tt lm_1714 rfl), List.forall_mem_cons.mpr ⟨(tt lm_1716 rfl), List.forall_mem_cons.mpr ⟨(tt lm_1718 rfl), List.forall_mem_cons.mpr ⟨(tt lm_1720 rfl), List.forall_mem_cons.mpr ⟨(tt lm_1722 rfl), List.forall_mem_cons.mpr ⟨(tt lm_1724 rfl), List.forall_mem_cons.mpr ⟨(tt lm_1726 rfl), List.forall_mem_cons.mpr ⟨(tt lm_1728 rfl), List.forall_mem_cons.mpr ⟨(tt lm_1730 rfl), List.forall_mem_cons.mpr ⟨(tt lm_1732 rfl), List.forall_mem_cons.mpr ⟨(tt lm_1734 rfl), List.forall_mem_cons.mpr ⟨(tt lm_1736 rfl), List.forall_mem_cons.mpr ⟨(tt lm_1738 rfl), List.forall_mem_cons.mpr ⟨(tt lm_1740 rfl), List.forall_mem_cons.mpr ⟨(tt lm_1742 rfl), List.forall_mem_cons.mpr ⟨(tt lm_1744 rfl), List.forall_mem_cons.mpr ⟨(tt lm_1746 rfl), List.forall_mem_cons.mpr ⟨(tt lm_1748 rfl), List.forall_mem_cons.mpr ⟨(tt lm_1750 rfl), List.forall_mem_cons.mpr ⟨(tt lm_1752 rfl), fun _ h => absurd h List.not_mem_nil⟩⟩⟩⟩⟩⟩⟩⟩⟩⟩⟩⟩⟩⟩⟩⟩⟩⟩⟩⟩⟩⟩⟩⟩⟩⟩⟩⟩⟩⟩⟩⟩⟩⟩⟩⟩⟩⟩⟩⟩⟩⟩⟩⟩⟩⟩⟩⟩⟩⟩⟩
theorem cd_X12 : kCd 11 RX12 TX12 51 tyX12 := ⟨rfl, hin_X12, tyX12_ok, nmX12⟩
theorem fl_X11_10 : kFd RX11 10 10 3 (.object "NestedChecker$Trays") := ⟨RX11, TX11, 15, tyX11, cd_X11, by decide, (tt lm_657 rfl), rfl⟩
theorem fl_X11_19 : kFd RX11 19 10 4 (.object "NestedChecker$Reader") := ⟨RX11, TX11, 15, tyX11, cd_X11, by decide, (tt lm_658 rfl), rfl⟩
theorem fw_X11_26 : kFw RX11 26 10 5 (.object "NestedChecker$Setting") := ⟨RX11, TX11, 15, tyX11, cd_X11, by decide, (tt lm_659 rfl), rfl, rfl⟩
theorem fl_X11_26 : kFd RX11 26 10 5 (.object "NestedChecker$Setting") := let ⟨a, b, c, d, e, f, g, h, _⟩ := fw_X11_26; ⟨a, b, c, d, e, f, g, h⟩
theorem fl_X11_30 : kFd RX11 30 10 6 (.array (.object "NestedChecker$Setting")) := ⟨RX11, TX11, 15, tyX11, cd_X11, by decide, (tt lm_660 rfl), rfl⟩
theorem fl_X11_37 : kFd RX11 37 10 8 (.object "NestedChecker$SummaryTable") := ⟨RX11, TX11, 15, tyX11, cd_X11, by decide, (tt lm_662 rfl), rfl⟩
theorem fl_X11_41 : kFd RX11 41 10 9 (.object "NestedChecker$SummaryTable") := ⟨RX11, TX11, 15, tyX11, cd_X11, by decide, (tt lm_663 rfl), rfl⟩
theorem fl_X11_47 : kFd RX11 47 10 10 (.object "NestedChecker$Search") := ⟨RX11, TX11, 15, tyX11, cd_X11, by decide, (tt lm_664 rfl), rfl⟩
theorem fl_X11_54 : kFd RX11 54 10 11 (.object "NestedChecker$Tally") := ⟨RX11, TX11, 15, tyX11, cd_X11, by decide, (tt lm_665 rfl), rfl⟩
theorem fl_X11_61 : kFd RX11 61 10 12 (.object "NestedChecker$Walk") := ⟨RX11, TX11, 15, tyX11, cd_X11, by decide, (tt lm_666 rfl), rfl⟩
theorem fl_X11_68 : kFd RX11 68 10 13 (.object "NestedChecker$RunCount") := ⟨RX11, TX11, 15, tyX11, cd_X11, by decide, (tt lm_667 rfl), rfl⟩
theorem fw_X11_72 : kFw RX11 72 10 0 .int := ⟨RX11, TX11, 15, tyX11, cd_X11, by decide, (tt lm_654 rfl), rfl, rfl⟩
theorem fl_X11_72 : kFd RX11 72 10 0 .int := let ⟨a, b, c, d, e, f, g, h, _⟩ := fw_X11_72; ⟨a, b, c, d, e, f, g, h⟩
theorem fw_X11_76 : kFw RX11 76 10 1 .long := ⟨RX11, TX11, 15, tyX11, cd_X11, by decide, (tt lm_655 rfl), rfl, rfl⟩
theorem fl_X11_76 : kFd RX11 76 10 1 .long := let ⟨a, b, c, d, e, f, g, h, _⟩ := fw_X11_76; ⟨a, b, c, d, e, f, g, h⟩
theorem fw_X11_80 : kFw RX11 80 10 2 .long := ⟨RX11, TX11, 15, tyX11, cd_X11, by decide, (tt lm_656 rfl), rfl, rfl⟩
theorem fl_X11_80 : kFd RX11 80 10 2 .long := let ⟨a, b, c, d, e, f, g, h, _⟩ := fw_X11_80; ⟨a, b, c, d, e, f, g, h⟩
theorem fw_X11_126 : kFw RX11 126 1 1 .int := ⟨RX1, TX1, 12, tyX1, cd_X1, by decide, (tt lm_394 rfl), rfl, rfl⟩
theorem fl_X11_126 : kFd RX11 126 1 1 .int := let ⟨a, b, c, d, e, f, g, h, _⟩ := fw_X11_126; ⟨a, b, c, d, e, f, g, h⟩
theorem fw_X11_136 : kFw RX11 136 1 0 (.object "NestedChecker$Setting") := ⟨RX1, TX1, 12, tyX1, cd_X1, by decide, (tt lm_392 rfl), rfl, rfl⟩
theorem fl_X11_136 : kFd RX11 136 1 0 (.object "NestedChecker$Setting") := let ⟨a, b, c, d, e, f, g, h, _⟩ := fw_X11_136; ⟨a, b, c, d, e, f, g, h⟩
theorem fw_X11_142 : kFw RX11 142 4 3 .int := ⟨RX5, TX5, 7, tyX5, cd_X5, by decide, (tt lm_371 rfl), rfl, rfl⟩
theorem fl_X11_142 : kFd RX11 142 4 3 .int := let ⟨a, b, c, d, e, f, g, h, _⟩ := fw_X11_142; ⟨a, b, c, d, e, f, g, h⟩
theorem fw_X11_148 : kFw RX11 148 1 2 .int := ⟨RX1, TX1, 12, tyX1, cd_X1, by decide, (tt lm_396 rfl), rfl, rfl⟩
theorem fl_X11_148 : kFd RX11 148 1 2 .int := let ⟨a, b, c, d, e, f, g, h, _⟩ := fw_X11_148; ⟨a, b, c, d, e, f, g, h⟩
theorem fw_X11_151 : kFw RX11 151 1 3 .int := ⟨RX1, TX1, 12, tyX1, cd_X1, by decide, (tt lm_398 rfl), rfl, rfl⟩
theorem fl_X11_151 : kFd RX11 151 1 3 .int := let ⟨a, b, c, d, e, f, g, h, _⟩ := fw_X11_151; ⟨a, b, c, d, e, f, g, h⟩
theorem fw_X11_154 : kFw RX11 154 4 0 .int := ⟨RX5, TX5, 7, tyX5, cd_X5, by decide, (tt lm_358 rfl), rfl, rfl⟩
theorem fl_X11_154 : kFd RX11 154 4 0 .int := let ⟨a, b, c, d, e, f, g, h, _⟩ := fw_X11_154; ⟨a, b, c, d, e, f, g, h⟩
theorem fw_X11_157 : kFw RX11 157 4 1 .int := ⟨RX5, TX5, 7, tyX5, cd_X5, by decide, (tt lm_363 rfl), rfl, rfl⟩
theorem fl_X11_157 : kFd RX11 157 4 1 .int := let ⟨a, b, c, d, e, f, g, h, _⟩ := fw_X11_157; ⟨a, b, c, d, e, f, g, h⟩
theorem fw_X11_160 : kFw RX11 160 4 2 .int := ⟨RX5, TX5, 7, tyX5, cd_X5, by decide, (tt lm_368 rfl), rfl, rfl⟩
theorem fl_X11_160 : kFd RX11 160 4 2 .int := let ⟨a, b, c, d, e, f, g, h, _⟩ := fw_X11_160; ⟨a, b, c, d, e, f, g, h⟩
theorem fw_X11_168 : kFw RX11 168 0 0 .int := ⟨RX0, TX0, 12, tyX0, cd_X0, by decide, (tt lm_242 rfl), rfl, rfl⟩
theorem fl_X11_168 : kFd RX11 168 0 0 .int := let ⟨a, b, c, d, e, f, g, h, _⟩ := fw_X11_168; ⟨a, b, c, d, e, f, g, h⟩
theorem fw_X11_173 : kFw RX11 173 0 1 .int := ⟨RX0, TX0, 12, tyX0, cd_X0, by decide, (tt lm_245 rfl), rfl, rfl⟩
theorem fl_X11_173 : kFd RX11 173 0 1 .int := let ⟨a, b, c, d, e, f, g, h, _⟩ := fw_X11_173; ⟨a, b, c, d, e, f, g, h⟩
theorem fw_X11_176 : kFw RX11 176 0 2 .int := ⟨RX0, TX0, 12, tyX0, cd_X0, by decide, (tt lm_252 rfl), rfl, rfl⟩
theorem fl_X11_176 : kFd RX11 176 0 2 .int := let ⟨a, b, c, d, e, f, g, h, _⟩ := fw_X11_176; ⟨a, b, c, d, e, f, g, h⟩
theorem fw_X11_179 : kFw RX11 179 0 3 .int := ⟨RX0, TX0, 12, tyX0, cd_X0, by decide, (tt lm_259 rfl), rfl, rfl⟩
theorem fl_X11_179 : kFd RX11 179 0 3 .int := let ⟨a, b, c, d, e, f, g, h, _⟩ := fw_X11_179; ⟨a, b, c, d, e, f, g, h⟩
theorem fw_X11_182 : kFw RX11 182 0 4 .int := ⟨RX0, TX0, 12, tyX0, cd_X0, by decide, (tt lm_265 rfl), rfl, rfl⟩
theorem fl_X11_182 : kFd RX11 182 0 4 .int := let ⟨a, b, c, d, e, f, g, h, _⟩ := fw_X11_182; ⟨a, b, c, d, e, f, g, h⟩
theorem fl_X11_188 : kFd RX11 188 0 6 (.array .int) := ⟨RX0, TX0, 12, tyX0, cd_X0, by decide, (tt lm_269 rfl), rfl⟩
theorem fl_X11_192 : kFd RX11 192 0 7 (.array .int) := ⟨RX0, TX0, 12, tyX0, cd_X0, by decide, (tt lm_272 rfl), rfl⟩
theorem fl_X11_195 : kFd RX11 195 0 8 (.array .int) := ⟨RX0, TX0, 12, tyX0, cd_X0, by decide, (tt lm_275 rfl), rfl⟩
theorem fl_X11_198 : kFd RX11 198 0 9 (.array .int) := ⟨RX0, TX0, 12, tyX0, cd_X0, by decide, (tt lm_278 rfl), rfl⟩
theorem fw_X11_238 : kFw RX11 238 9 3 .int := ⟨RX10, TX10, 8, tyX10, cd_X10, by decide, (tt lm_327 rfl), rfl, rfl⟩
theorem fl_X11_238 : kFd RX11 238 9 3 .int := let ⟨a, b, c, d, e, f, g, h, _⟩ := fw_X11_238; ⟨a, b, c, d, e, f, g, h⟩
theorem fw_X11_275 : kFw RX11 275 6 1 .int := ⟨RX7, TX7, 6, tyX7, cd_X7, by decide, (tt lm_445 rfl), rfl, rfl⟩
theorem fl_X11_275 : kFd RX11 275 6 1 .int := let ⟨a, b, c, d, e, f, g, h, _⟩ := fw_X11_275; ⟨a, b, c, d, e, f, g, h⟩
theorem fl_X11_281 : kFd RX11 281 6 2 (.array .int) := ⟨RX7, TX7, 6, tyX7, cd_X7, by decide, (tt lm_447 rfl), rfl⟩
theorem fl_X11_283 : kFd RX11 283 6 3 (.array .int) := ⟨RX7, TX7, 6, tyX7, cd_X7, by decide, (tt lm_449 rfl), rfl⟩
theorem fl_X11_331 : kFd RX11 331 3 0 (.array .int) := ⟨RX4, TX4, 17, tyX4, cd_X4, by decide, (tt lm_525 rfl), rfl⟩
theorem fw_X11_357 : kFw RX11 357 10 14 .int := ⟨RX11, TX11, 15, tyX11, cd_X11, by decide, (tt lm_668 rfl), rfl, rfl⟩
theorem fl_X11_357 : kFd RX11 357 10 14 .int := let ⟨a, b, c, d, e, f, g, h, _⟩ := fw_X11_357; ⟨a, b, c, d, e, f, g, h⟩
theorem fl_X11_367 : kFd RX11 367 4 6 (.object "NestedChecker$Walk") := ⟨RX5, TX5, 7, tyX5, cd_X5, by decide, (tt lm_375 rfl), rfl⟩
theorem fw_X11_372 : kFw RX11 372 9 0 .int := ⟨RX10, TX10, 8, tyX10, cd_X10, by decide, (tt lm_319 rfl), rfl, rfl⟩
theorem fl_X11_372 : kFd RX11 372 9 0 .int := let ⟨a, b, c, d, e, f, g, h, _⟩ := fw_X11_372; ⟨a, b, c, d, e, f, g, h⟩
theorem fw_X11_375 : kFw RX11 375 9 2 .int := ⟨RX10, TX10, 8, tyX10, cd_X10, by decide, (tt lm_324 rfl), rfl, rfl⟩
theorem fl_X11_375 : kFd RX11 375 9 2 .int := let ⟨a, b, c, d, e, f, g, h, _⟩ := fw_X11_375; ⟨a, b, c, d, e, f, g, h⟩
theorem fw_X11_379 : kFw RX11 379 9 1 .int := ⟨RX10, TX10, 8, tyX10, cd_X10, by decide, (tt lm_321 rfl), rfl, rfl⟩
theorem fl_X11_379 : kFd RX11 379 9 1 .int := let ⟨a, b, c, d, e, f, g, h, _⟩ := fw_X11_379; ⟨a, b, c, d, e, f, g, h⟩
theorem fw_X11_385 : kFw RX11 385 10 7 .int := ⟨RX11, TX11, 15, tyX11, cd_X11, by decide, (tt lm_661 rfl), rfl, rfl⟩
theorem fl_X11_385 : kFd RX11 385 10 7 .int := let ⟨a, b, c, d, e, f, g, h, _⟩ := fw_X11_385; ⟨a, b, c, d, e, f, g, h⟩
theorem fw_X11_393 : kFw RX11 393 6 0 .boolean := ⟨RX7, TX7, 6, tyX7, cd_X7, by decide, (tt lm_443 rfl), rfl, rfl⟩
theorem fl_X11_393 : kFd RX11 393 6 0 .boolean := let ⟨a, b, c, d, e, f, g, h, _⟩ := fw_X11_393; ⟨a, b, c, d, e, f, g, h⟩
theorem fl_X11_404 : kFd RX11 404 3 1 (.array .int) := ⟨RX4, TX4, 17, tyX4, cd_X4, by decide, (tt lm_527 rfl), rfl⟩
theorem ct_X11_407 : Cond.constant RX11 407 (Int32.ofInt 65535) ∈ TT := (tt lm_1541 rfl)
theorem fl_X0_9 : kFd RX0 9 0 6 (.array .int) := ⟨RX0, TX0, 12, tyX0, cd_X0, by decide, (tt lm_267 rfl), rfl⟩
theorem fl_X0_15 : kFd RX0 15 0 7 (.array .int) := ⟨RX0, TX0, 12, tyX0, cd_X0, by decide, (tt lm_270 rfl), rfl⟩
theorem fl_X0_18 : kFd RX0 18 0 8 (.array .int) := ⟨RX0, TX0, 12, tyX0, cd_X0, by decide, (tt lm_273 rfl), rfl⟩
theorem fl_X0_21 : kFd RX0 21 0 9 (.array .int) := ⟨RX0, TX0, 12, tyX0, cd_X0, by decide, (tt lm_276 rfl), rfl⟩
theorem fl_X0_24 : kFd RX0 24 0 10 (.array .int) := ⟨RX0, TX0, 12, tyX0, cd_X0, by decide, (tt lm_279 rfl), rfl⟩
theorem fl_X0_27 : kFd RX0 27 0 11 (.array .int) := ⟨RX0, TX0, 12, tyX0, cd_X0, by decide, (tt lm_285 rfl), rfl⟩
theorem fw_X0_30 : kFw RX0 30 0 5 .int := ⟨RX0, TX0, 12, tyX0, cd_X0, by decide, (tt lm_266 rfl), rfl, rfl⟩
theorem fl_X0_30 : kFd RX0 30 0 5 .int := let ⟨a, b, c, d, e, f, g, h, _⟩ := fw_X0_30; ⟨a, b, c, d, e, f, g, h⟩
theorem fw_X0_34 : kFw RX0 34 0 0 .int := ⟨RX0, TX0, 12, tyX0, cd_X0, by decide, (tt lm_235 rfl), rfl, rfl⟩
theorem fl_X0_34 : kFd RX0 34 0 0 .int := let ⟨a, b, c, d, e, f, g, h, _⟩ := fw_X0_34; ⟨a, b, c, d, e, f, g, h⟩
theorem fw_X0_37 : kFw RX0 37 0 1 .int := ⟨RX0, TX0, 12, tyX0, cd_X0, by decide, (tt lm_243 rfl), rfl, rfl⟩
theorem fl_X0_37 : kFd RX0 37 0 1 .int := let ⟨a, b, c, d, e, f, g, h, _⟩ := fw_X0_37; ⟨a, b, c, d, e, f, g, h⟩
theorem fw_X0_40 : kFw RX0 40 0 2 .int := ⟨RX0, TX0, 12, tyX0, cd_X0, by decide, (tt lm_247 rfl), rfl, rfl⟩
theorem fl_X0_40 : kFd RX0 40 0 2 .int := let ⟨a, b, c, d, e, f, g, h, _⟩ := fw_X0_40; ⟨a, b, c, d, e, f, g, h⟩
theorem fw_X0_43 : kFw RX0 43 0 3 .int := ⟨RX0, TX0, 12, tyX0, cd_X0, by decide, (tt lm_254 rfl), rfl, rfl⟩
theorem fl_X0_43 : kFd RX0 43 0 3 .int := let ⟨a, b, c, d, e, f, g, h, _⟩ := fw_X0_43; ⟨a, b, c, d, e, f, g, h⟩
theorem fw_X0_46 : kFw RX0 46 0 4 .int := ⟨RX0, TX0, 12, tyX0, cd_X0, by decide, (tt lm_262 rfl), rfl, rfl⟩
theorem fl_X0_46 : kFd RX0 46 0 4 .int := let ⟨a, b, c, d, e, f, g, h, _⟩ := fw_X0_46; ⟨a, b, c, d, e, f, g, h⟩
theorem fw_X1_12 : kFw RX1 12 1 0 (.object "NestedChecker$Setting") := ⟨RX1, TX1, 12, tyX1, cd_X1, by decide, (tt lm_391 rfl), rfl, rfl⟩
theorem fl_X1_12 : kFd RX1 12 1 0 (.object "NestedChecker$Setting") := let ⟨a, b, c, d, e, f, g, h, _⟩ := fw_X1_12; ⟨a, b, c, d, e, f, g, h⟩
theorem fw_X1_18 : kFw RX1 18 1 2 .int := ⟨RX1, TX1, 12, tyX1, cd_X1, by decide, (tt lm_395 rfl), rfl, rfl⟩
theorem fw_X1_22 : kFw RX1 22 1 3 .int := ⟨RX1, TX1, 12, tyX1, cd_X1, by decide, (tt lm_397 rfl), rfl, rfl⟩
theorem fl_X1_25 : kFd RX1 25 1 4 (.array .byte) := ⟨RX1, TX1, 12, tyX1, cd_X1, by decide, (tt lm_399 rfl), rfl⟩
theorem fl_X1_29 : kFd RX1 29 1 10 (.array .int) := ⟨RX1, TX1, 12, tyX1, cd_X1, by decide, (tt lm_405 rfl), rfl⟩
theorem fl_X1_33 : kFd RX1 33 1 11 (.array .int) := ⟨RX1, TX1, 12, tyX1, cd_X1, by decide, (tt lm_406 rfl), rfl⟩
theorem fw_X1_36 : kFw RX1 36 1 1 .int := ⟨RX1, TX1, 12, tyX1, cd_X1, by decide, (tt lm_393 rfl), rfl, rfl⟩
theorem fl_X1_36 : kFd RX1 36 1 1 .int := let ⟨a, b, c, d, e, f, g, h, _⟩ := fw_X1_36; ⟨a, b, c, d, e, f, g, h⟩
theorem fw_X1_45 : kFw RX1 45 1 5 .int := ⟨RX1, TX1, 12, tyX1, cd_X1, by decide, (tt lm_400 rfl), rfl, rfl⟩
theorem fl_X1_45 : kFd RX1 45 1 5 .int := let ⟨a, b, c, d, e, f, g, h, _⟩ := fw_X1_45; ⟨a, b, c, d, e, f, g, h⟩
theorem fw_X1_51 : kFw RX1 51 1 7 .int := ⟨RX1, TX1, 12, tyX1, cd_X1, by decide, (tt lm_402 rfl), rfl, rfl⟩
theorem fl_X1_51 : kFd RX1 51 1 7 .int := let ⟨a, b, c, d, e, f, g, h, _⟩ := fw_X1_51; ⟨a, b, c, d, e, f, g, h⟩
theorem fw_X1_54 : kFw RX1 54 1 8 .int := ⟨RX1, TX1, 12, tyX1, cd_X1, by decide, (tt lm_403 rfl), rfl, rfl⟩
theorem fl_X1_54 : kFd RX1 54 1 8 .int := let ⟨a, b, c, d, e, f, g, h, _⟩ := fw_X1_54; ⟨a, b, c, d, e, f, g, h⟩
theorem fw_X1_61 : kFw RX1 61 1 6 .int := ⟨RX1, TX1, 12, tyX1, cd_X1, by decide, (tt lm_401 rfl), rfl, rfl⟩
theorem fl_X1_61 : kFd RX1 61 1 6 .int := let ⟨a, b, c, d, e, f, g, h, _⟩ := fw_X1_61; ⟨a, b, c, d, e, f, g, h⟩
theorem fw_X1_86 : kFw RX1 86 4 3 .int := ⟨RX5, TX5, 7, tyX5, cd_X5, by decide, (tt lm_370 rfl), rfl, rfl⟩
theorem fl_X1_86 : kFd RX1 86 4 3 .int := let ⟨a, b, c, d, e, f, g, h, _⟩ := fw_X1_86; ⟨a, b, c, d, e, f, g, h⟩
theorem fw_X1_127 : kFw RX1 127 1 9 .int := ⟨RX1, TX1, 12, tyX1, cd_X1, by decide, (tt lm_404 rfl), rfl, rfl⟩
theorem fl_X1_127 : kFd RX1 127 1 9 .int := let ⟨a, b, c, d, e, f, g, h, _⟩ := fw_X1_127; ⟨a, b, c, d, e, f, g, h⟩
theorem fw_X1_139 : kFw RX1 139 4 0 .int := ⟨RX5, TX5, 7, tyX5, cd_X5, by decide, (tt lm_357 rfl), rfl, rfl⟩
theorem fl_X1_139 : kFd RX1 139 4 0 .int := let ⟨a, b, c, d, e, f, g, h, _⟩ := fw_X1_139; ⟨a, b, c, d, e, f, g, h⟩
theorem fw_X1_147 : kFw RX1 147 0 2 .int := ⟨RX0, TX0, 12, tyX0, cd_X0, by decide, (tt lm_250 rfl), rfl, rfl⟩
theorem fl_X1_147 : kFd RX1 147 0 2 .int := let ⟨a, b, c, d, e, f, g, h, _⟩ := fw_X1_147; ⟨a, b, c, d, e, f, g, h⟩
theorem fw_X1_150 : kFw RX1 150 0 3 .int := ⟨RX0, TX0, 12, tyX0, cd_X0, by decide, (tt lm_257 rfl), rfl, rfl⟩
theorem fl_X1_150 : kFd RX1 150 0 3 .int := let ⟨a, b, c, d, e, f, g, h, _⟩ := fw_X1_150; ⟨a, b, c, d, e, f, g, h⟩
theorem fw_X1_153 : kFw RX1 153 0 0 .int := ⟨RX0, TX0, 12, tyX0, cd_X0, by decide, (tt lm_239 rfl), rfl, rfl⟩
theorem fl_X1_153 : kFd RX1 153 0 0 .int := let ⟨a, b, c, d, e, f, g, h, _⟩ := fw_X1_153; ⟨a, b, c, d, e, f, g, h⟩
theorem fw_X1_156 : kFw RX1 156 0 4 .int := ⟨RX0, TX0, 12, tyX0, cd_X0, by decide, (tt lm_264 rfl), rfl, rfl⟩
theorem fl_X1_156 : kFd RX1 156 0 4 .int := let ⟨a, b, c, d, e, f, g, h, _⟩ := fw_X1_156; ⟨a, b, c, d, e, f, g, h⟩
theorem fw_X1_179 : kFw RX1 179 0 1 .int := ⟨RX0, TX0, 12, tyX0, cd_X0, by decide, (tt lm_244 rfl), rfl, rfl⟩
theorem fl_X1_179 : kFd RX1 179 0 1 .int := let ⟨a, b, c, d, e, f, g, h, _⟩ := fw_X1_179; ⟨a, b, c, d, e, f, g, h⟩
theorem fl_X3_11 : kFd RX3 11 2 1 (.array .long) := ⟨RX3, TX3, 7, tyX3, cd_X3, by decide, (tt lm_633 rfl), rfl⟩
theorem fl_X3_15 : kFd RX3 15 2 2 (.array .long) := ⟨RX3, TX3, 7, tyX3, cd_X3, by decide, (tt lm_634 rfl), rfl⟩
theorem fl_X3_18 : kFd RX3 18 2 3 (.array .long) := ⟨RX3, TX3, 7, tyX3, cd_X3, by decide, (tt lm_635 rfl), rfl⟩
theorem fl_X3_21 : kFd RX3 21 2 4 (.array .int) := ⟨RX3, TX3, 7, tyX3, cd_X3, by decide, (tt lm_636 rfl), rfl⟩
theorem fw_X3_25 : kFw RX3 25 2 5 (.array .long) := ⟨RX3, TX3, 7, tyX3, cd_X3, by decide, (tt lm_637 rfl), rfl, rfl⟩
theorem fl_X3_25 : kFd RX3 25 2 5 (.array .long) := let ⟨a, b, c, d, e, f, g, h, _⟩ := fw_X3_25; ⟨a, b, c, d, e, f, g, h⟩
theorem fw_X3_28 : kFw RX3 28 2 6 (.array .long) := ⟨RX3, TX3, 7, tyX3, cd_X3, by decide, (tt lm_638 rfl), rfl, rfl⟩
theorem fl_X3_28 : kFd RX3 28 2 6 (.array .long) := let ⟨a, b, c, d, e, f, g, h, _⟩ := fw_X3_28; ⟨a, b, c, d, e, f, g, h⟩
theorem fw_X3_31 : kFw RX3 31 2 0 .int := ⟨RX3, TX3, 7, tyX3, cd_X3, by decide, (tt lm_632 rfl), rfl, rfl⟩
theorem fl_X3_31 : kFd RX3 31 2 0 .int := let ⟨a, b, c, d, e, f, g, h, _⟩ := fw_X3_31; ⟨a, b, c, d, e, f, g, h⟩
theorem fw_X3_58 : kFw RX3 58 0 4 .int := ⟨RX0, TX0, 12, tyX0, cd_X0, by decide, (tt lm_263 rfl), rfl, rfl⟩
theorem fl_X3_58 : kFd RX3 58 0 4 .int := let ⟨a, b, c, d, e, f, g, h, _⟩ := fw_X3_58; ⟨a, b, c, d, e, f, g, h⟩
theorem fl_X3_63 : kFd RX3 63 0 6 (.array .int) := ⟨RX0, TX0, 12, tyX0, cd_X0, by decide, (tt lm_268 rfl), rfl⟩
theorem fl_X3_66 : kFd RX3 66 0 9 (.array .int) := ⟨RX0, TX0, 12, tyX0, cd_X0, by decide, (tt lm_277 rfl), rfl⟩
theorem fl_X3_69 : kFd RX3 69 0 7 (.array .int) := ⟨RX0, TX0, 12, tyX0, cd_X0, by decide, (tt lm_271 rfl), rfl⟩
theorem fl_X3_72 : kFd RX3 72 0 8 (.array .int) := ⟨RX0, TX0, 12, tyX0, cd_X0, by decide, (tt lm_274 rfl), rfl⟩
theorem fw_X3_83 : kFw RX3 83 0 2 .int := ⟨RX0, TX0, 12, tyX0, cd_X0, by decide, (tt lm_251 rfl), rfl, rfl⟩
theorem fl_X3_83 : kFd RX3 83 0 2 .int := let ⟨a, b, c, d, e, f, g, h, _⟩ := fw_X3_83; ⟨a, b, c, d, e, f, g, h⟩
theorem fw_X3_93 : kFw RX3 93 0 3 .int := ⟨RX0, TX0, 12, tyX0, cd_X0, by decide, (tt lm_258 rfl), rfl, rfl⟩
theorem fl_X3_93 : kFd RX3 93 0 3 .int := let ⟨a, b, c, d, e, f, g, h, _⟩ := fw_X3_93; ⟨a, b, c, d, e, f, g, h⟩
theorem fl_X4_9 : kFd RX4 9 3 0 (.array .int) := ⟨RX4, TX4, 17, tyX4, cd_X4, by decide, (tt lm_524 rfl), rfl⟩
theorem fl_X4_15 : kFd RX4 15 3 1 (.array .int) := ⟨RX4, TX4, 17, tyX4, cd_X4, by decide, (tt lm_526 rfl), rfl⟩
theorem fl_X4_21 : kFd RX4 21 3 6 (.object "NestedChecker$Automaton") := ⟨RX4, TX4, 17, tyX4, cd_X4, by decide, (tt lm_532 rfl), rfl⟩
theorem fw_X4_25 : kFw RX4 25 3 7 (.object "NestedChecker$Automaton") := ⟨RX4, TX4, 17, tyX4, cd_X4, by decide, (tt lm_533 rfl), rfl, rfl⟩
theorem fl_X4_25 : kFd RX4 25 3 7 (.object "NestedChecker$Automaton") := let ⟨a, b, c, d, e, f, g, h, _⟩ := fw_X4_25; ⟨a, b, c, d, e, f, g, h⟩
theorem fw_X4_28 : kFw RX4 28 3 8 (.object "NestedChecker$Automaton") := ⟨RX4, TX4, 17, tyX4, cd_X4, by decide, (tt lm_534 rfl), rfl, rfl⟩
theorem fl_X4_28 : kFd RX4 28 3 8 (.object "NestedChecker$Automaton") := let ⟨a, b, c, d, e, f, g, h, _⟩ := fw_X4_28; ⟨a, b, c, d, e, f, g, h⟩
theorem fl_X4_36 : kFd RX4 36 3 10 (.object "NestedChecker$Shelf") := ⟨RX4, TX4, 17, tyX4, cd_X4, by decide, (tt lm_536 rfl), rfl⟩
theorem fl_X4_40 : kFd RX4 40 3 11 (.object "NestedChecker$Shelf") := ⟨RX4, TX4, 17, tyX4, cd_X4, by decide, (tt lm_537 rfl), rfl⟩
theorem fl_X4_43 : kFd RX4 43 3 12 (.object "NestedChecker$Shelf") := ⟨RX4, TX4, 17, tyX4, cd_X4, by decide, (tt lm_538 rfl), rfl⟩
theorem fl_X4_46 : kFd RX4 46 3 14 (.array .int) := ⟨RX4, TX4, 17, tyX4, cd_X4, by decide, (tt lm_540 rfl), rfl⟩
theorem fl_X4_49 : kFd RX4 49 3 15 (.array .int) := ⟨RX4, TX4, 17, tyX4, cd_X4, by decide, (tt lm_541 rfl), rfl⟩
theorem fl_X4_52 : kFd RX4 52 3 16 (.array .int) := ⟨RX4, TX4, 17, tyX4, cd_X4, by decide, (tt lm_542 rfl), rfl⟩
theorem fw_X4_58 : kFw RX4 58 3 2 .int := ⟨RX4, TX4, 17, tyX4, cd_X4, by decide, (tt lm_528 rfl), rfl, rfl⟩
theorem fl_X4_58 : kFd RX4 58 3 2 .int := let ⟨a, b, c, d, e, f, g, h, _⟩ := fw_X4_58; ⟨a, b, c, d, e, f, g, h⟩
theorem fl_X4_94 : kFd RX4 94 5 2 (.array .int) := ⟨RX6, TX6, 5, tyX6, cd_X6, by decide, (tt lm_487 rfl), rfl⟩
theorem fw_X4_97 : kFw RX4 97 4 0 .int := ⟨RX5, TX5, 7, tyX5, cd_X5, by decide, (tt lm_355 rfl), rfl, rfl⟩
theorem fl_X4_97 : kFd RX4 97 4 0 .int := let ⟨a, b, c, d, e, f, g, h, _⟩ := fw_X4_97; ⟨a, b, c, d, e, f, g, h⟩
theorem fw_X4_100 : kFw RX4 100 3 3 .int := ⟨RX4, TX4, 17, tyX4, cd_X4, by decide, (tt lm_529 rfl), rfl, rfl⟩
theorem fl_X4_100 : kFd RX4 100 3 3 .int := let ⟨a, b, c, d, e, f, g, h, _⟩ := fw_X4_100; ⟨a, b, c, d, e, f, g, h⟩
theorem fw_X4_101 : kFw RX4 101 4 1 .int := ⟨RX5, TX5, 7, tyX5, cd_X5, by decide, (tt lm_361 rfl), rfl, rfl⟩
theorem fl_X4_101 : kFd RX4 101 4 1 .int := let ⟨a, b, c, d, e, f, g, h, _⟩ := fw_X4_101; ⟨a, b, c, d, e, f, g, h⟩
theorem fw_X4_104 : kFw RX4 104 3 4 .int := ⟨RX4, TX4, 17, tyX4, cd_X4, by decide, (tt lm_530 rfl), rfl, rfl⟩
theorem fl_X4_104 : kFd RX4 104 3 4 .int := let ⟨a, b, c, d, e, f, g, h, _⟩ := fw_X4_104; ⟨a, b, c, d, e, f, g, h⟩
theorem fw_X4_105 : kFw RX4 105 4 2 .int := ⟨RX5, TX5, 7, tyX5, cd_X5, by decide, (tt lm_367 rfl), rfl, rfl⟩
theorem fl_X4_105 : kFd RX4 105 4 2 .int := let ⟨a, b, c, d, e, f, g, h, _⟩ := fw_X4_105; ⟨a, b, c, d, e, f, g, h⟩
theorem fw_X4_108 : kFw RX4 108 3 5 .int := ⟨RX4, TX4, 17, tyX4, cd_X4, by decide, (tt lm_531 rfl), rfl, rfl⟩
theorem fl_X4_108 : kFd RX4 108 3 5 .int := let ⟨a, b, c, d, e, f, g, h, _⟩ := fw_X4_108; ⟨a, b, c, d, e, f, g, h⟩
theorem fw_X4_109 : kFw RX4 109 3 9 .boolean := ⟨RX4, TX4, 17, tyX4, cd_X4, by decide, (tt lm_535 rfl), rfl, rfl⟩
theorem fl_X4_109 : kFd RX4 109 3 9 .boolean := let ⟨a, b, c, d, e, f, g, h, _⟩ := fw_X4_109; ⟨a, b, c, d, e, f, g, h⟩
theorem fw_X4_116 : kFw RX4 116 3 13 .int := ⟨RX4, TX4, 17, tyX4, cd_X4, by decide, (tt lm_539 rfl), rfl, rfl⟩
theorem fl_X4_116 : kFd RX4 116 3 13 .int := let ⟨a, b, c, d, e, f, g, h, _⟩ := fw_X4_116; ⟨a, b, c, d, e, f, g, h⟩
theorem fw_X4_126 : kFw RX4 126 0 0 .int := ⟨RX0, TX0, 12, tyX0, cd_X0, by decide, (tt lm_240 rfl), rfl, rfl⟩
theorem fl_X4_126 : kFd RX4 126 0 0 .int := let ⟨a, b, c, d, e, f, g, h, _⟩ := fw_X4_126; ⟨a, b, c, d, e, f, g, h⟩
theorem fl_X4_137 : kFd RX4 137 0 10 (.array .int) := ⟨RX0, TX0, 12, tyX0, cd_X0, by decide, (tt lm_283 rfl), rfl⟩
theorem fw_X4_150 : kFw RX4 150 5 0 .int := ⟨RX6, TX6, 5, tyX6, cd_X6, by decide, (tt lm_483 rfl), rfl, rfl⟩
theorem fl_X4_150 : kFd RX4 150 5 0 .int := let ⟨a, b, c, d, e, f, g, h, _⟩ := fw_X4_150; ⟨a, b, c, d, e, f, g, h⟩
theorem fl_X4_153 : kFd RX4 153 5 1 (.array .int) := ⟨RX6, TX6, 5, tyX6, cd_X6, by decide, (tt lm_485 rfl), rfl⟩
theorem fl_X4_173 : kFd RX4 173 5 3 (.array .int) := ⟨RX6, TX6, 5, tyX6, cd_X6, by decide, (tt lm_489 rfl), rfl⟩
theorem ct_X4_184 : Cond.constant RX4 184 (Int32.ofInt 1000000000) ∈ TT := (tt lm_1333 rfl)
theorem fw_X4_190 : kFw RX4 190 0 2 .int := ⟨RX0, TX0, 12, tyX0, cd_X0, by decide, (tt lm_253 rfl), rfl, rfl⟩
theorem fl_X4_190 : kFd RX4 190 0 2 .int := let ⟨a, b, c, d, e, f, g, h, _⟩ := fw_X4_190; ⟨a, b, c, d, e, f, g, h⟩
theorem fw_X4_212 : kFw RX4 212 0 3 .int := ⟨RX0, TX0, 12, tyX0, cd_X0, by decide, (tt lm_261 rfl), rfl, rfl⟩
theorem fl_X4_212 : kFd RX4 212 0 3 .int := let ⟨a, b, c, d, e, f, g, h, _⟩ := fw_X4_212; ⟨a, b, c, d, e, f, g, h⟩
theorem fl_X5_12 : kFd RX5 12 4 4 (.object "NestedChecker$Automaton") := ⟨RX5, TX5, 7, tyX5, cd_X5, by decide, (tt lm_372 rfl), rfl⟩
theorem fl_X5_18 : kFd RX5 18 4 5 (.object "NestedChecker$Automaton") := ⟨RX5, TX5, 7, tyX5, cd_X5, by decide, (tt lm_373 rfl), rfl⟩
theorem fl_X5_24 : kFd RX5 24 4 6 (.object "NestedChecker$Walk") := ⟨RX5, TX5, 7, tyX5, cd_X5, by decide, (tt lm_374 rfl), rfl⟩
theorem fw_X5_28 : kFw RX5 28 4 0 .int := ⟨RX5, TX5, 7, tyX5, cd_X5, by decide, (tt lm_353 rfl), rfl, rfl⟩
theorem fl_X5_28 : kFd RX5 28 4 0 .int := let ⟨a, b, c, d, e, f, g, h, _⟩ := fw_X5_28; ⟨a, b, c, d, e, f, g, h⟩
theorem fw_X5_32 : kFw RX5 32 4 1 .int := ⟨RX5, TX5, 7, tyX5, cd_X5, by decide, (tt lm_359 rfl), rfl, rfl⟩
theorem fl_X5_32 : kFd RX5 32 4 1 .int := let ⟨a, b, c, d, e, f, g, h, _⟩ := fw_X5_32; ⟨a, b, c, d, e, f, g, h⟩
theorem fw_X5_35 : kFw RX5 35 4 2 .int := ⟨RX5, TX5, 7, tyX5, cd_X5, by decide, (tt lm_364 rfl), rfl, rfl⟩
theorem fl_X5_35 : kFd RX5 35 4 2 .int := let ⟨a, b, c, d, e, f, g, h, _⟩ := fw_X5_35; ⟨a, b, c, d, e, f, g, h⟩
theorem fw_X5_38 : kFw RX5 38 4 3 .int := ⟨RX5, TX5, 7, tyX5, cd_X5, by decide, (tt lm_369 rfl), rfl, rfl⟩
theorem fl_X5_38 : kFd RX5 38 4 3 .int := let ⟨a, b, c, d, e, f, g, h, _⟩ := fw_X5_38; ⟨a, b, c, d, e, f, g, h⟩
theorem fw_X5_41 : kFw RX5 41 9 0 .int := ⟨RX10, TX10, 8, tyX10, cd_X10, by decide, (tt lm_318 rfl), rfl, rfl⟩
theorem fl_X5_41 : kFd RX5 41 9 0 .int := let ⟨a, b, c, d, e, f, g, h, _⟩ := fw_X5_41; ⟨a, b, c, d, e, f, g, h⟩
theorem fw_X5_65 : kFw RX5 65 0 0 .int := ⟨RX0, TX0, 12, tyX0, cd_X0, by decide, (tt lm_241 rfl), rfl, rfl⟩
theorem fl_X5_65 : kFd RX5 65 0 0 .int := let ⟨a, b, c, d, e, f, g, h, _⟩ := fw_X5_65; ⟨a, b, c, d, e, f, g, h⟩
theorem fl_X5_73 : kFd RX5 73 0 10 (.array .int) := ⟨RX0, TX0, 12, tyX0, cd_X0, by decide, (tt lm_284 rfl), rfl⟩
theorem fw_X5_100 : kFw RX5 100 9 3 .int := ⟨RX10, TX10, 8, tyX10, cd_X10, by decide, (tt lm_326 rfl), rfl, rfl⟩
theorem fl_X5_100 : kFd RX5 100 9 3 .int := let ⟨a, b, c, d, e, f, g, h, _⟩ := fw_X5_100; ⟨a, b, c, d, e, f, g, h⟩
theorem fw_X5_101 : kFw RX5 101 9 4 .int := ⟨RX10, TX10, 8, tyX10, cd_X10, by decide, (tt lm_329 rfl), rfl, rfl⟩
theorem fl_X5_101 : kFd RX5 101 9 4 .int := let ⟨a, b, c, d, e, f, g, h, _⟩ := fw_X5_101; ⟨a, b, c, d, e, f, g, h⟩
theorem fw_X5_104 : kFw RX5 104 9 2 .int := ⟨RX10, TX10, 8, tyX10, cd_X10, by decide, (tt lm_323 rfl), rfl, rfl⟩
theorem fl_X5_104 : kFd RX5 104 9 2 .int := let ⟨a, b, c, d, e, f, g, h, _⟩ := fw_X5_104; ⟨a, b, c, d, e, f, g, h⟩
theorem fw_X5_111 : kFw RX5 111 0 3 .int := ⟨RX0, TX0, 12, tyX0, cd_X0, by decide, (tt lm_260 rfl), rfl, rfl⟩
theorem fl_X5_111 : kFd RX5 111 0 3 .int := let ⟨a, b, c, d, e, f, g, h, _⟩ := fw_X5_111; ⟨a, b, c, d, e, f, g, h⟩
theorem fl_X5_114 : kFd RX5 114 9 7 (.array .int) := ⟨RX10, TX10, 8, tyX10, cd_X10, by decide, (tt lm_335 rfl), rfl⟩
theorem fl_X5_117 : kFd RX5 117 9 6 (.array .int) := ⟨RX10, TX10, 8, tyX10, cd_X10, by decide, (tt lm_333 rfl), rfl⟩
theorem fl_X5_120 : kFd RX5 120 9 5 (.array .int) := ⟨RX10, TX10, 8, tyX10, cd_X10, by decide, (tt lm_331 rfl), rfl⟩
theorem fl_X6_15 : kFd RX6 15 5 1 (.array .int) := ⟨RX6, TX6, 5, tyX6, cd_X6, by decide, (tt lm_484 rfl), rfl⟩
theorem fl_X6_21 : kFd RX6 21 5 2 (.array .int) := ⟨RX6, TX6, 5, tyX6, cd_X6, by decide, (tt lm_486 rfl), rfl⟩
theorem fl_X6_24 : kFd RX6 24 5 3 (.array .int) := ⟨RX6, TX6, 5, tyX6, cd_X6, by decide, (tt lm_488 rfl), rfl⟩
theorem fl_X6_27 : kFd RX6 27 5 4 (.array .int) := ⟨RX6, TX6, 5, tyX6, cd_X6, by decide, (tt lm_490 rfl), rfl⟩
theorem fw_X6_30 : kFw RX6 30 5 0 .int := ⟨RX6, TX6, 5, tyX6, cd_X6, by decide, (tt lm_482 rfl), rfl, rfl⟩
theorem fl_X6_30 : kFd RX6 30 5 0 .int := let ⟨a, b, c, d, e, f, g, h, _⟩ := fw_X6_30; ⟨a, b, c, d, e, f, g, h⟩
theorem fl_X7_9 : kFd RX7 9 6 2 (.array .int) := ⟨RX7, TX7, 6, tyX7, cd_X7, by decide, (tt lm_446 rfl), rfl⟩
theorem fl_X7_15 : kFd RX7 15 6 3 (.array .int) := ⟨RX7, TX7, 6, tyX7, cd_X7, by decide, (tt lm_448 rfl), rfl⟩
theorem fl_X7_18 : kFd RX7 18 6 4 (.array .int) := ⟨RX7, TX7, 6, tyX7, cd_X7, by decide, (tt lm_450 rfl), rfl⟩
theorem fl_X7_21 : kFd RX7 21 6 5 (.array .int) := ⟨RX7, TX7, 6, tyX7, cd_X7, by decide, (tt lm_451 rfl), rfl⟩
theorem fw_X7_24 : kFw RX7 24 6 1 .int := ⟨RX7, TX7, 6, tyX7, cd_X7, by decide, (tt lm_444 rfl), rfl, rfl⟩
theorem fl_X7_24 : kFd RX7 24 6 1 .int := let ⟨a, b, c, d, e, f, g, h, _⟩ := fw_X7_24; ⟨a, b, c, d, e, f, g, h⟩
theorem fw_X7_28 : kFw RX7 28 6 0 .boolean := ⟨RX7, TX7, 6, tyX7, cd_X7, by decide, (tt lm_442 rfl), rfl, rfl⟩
theorem fw_X7_38 : kFw RX7 38 0 2 .int := ⟨RX0, TX0, 12, tyX0, cd_X0, by decide, (tt lm_249 rfl), rfl, rfl⟩
theorem fl_X7_38 : kFd RX7 38 0 2 .int := let ⟨a, b, c, d, e, f, g, h, _⟩ := fw_X7_38; ⟨a, b, c, d, e, f, g, h⟩
theorem fw_X7_43 : kFw RX7 43 0 0 .int := ⟨RX0, TX0, 12, tyX0, cd_X0, by decide, (tt lm_237 rfl), rfl, rfl⟩
theorem fl_X7_43 : kFd RX7 43 0 0 .int := let ⟨a, b, c, d, e, f, g, h, _⟩ := fw_X7_43; ⟨a, b, c, d, e, f, g, h⟩
theorem fw_X7_70 : kFw RX7 70 4 2 .int := ⟨RX5, TX5, 7, tyX5, cd_X5, by decide, (tt lm_366 rfl), rfl, rfl⟩
theorem fl_X7_70 : kFd RX7 70 4 2 .int := let ⟨a, b, c, d, e, f, g, h, _⟩ := fw_X7_70; ⟨a, b, c, d, e, f, g, h⟩
theorem fl_X7_75 : kFd RX7 75 0 10 (.array .int) := ⟨RX0, TX0, 12, tyX0, cd_X0, by decide, (tt lm_281 rfl), rfl⟩
theorem fw_X7_86 : kFw RX7 86 4 0 .int := ⟨RX5, TX5, 7, tyX5, cd_X5, by decide, (tt lm_356 rfl), rfl, rfl⟩
theorem fl_X7_86 : kFd RX7 86 4 0 .int := let ⟨a, b, c, d, e, f, g, h, _⟩ := fw_X7_86; ⟨a, b, c, d, e, f, g, h⟩
theorem fw_X7_89 : kFw RX7 89 4 1 .int := ⟨RX5, TX5, 7, tyX5, cd_X5, by decide, (tt lm_362 rfl), rfl, rfl⟩
theorem fl_X7_89 : kFd RX7 89 4 1 .int := let ⟨a, b, c, d, e, f, g, h, _⟩ := fw_X7_89; ⟨a, b, c, d, e, f, g, h⟩
theorem fl_X8_11 : kFd RX8 11 7 4 (.array .int) := ⟨RX8, TX8, 13, tyX8, cd_X8, by decide, (tt lm_588 rfl), rfl⟩
theorem fl_X8_15 : kFd RX8 15 7 5 (.array .int) := ⟨RX8, TX8, 13, tyX8, cd_X8, by decide, (tt lm_589 rfl), rfl⟩
theorem fl_X8_18 : kFd RX8 18 7 6 (.array .int) := ⟨RX8, TX8, 13, tyX8, cd_X8, by decide, (tt lm_590 rfl), rfl⟩
theorem fl_X8_21 : kFd RX8 21 7 8 (.array .int) := ⟨RX8, TX8, 13, tyX8, cd_X8, by decide, (tt lm_592 rfl), rfl⟩
theorem fl_X8_24 : kFd RX8 24 7 9 (.array .int) := ⟨RX8, TX8, 13, tyX8, cd_X8, by decide, (tt lm_593 rfl), rfl⟩
theorem fl_X8_27 : kFd RX8 27 7 10 (.array .int) := ⟨RX8, TX8, 13, tyX8, cd_X8, by decide, (tt lm_594 rfl), rfl⟩
theorem fl_X8_30 : kFd RX8 30 7 11 (.array .int) := ⟨RX8, TX8, 13, tyX8, cd_X8, by decide, (tt lm_595 rfl), rfl⟩
theorem fl_X8_33 : kFd RX8 33 7 12 (.array .int) := ⟨RX8, TX8, 13, tyX8, cd_X8, by decide, (tt lm_596 rfl), rfl⟩
theorem fw_X8_36 : kFw RX8 36 4 0 .int := ⟨RX5, TX5, 7, tyX5, cd_X5, by decide, (tt lm_354 rfl), rfl, rfl⟩
theorem fl_X8_36 : kFd RX8 36 4 0 .int := let ⟨a, b, c, d, e, f, g, h, _⟩ := fw_X8_36; ⟨a, b, c, d, e, f, g, h⟩
theorem fw_X8_42 : kFw RX8 42 7 0 .int := ⟨RX8, TX8, 13, tyX8, cd_X8, by decide, (tt lm_584 rfl), rfl, rfl⟩
theorem fl_X8_42 : kFd RX8 42 7 0 .int := let ⟨a, b, c, d, e, f, g, h, _⟩ := fw_X8_42; ⟨a, b, c, d, e, f, g, h⟩
theorem fw_X8_43 : kFw RX8 43 4 1 .int := ⟨RX5, TX5, 7, tyX5, cd_X5, by decide, (tt lm_360 rfl), rfl, rfl⟩
theorem fl_X8_43 : kFd RX8 43 4 1 .int := let ⟨a, b, c, d, e, f, g, h, _⟩ := fw_X8_43; ⟨a, b, c, d, e, f, g, h⟩
theorem fw_X8_46 : kFw RX8 46 7 1 .int := ⟨RX8, TX8, 13, tyX8, cd_X8, by decide, (tt lm_585 rfl), rfl, rfl⟩
theorem fl_X8_46 : kFd RX8 46 7 1 .int := let ⟨a, b, c, d, e, f, g, h, _⟩ := fw_X8_46; ⟨a, b, c, d, e, f, g, h⟩
theorem fw_X8_47 : kFw RX8 47 4 2 .int := ⟨RX5, TX5, 7, tyX5, cd_X5, by decide, (tt lm_365 rfl), rfl, rfl⟩
theorem fl_X8_47 : kFd RX8 47 4 2 .int := let ⟨a, b, c, d, e, f, g, h, _⟩ := fw_X8_47; ⟨a, b, c, d, e, f, g, h⟩
theorem fw_X8_50 : kFw RX8 50 7 2 .int := ⟨RX8, TX8, 13, tyX8, cd_X8, by decide, (tt lm_586 rfl), rfl, rfl⟩
theorem fl_X8_50 : kFd RX8 50 7 2 .int := let ⟨a, b, c, d, e, f, g, h, _⟩ := fw_X8_50; ⟨a, b, c, d, e, f, g, h⟩
theorem fw_X8_61 : kFw RX8 61 0 2 .int := ⟨RX0, TX0, 12, tyX0, cd_X0, by decide, (tt lm_248 rfl), rfl, rfl⟩
theorem fl_X8_61 : kFd RX8 61 0 2 .int := let ⟨a, b, c, d, e, f, g, h, _⟩ := fw_X8_61; ⟨a, b, c, d, e, f, g, h⟩
theorem fw_X8_74 : kFw RX8 74 0 3 .int := ⟨RX0, TX0, 12, tyX0, cd_X0, by decide, (tt lm_255 rfl), rfl, rfl⟩
theorem fl_X8_74 : kFd RX8 74 0 3 .int := let ⟨a, b, c, d, e, f, g, h, _⟩ := fw_X8_74; ⟨a, b, c, d, e, f, g, h⟩
theorem fw_X8_87 : kFw RX8 87 7 3 .int := ⟨RX8, TX8, 13, tyX8, cd_X8, by decide, (tt lm_587 rfl), rfl, rfl⟩
theorem fl_X8_87 : kFd RX8 87 7 3 .int := let ⟨a, b, c, d, e, f, g, h, _⟩ := fw_X8_87; ⟨a, b, c, d, e, f, g, h⟩
theorem fw_X8_90 : kFw RX8 90 7 7 .int := ⟨RX8, TX8, 13, tyX8, cd_X8, by decide, (tt lm_591 rfl), rfl, rfl⟩
theorem fl_X8_90 : kFd RX8 90 7 7 .int := let ⟨a, b, c, d, e, f, g, h, _⟩ := fw_X8_90; ⟨a, b, c, d, e, f, g, h⟩
theorem fw_X8_93 : kFw RX8 93 0 0 .int := ⟨RX0, TX0, 12, tyX0, cd_X0, by decide, (tt lm_238 rfl), rfl, rfl⟩
theorem fl_X8_93 : kFd RX8 93 0 0 .int := let ⟨a, b, c, d, e, f, g, h, _⟩ := fw_X8_93; ⟨a, b, c, d, e, f, g, h⟩
theorem fl_X8_117 : kFd RX8 117 0 10 (.array .int) := ⟨RX0, TX0, 12, tyX0, cd_X0, by decide, (tt lm_282 rfl), rfl⟩
theorem fl_X9_11 : kFd RX9 11 8 0 (.array .long) := ⟨RX9, TX9, 3, tyX9, cd_X9, by decide, (tt lm_205 rfl), rfl⟩
theorem fl_X9_15 : kFd RX9 15 8 1 (.array .int) := ⟨RX9, TX9, 3, tyX9, cd_X9, by decide, (tt lm_206 rfl), rfl⟩
theorem fl_X9_19 : kFd RX9 19 8 2 (.array .int) := ⟨RX9, TX9, 3, tyX9, cd_X9, by decide, (tt lm_207 rfl), rfl⟩
theorem fw_X10_9 : kFw RX10 9 9 0 .int := ⟨RX10, TX10, 8, tyX10, cd_X10, by decide, (tt lm_317 rfl), rfl, rfl⟩
theorem fl_X10_9 : kFd RX10 9 9 0 .int := let ⟨a, b, c, d, e, f, g, h, _⟩ := fw_X10_9; ⟨a, b, c, d, e, f, g, h⟩
theorem fl_X10_15 : kFd RX10 15 9 5 (.array .int) := ⟨RX10, TX10, 8, tyX10, cd_X10, by decide, (tt lm_330 rfl), rfl⟩
theorem fl_X10_19 : kFd RX10 19 9 6 (.array .int) := ⟨RX10, TX10, 8, tyX10, cd_X10, by decide, (tt lm_332 rfl), rfl⟩
theorem fl_X10_22 : kFd RX10 22 9 7 (.array .int) := ⟨RX10, TX10, 8, tyX10, cd_X10, by decide, (tt lm_334 rfl), rfl⟩
theorem fw_X10_25 : kFw RX10 25 9 1 .int := ⟨RX10, TX10, 8, tyX10, cd_X10, by decide, (tt lm_320 rfl), rfl, rfl⟩
theorem fl_X10_25 : kFd RX10 25 9 1 .int := let ⟨a, b, c, d, e, f, g, h, _⟩ := fw_X10_25; ⟨a, b, c, d, e, f, g, h⟩
theorem fw_X10_28 : kFw RX10 28 9 2 .int := ⟨RX10, TX10, 8, tyX10, cd_X10, by decide, (tt lm_322 rfl), rfl, rfl⟩
theorem fl_X10_28 : kFd RX10 28 9 2 .int := let ⟨a, b, c, d, e, f, g, h, _⟩ := fw_X10_28; ⟨a, b, c, d, e, f, g, h⟩
theorem fw_X10_31 : kFw RX10 31 0 2 .int := ⟨RX0, TX0, 12, tyX0, cd_X0, by decide, (tt lm_246 rfl), rfl, rfl⟩
theorem fl_X10_31 : kFd RX10 31 0 2 .int := let ⟨a, b, c, d, e, f, g, h, _⟩ := fw_X10_31; ⟨a, b, c, d, e, f, g, h⟩
theorem fw_X10_36 : kFw RX10 36 9 3 .int := ⟨RX10, TX10, 8, tyX10, cd_X10, by decide, (tt lm_325 rfl), rfl, rfl⟩
theorem fl_X10_36 : kFd RX10 36 9 3 .int := let ⟨a, b, c, d, e, f, g, h, _⟩ := fw_X10_36; ⟨a, b, c, d, e, f, g, h⟩
theorem fw_X10_39 : kFw RX10 39 0 0 .int := ⟨RX0, TX0, 12, tyX0, cd_X0, by decide, (tt lm_236 rfl), rfl, rfl⟩
theorem fl_X10_39 : kFd RX10 39 0 0 .int := let ⟨a, b, c, d, e, f, g, h, _⟩ := fw_X10_39; ⟨a, b, c, d, e, f, g, h⟩
theorem fw_X10_46 : kFw RX10 46 9 4 .int := ⟨RX10, TX10, 8, tyX10, cd_X10, by decide, (tt lm_328 rfl), rfl, rfl⟩
theorem fl_X10_46 : kFd RX10 46 9 4 .int := let ⟨a, b, c, d, e, f, g, h, _⟩ := fw_X10_46; ⟨a, b, c, d, e, f, g, h⟩
theorem fl_X10_49 : kFd RX10 49 0 10 (.array .int) := ⟨RX0, TX0, 12, tyX0, cd_X0, by decide, (tt lm_280 rfl), rfl⟩
theorem fw_X10_63 : kFw RX10 63 0 3 .int := ⟨RX0, TX0, 12, tyX0, cd_X0, by decide, (tt lm_256 rfl), rfl, rfl⟩
theorem fl_X10_63 : kFd RX10 63 0 3 .int := let ⟨a, b, c, d, e, f, g, h, _⟩ := fw_X10_63; ⟨a, b, c, d, e, f, g, h⟩
theorem ct_L_32 : Cond.constantLong RL 32 (Int64.ofInt 4294967295) ∈ TT := (tt lm_2364 rfl)
theorem fl_X12_7 : kFd RX12 7 11 0 (.array .int) := ⟨RX12, TX12, 51, tyX12, cd_X12, by decide, (tt lm_1601 rfl), rfl⟩
theorem fl_X12_13 : kFd RX12 13 11 1 (.array .long) := ⟨RX12, TX12, 51, tyX12, cd_X12, by decide, (tt lm_1602 rfl), rfl⟩
theorem fw_X12_17 : kFw RX12 17 11 4 .long := ⟨RX12, TX12, 51, tyX12, cd_X12, by decide, (tt lm_1605 rfl), rfl, rfl⟩
theorem fl_X12_17 : kFd RX12 17 11 4 .long := let ⟨a, b, c, d, e, f, g, h, _⟩ := fw_X12_17; ⟨a, b, c, d, e, f, g, h⟩
theorem fl_X12_21 : kFd RX12 21 11 5 (.array .int) := ⟨RX12, TX12, 51, tyX12, cd_X12, by decide, (tt lm_1606 rfl), rfl⟩
theorem fl_X12_24 : kFd RX12 24 11 6 (.array .int) := ⟨RX12, TX12, 51, tyX12, cd_X12, by decide, (tt lm_1607 rfl), rfl⟩
theorem fl_X12_27 : kFd RX12 27 11 7 (.array .long) := ⟨RX12, TX12, 51, tyX12, cd_X12, by decide, (tt lm_1608 rfl), rfl⟩
theorem fl_X12_30 : kFd RX12 30 11 8 (.array .byte) := ⟨RX12, TX12, 51, tyX12, cd_X12, by decide, (tt lm_1609 rfl), rfl⟩
theorem fl_X12_34 : kFd RX12 34 11 9 (.array .byte) := ⟨RX12, TX12, 51, tyX12, cd_X12, by decide, (tt lm_1610 rfl), rfl⟩
theorem fw_X12_37 : kFw RX12 37 11 16 .int := ⟨RX12, TX12, 51, tyX12, cd_X12, by decide, (tt lm_1617 rfl), rfl, rfl⟩
theorem fl_X12_37 : kFd RX12 37 11 16 .int := let ⟨a, b, c, d, e, f, g, h, _⟩ := fw_X12_37; ⟨a, b, c, d, e, f, g, h⟩
theorem fw_X12_41 : kFw RX12 41 11 17 .int := ⟨RX12, TX12, 51, tyX12, cd_X12, by decide, (tt lm_1618 rfl), rfl, rfl⟩
theorem fl_X12_41 : kFd RX12 41 11 17 .int := let ⟨a, b, c, d, e, f, g, h, _⟩ := fw_X12_41; ⟨a, b, c, d, e, f, g, h⟩
theorem fl_X12_44 : kFd RX12 44 11 20 (.array .int) := ⟨RX12, TX12, 51, tyX12, cd_X12, by decide, (tt lm_1621 rfl), rfl⟩
theorem fl_X12_47 : kFd RX12 47 11 21 (.array .int) := ⟨RX12, TX12, 51, tyX12, cd_X12, by decide, (tt lm_1622 rfl), rfl⟩
theorem fl_X12_50 : kFd RX12 50 11 22 (.array .int) := ⟨RX12, TX12, 51, tyX12, cd_X12, by decide, (tt lm_1623 rfl), rfl⟩
theorem fl_X12_53 : kFd RX12 53 11 23 (.array .int) := ⟨RX12, TX12, 51, tyX12, cd_X12, by decide, (tt lm_1624 rfl), rfl⟩
theorem fl_X12_56 : kFd RX12 56 11 24 (.array .int) := ⟨RX12, TX12, 51, tyX12, cd_X12, by decide, (tt lm_1625 rfl), rfl⟩
theorem fl_X12_59 : kFd RX12 59 11 25 (.array .long) := ⟨RX12, TX12, 51, tyX12, cd_X12, by decide, (tt lm_1626 rfl), rfl⟩
theorem fl_X12_62 : kFd RX12 62 11 26 (.array .long) := ⟨RX12, TX12, 51, tyX12, cd_X12, by decide, (tt lm_1627 rfl), rfl⟩
theorem fl_X12_65 : kFd RX12 65 11 27 (.array .long) := ⟨RX12, TX12, 51, tyX12, cd_X12, by decide, (tt lm_1628 rfl), rfl⟩
theorem fl_X12_68 : kFd RX12 68 11 28 (.array .long) := ⟨RX12, TX12, 51, tyX12, cd_X12, by decide, (tt lm_1629 rfl), rfl⟩
theorem fl_X12_71 : kFd RX12 71 11 29 (.array .int) := ⟨RX12, TX12, 51, tyX12, cd_X12, by decide, (tt lm_1630 rfl), rfl⟩
theorem fl_X12_74 : kFd RX12 74 11 33 (.array .int) := ⟨RX12, TX12, 51, tyX12, cd_X12, by decide, (tt lm_1634 rfl), rfl⟩
theorem fl_X12_77 : kFd RX12 77 11 34 (.array .int) := ⟨RX12, TX12, 51, tyX12, cd_X12, by decide, (tt lm_1635 rfl), rfl⟩
theorem fl_X12_80 : kFd RX12 80 11 36 (.array .int) := ⟨RX12, TX12, 51, tyX12, cd_X12, by decide, (tt lm_1637 rfl), rfl⟩
theorem fl_X12_83 : kFd RX12 83 11 37 (.array .int) := ⟨RX12, TX12, 51, tyX12, cd_X12, by decide, (tt lm_1638 rfl), rfl⟩
theorem fl_X12_86 : kFd RX12 86 11 38 (.array .int) := ⟨RX12, TX12, 51, tyX12, cd_X12, by decide, (tt lm_1639 rfl), rfl⟩
theorem fl_X12_89 : kFd RX12 89 11 39 (.array .int) := ⟨RX12, TX12, 51, tyX12, cd_X12, by decide, (tt lm_1640 rfl), rfl⟩
theorem fl_X12_92 : kFd RX12 92 11 40 (.array .int) := ⟨RX12, TX12, 51, tyX12, cd_X12, by decide, (tt lm_1641 rfl), rfl⟩
theorem fl_X12_95 : kFd RX12 95 11 41 (.array .int) := ⟨RX12, TX12, 51, tyX12, cd_X12, by decide, (tt lm_1642 rfl), rfl⟩
theorem fl_X12_98 : kFd RX12 98 11 42 (.array .int) := ⟨RX12, TX12, 51, tyX12, cd_X12, by decide, (tt lm_1643 rfl), rfl⟩
theorem fl_X12_101 : kFd RX12 101 11 43 (.array .int) := ⟨RX12, TX12, 51, tyX12, cd_X12, by decide, (tt lm_1644 rfl), rfl⟩
theorem fl_X12_104 : kFd RX12 104 11 44 (.array .int) := ⟨RX12, TX12, 51, tyX12, cd_X12, by decide, (tt lm_1645 rfl), rfl⟩
theorem fl_X12_107 : kFd RX12 107 11 46 (.array .int) := ⟨RX12, TX12, 51, tyX12, cd_X12, by decide, (tt lm_1647 rfl), rfl⟩
theorem fl_X12_110 : kFd RX12 110 11 47 (.array .int) := ⟨RX12, TX12, 51, tyX12, cd_X12, by decide, (tt lm_1648 rfl), rfl⟩
theorem fw_X12_117 : kFw RX12 117 11 2 .int := ⟨RX12, TX12, 51, tyX12, cd_X12, by decide, (tt lm_1603 rfl), rfl, rfl⟩
theorem fl_X12_117 : kFd RX12 117 11 2 .int := let ⟨a, b, c, d, e, f, g, h, _⟩ := fw_X12_117; ⟨a, b, c, d, e, f, g, h⟩
theorem fw_X12_120 : kFw RX12 120 11 3 .long := ⟨RX12, TX12, 51, tyX12, cd_X12, by decide, (tt lm_1604 rfl), rfl, rfl⟩
theorem fl_X12_120 : kFd RX12 120 11 3 .long := let ⟨a, b, c, d, e, f, g, h, _⟩ := fw_X12_120; ⟨a, b, c, d, e, f, g, h⟩
theorem ct_X12_145 : Cond.constantLong RX12 145 (Int64.ofInt (-1)) ∈ TT := (tt lm_1793 rfl)
theorem fw_X12_147 : kFw RX12 147 11 10 .int := ⟨RX12, TX12, 51, tyX12, cd_X12, by decide, (tt lm_1611 rfl), rfl, rfl⟩
theorem fl_X12_147 : kFd RX12 147 11 10 .int := let ⟨a, b, c, d, e, f, g, h, _⟩ := fw_X12_147; ⟨a, b, c, d, e, f, g, h⟩
theorem fw_X12_153 : kFw RX12 153 11 11 .int := ⟨RX12, TX12, 51, tyX12, cd_X12, by decide, (tt lm_1612 rfl), rfl, rfl⟩
theorem fl_X12_153 : kFd RX12 153 11 11 .int := let ⟨a, b, c, d, e, f, g, h, _⟩ := fw_X12_153; ⟨a, b, c, d, e, f, g, h⟩
theorem fw_X12_156 : kFw RX12 156 11 14 .int := ⟨RX12, TX12, 51, tyX12, cd_X12, by decide, (tt lm_1615 rfl), rfl, rfl⟩
theorem fl_X12_156 : kFd RX12 156 11 14 .int := let ⟨a, b, c, d, e, f, g, h, _⟩ := fw_X12_156; ⟨a, b, c, d, e, f, g, h⟩
theorem fw_X12_162 : kFw RX12 162 11 13 .int := ⟨RX12, TX12, 51, tyX12, cd_X12, by decide, (tt lm_1614 rfl), rfl, rfl⟩
theorem fl_X12_162 : kFd RX12 162 11 13 .int := let ⟨a, b, c, d, e, f, g, h, _⟩ := fw_X12_162; ⟨a, b, c, d, e, f, g, h⟩
theorem fw_X12_165 : kFw RX12 165 11 15 .int := ⟨RX12, TX12, 51, tyX12, cd_X12, by decide, (tt lm_1616 rfl), rfl, rfl⟩
theorem fl_X12_165 : kFd RX12 165 11 15 .int := let ⟨a, b, c, d, e, f, g, h, _⟩ := fw_X12_165; ⟨a, b, c, d, e, f, g, h⟩
theorem fw_X12_168 : kFw RX12 168 11 12 .int := ⟨RX12, TX12, 51, tyX12, cd_X12, by decide, (tt lm_1613 rfl), rfl, rfl⟩
theorem fl_X12_168 : kFd RX12 168 11 12 .int := let ⟨a, b, c, d, e, f, g, h, _⟩ := fw_X12_168; ⟨a, b, c, d, e, f, g, h⟩
theorem ct_X12_177 : Cond.constant RX12 177 (Int32.ofInt 100000) ∈ TT := (tt lm_1832 rfl)
theorem fw_X12_193 : kFw RX12 193 11 18 .int := ⟨RX12, TX12, 51, tyX12, cd_X12, by decide, (tt lm_1619 rfl), rfl, rfl⟩
theorem fl_X12_193 : kFd RX12 193 11 18 .int := let ⟨a, b, c, d, e, f, g, h, _⟩ := fw_X12_193; ⟨a, b, c, d, e, f, g, h⟩
theorem fw_X12_196 : kFw RX12 196 11 19 .int := ⟨RX12, TX12, 51, tyX12, cd_X12, by decide, (tt lm_1620 rfl), rfl, rfl⟩
theorem ct_X12_356 : Cond.constantLong RX12 356 (Int64.ofInt 20) ∈ TT := (tt lm_2015 rfl)
theorem fw_X12_388 : kFw RX12 388 11 30 .int := ⟨RX12, TX12, 51, tyX12, cd_X12, by decide, (tt lm_1631 rfl), rfl, rfl⟩
theorem fl_X12_388 : kFd RX12 388 11 30 .int := let ⟨a, b, c, d, e, f, g, h, _⟩ := fw_X12_388; ⟨a, b, c, d, e, f, g, h⟩
theorem fw_X12_391 : kFw RX12 391 11 31 .int := ⟨RX12, TX12, 51, tyX12, cd_X12, by decide, (tt lm_1632 rfl), rfl, rfl⟩
theorem fl_X12_391 : kFd RX12 391 11 31 .int := let ⟨a, b, c, d, e, f, g, h, _⟩ := fw_X12_391; ⟨a, b, c, d, e, f, g, h⟩
theorem fw_X12_394 : kFw RX12 394 11 32 .int := ⟨RX12, TX12, 51, tyX12, cd_X12, by decide, (tt lm_1633 rfl), rfl, rfl⟩
theorem fl_X12_394 : kFd RX12 394 11 32 .int := let ⟨a, b, c, d, e, f, g, h, _⟩ := fw_X12_394; ⟨a, b, c, d, e, f, g, h⟩
theorem fw_X12_403 : kFw RX12 403 11 35 .int := ⟨RX12, TX12, 51, tyX12, cd_X12, by decide, (tt lm_1636 rfl), rfl, rfl⟩
theorem fl_X12_403 : kFd RX12 403 11 35 .int := let ⟨a, b, c, d, e, f, g, h, _⟩ := fw_X12_403; ⟨a, b, c, d, e, f, g, h⟩
theorem ct_X12_428 : Cond.constant RX12 428 (Int32.ofInt 1000000) ∈ TT := (tt lm_2167 rfl)
theorem fw_X12_459 : kFw RX12 459 11 45 .int := ⟨RX12, TX12, 51, tyX12, cd_X12, by decide, (tt lm_1646 rfl), rfl, rfl⟩
theorem fl_X12_459 : kFd RX12 459 11 45 .int := let ⟨a, b, c, d, e, f, g, h, _⟩ := fw_X12_459; ⟨a, b, c, d, e, f, g, h⟩
theorem fw_X12_485 : kFw RX12 485 11 48 .int := ⟨RX12, TX12, 51, tyX12, cd_X12, by decide, (tt lm_1649 rfl), rfl, rfl⟩
theorem fl_X12_485 : kFd RX12 485 11 48 .int := let ⟨a, b, c, d, e, f, g, h, _⟩ := fw_X12_485; ⟨a, b, c, d, e, f, g, h⟩
theorem ct_X12_506 : Cond.constantLong RX12 506 (Int64.ofInt 6) ∈ TT := (tt lm_2296 rfl)
theorem fw_X12_511 : kFw RX12 511 11 49 .int := ⟨RX12, TX12, 51, tyX12, cd_X12, by decide, (tt lm_1650 rfl), rfl, rfl⟩
theorem fl_X12_511 : kFd RX12 511 11 49 .int := let ⟨a, b, c, d, e, f, g, h, _⟩ := fw_X12_511; ⟨a, b, c, d, e, f, g, h⟩
theorem ct_X12_514 : Cond.constant RX12 514 (Int32.ofInt 65536) ∈ TT := (tt lm_2314 rfl)
theorem ct_X12_515 : Cond.constantLong RX12 515 (Int64.ofInt 9999) ∈ TT := (tt lm_2309 rfl)
theorem ct_X12_520 : Cond.constantLong RX12 520 (Int64.ofInt 50) ∈ TT := (tt lm_2319 rfl)
theorem fw_X12_535 : kFw RX12 535 11 50 .int := ⟨RX12, TX12, 51, tyX12, cd_X12, by decide, (tt lm_1651 rfl), rfl, rfl⟩
theorem fl_X12_535 : kFd RX12 535 11 50 .int := let ⟨a, b, c, d, e, f, g, h, _⟩ := fw_X12_535; ⟨a, b, c, d, e, f, g, h⟩
