def jT (c : Nat) : u_T := match c with
  | 0 => TX0
  | 1 => TX1
  | 2 => TX2
  | 3 => TX3
  | 4 => TX4
  | 5 => TX5
  | 6 => TX6
  | 7 => TX7
  | 8 => TX8
  | 9 => TX9
  | 10 => TX10
  | 11 => TX11
  | 12 => TX12
  | _ => TX0
def jCn (c : Nat) : String := match c with
  | 0 => RX0
  | 1 => RX1
  | 2 => RX2
  | 3 => RX3
  | 4 => RX4
  | 5 => RX5
  | 6 => RX6
  | 7 => RX7
  | 8 => RX8
  | 9 => RX9
  | 10 => RX10
  | 11 => RX11
  | 12 => RX12
  | _ => RX0
def jTy (c : Nat) : Nat → FieldType := match c with
  | 0 => tyX0
  | 1 => tyX1
  | 2 => tyX2
  | 3 => tyX3
  | 4 => tyX4
  | 5 => tyX5
  | 6 => tyX6
  | 7 => tyX7
  | 8 => tyX8
  | 9 => tyX9
  | 10 => tyX10
  | 11 => tyX11
  | 12 => tyX12
  | _ => tyX0
theorem inX0 : ∀ w ∈ u_ws RX0 TX0 5, w ∈ lw_g := by
  show ∀ w ∈ [Cond.lays RX0 "BrassBalls$Kind" "size" "I", Cond.lays RX0 "BrassBalls$Kind" "low" "I", Cond.lays RX0 "BrassBalls$Kind" "high" "I", Cond.lays RX0 "BrassBalls$Kind" "glass" "I", Cond.lays RX0 "BrassBalls$Kind" "cloth" "Z"], w ∈ lw_g
  exact List.forall_mem_cons.mpr ⟨wd_132, List.forall_mem_cons.mpr ⟨wd_134, List.forall_mem_cons.mpr ⟨wd_136, List.forall_mem_cons.mpr ⟨wd_138, List.forall_mem_cons.mpr ⟨wd_140, fun _ h => absurd h List.not_mem_nil⟩⟩⟩⟩⟩
theorem inX1 : ∀ w ∈ u_ws RX1 TX1 6, w ∈ lw_g := by
  show ∀ w ∈ [Cond.lays RX1 "BrassBalls$Law" "uptos" "I", Cond.laysFinal RX1 "BrassBalls$Law" "upto" "[I", Cond.laysFinal RX1 "BrassBalls$Law" "take" "[I", Cond.laysFinal RX1 "BrassBalls$Law" "per" "[I", Cond.laysFinal RX1 "BrassBalls$Law" "rule" "[I", Cond.lays RX1 "BrassBalls$Law" "lines" "I"], w ∈ lw_g
  exact List.forall_mem_cons.mpr ⟨wd_61, List.forall_mem_cons.mpr ⟨wd_63, List.forall_mem_cons.mpr ⟨wd_65, List.forall_mem_cons.mpr ⟨wd_67, List.forall_mem_cons.mpr ⟨wd_69, List.forall_mem_cons.mpr ⟨wd_71, fun _ h => absurd h List.not_mem_nil⟩⟩⟩⟩⟩⟩
theorem inX2 : ∀ w ∈ u_ws RX2 TX2 5, w ∈ lw_g := by
  show ∀ w ∈ [Cond.lays RX2 "BrassBalls$Looks" "looks" "I", Cond.lays RX2 "BrassBalls$Looks" "size" "I", Cond.laysFinal RX2 "BrassBalls$Looks" "begin" "[I", Cond.laysFinal RX2 "BrassBalls$Looks" "sign" "[I", Cond.laysFinal RX2 "BrassBalls$Looks" "number" "[I"], w ∈ lw_g
  exact List.forall_mem_cons.mpr ⟨wd_88, List.forall_mem_cons.mpr ⟨wd_90, List.forall_mem_cons.mpr ⟨wd_92, List.forall_mem_cons.mpr ⟨wd_94, List.forall_mem_cons.mpr ⟨wd_96, fun _ h => absurd h List.not_mem_nil⟩⟩⟩⟩⟩
theorem inX3 : ∀ w ∈ u_ws RX3 TX3 5, w ∈ lw_g := by
  show ∀ w ∈ [Cond.lays RX3 "BrassBalls$Person" "pay" "I", Cond.lays RX3 "BrassBalls$Person" "rent" "I", Cond.lays RX3 "BrassBalls$Person" "food" "I", Cond.lays RX3 "BrassBalls$Person" "purse" "I", Cond.lays RX3 "BrassBalls$Person" "suitLoan" "I"], w ∈ lw_g
  exact List.forall_mem_cons.mpr ⟨wd_163, List.forall_mem_cons.mpr ⟨wd_165, List.forall_mem_cons.mpr ⟨wd_167, List.forall_mem_cons.mpr ⟨wd_169, List.forall_mem_cons.mpr ⟨wd_171, fun _ h => absurd h List.not_mem_nil⟩⟩⟩⟩⟩
theorem inX4 : ∀ w ∈ u_ws RX4 TX4 14, w ∈ lw_g := by
  show ∀ w ∈ [Cond.lays RX4 "BrassBalls$Planner" "gathered" "I", Cond.laysFinal RX4 "BrassBalls$Planner" "sizes" "[I", Cond.laysFinal RX4 "BrassBalls$Planner" "worth" "[I", Cond.laysFinal RX4 "BrassBalls$Planner" "setSize" "[I", Cond.laysFinal RX4 "BrassBalls$Planner" "setWorth" "[I", Cond.laysFinal RX4 "BrassBalls$Planner" "setFigures" "[I", Cond.laysFinal RX4 "BrassBalls$Planner" "setMost" "[I", Cond.laysFinal RX4 "BrassBalls$Planner" "leastPlace" "[J", Cond.laysFinal RX4 "BrassBalls$Planner" "leastSteps" "[I", Cond.laysFinal RX4 "BrassBalls$Planner" "leastLot" "[[I", Cond.laysFinal RX4 "BrassBalls$Planner" "longest" "[I", Cond.laysFinal RX4 "BrassBalls$Planner" "pledgeOf" "[I", Cond.laysFinal RX4 "BrassBalls$Planner" "matches" "[Z", Cond.laysFinal RX4 "BrassBalls$Planner" "taken" "[Z"], w ∈ lw_g
  exact List.forall_mem_cons.mpr ⟨wd_471, List.forall_mem_cons.mpr ⟨wd_473, List.forall_mem_cons.mpr ⟨wd_475, List.forall_mem_cons.mpr ⟨wd_477, List.forall_mem_cons.mpr ⟨wd_479, List.forall_mem_cons.mpr ⟨wd_481, List.forall_mem_cons.mpr ⟨wd_483, List.forall_mem_cons.mpr ⟨wd_485, List.forall_mem_cons.mpr ⟨wd_487, List.forall_mem_cons.mpr ⟨wd_489, List.forall_mem_cons.mpr ⟨wd_491, List.forall_mem_cons.mpr ⟨wd_493, List.forall_mem_cons.mpr ⟨wd_495, List.forall_mem_cons.mpr ⟨wd_497, fun _ h => absurd h List.not_mem_nil⟩⟩⟩⟩⟩⟩⟩⟩⟩⟩⟩⟩⟩⟩
theorem inX5 : ∀ w ∈ u_ws RX5 TX5 13, w ∈ lw_g := by
  show ∀ w ∈ [Cond.lays RX5 "BrassBalls$Pledge" "kind" "I", Cond.lays RX5 "BrassBalls$Pledge" "owner" "I", Cond.lays RX5 "BrassBalls$Pledge" "loan" "I", Cond.lays RX5 "BrassBalls$Pledge" "week" "I", Cond.lays RX5 "BrassBalls$Pledge" "made" "I", Cond.lays RX5 "BrassBalls$Pledge" "rack" "I", Cond.lays RX5 "BrassBalls$Pledge" "state" "I", Cond.lays RX5 "BrassBalls$Pledge" "heldTill" "I", Cond.lays RX5 "BrassBalls$Pledge" "fetchedWeek" "I", Cond.lays RX5 "BrassBalls$Pledge" "soldWeek" "I", Cond.lays RX5 "BrassBalls$Pledge" "over" "I", Cond.lays RX5 "BrassBalls$Pledge" "renewed" "I", Cond.lays RX5 "BrassBalls$Pledge" "renewedPaid" "I"], w ∈ lw_g
  exact List.forall_mem_cons.mpr ⟨wd_221, List.forall_mem_cons.mpr ⟨wd_223, List.forall_mem_cons.mpr ⟨wd_225, List.forall_mem_cons.mpr ⟨wd_227, List.forall_mem_cons.mpr ⟨wd_229, List.forall_mem_cons.mpr ⟨wd_231, List.forall_mem_cons.mpr ⟨wd_233, List.forall_mem_cons.mpr ⟨wd_235, List.forall_mem_cons.mpr ⟨wd_237, List.forall_mem_cons.mpr ⟨wd_239, List.forall_mem_cons.mpr ⟨wd_241, List.forall_mem_cons.mpr ⟨wd_243, List.forall_mem_cons.mpr ⟨wd_245, fun _ h => absurd h List.not_mem_nil⟩⟩⟩⟩⟩⟩⟩⟩⟩⟩⟩⟩⟩
theorem inX6 : ∀ w ∈ u_ws RX6 TX6 6, w ∈ lw_g := by
  show ∀ w ∈ [Cond.laysFinal RX6 "BrassBalls$Reader" "tape" "LBrassBalls$Tape;", Cond.laysFinal RX6 "BrassBalls$Reader" "law" "LBrassBalls$Law;", Cond.laysFinal RX6 "BrassBalls$Reader" "looks" "LBrassBalls$Looks;", Cond.lays RX6 "BrassBalls$Reader" "rulesTold" "I", Cond.lays RX6 "BrassBalls$Reader" "fault" "I", Cond.lays RX6 "BrassBalls$Reader" "faultPlace" "I"], w ∈ lw_g
  exact List.forall_mem_cons.mpr ⟨wd_418, List.forall_mem_cons.mpr ⟨wd_420, List.forall_mem_cons.mpr ⟨wd_422, List.forall_mem_cons.mpr ⟨wd_424, List.forall_mem_cons.mpr ⟨wd_426, List.forall_mem_cons.mpr ⟨wd_428, fun _ h => absurd h List.not_mem_nil⟩⟩⟩⟩⟩⟩
theorem inX7 : ∀ w ∈ u_ws RX7 TX7 3, w ∈ lw_g := by
  show ∀ w ∈ [Cond.lays RX7 "BrassBalls$Row" "length" "I", Cond.lays RX7 "BrassBalls$Row" "sort" "I", Cond.laysFinal RX7 "BrassBalls$Row" "numbers" "[J"], w ∈ lw_g
  exact List.forall_mem_cons.mpr ⟨wd_442, List.forall_mem_cons.mpr ⟨wd_444, List.forall_mem_cons.mpr ⟨wd_446, fun _ h => absurd h List.not_mem_nil⟩⟩⟩
theorem inX8 : ∀ w ∈ u_ws RX8 TX8 20, w ∈ lw_g := by
  show ∀ w ∈ [Cond.laysFinal RX8 "BrassBalls$Shop" "law" "LBrassBalls$Law;", Cond.laysFinal RX8 "BrassBalls$Shop" "otherLaw" "LBrassBalls$Law;", Cond.lays RX8 "BrassBalls$Shop" "otherKept" "Z", Cond.laysFinal RX8 "BrassBalls$Shop" "looks" "LBrassBalls$Looks;", Cond.lays RX8 "BrassBalls$Shop" "week" "I", Cond.laysFinal RX8 "BrassBalls$Shop" "kinds" "[LBrassBalls$Kind;", Cond.lays RX8 "BrassBalls$Shop" "kindCount" "I", Cond.laysFinal RX8 "BrassBalls$Shop" "people" "[LBrassBalls$Person;", Cond.lays RX8 "BrassBalls$Shop" "peopleCount" "I", Cond.laysFinal RX8 "BrassBalls$Shop" "pledges" "[LBrassBalls$Pledge;", Cond.lays RX8 "BrassBalls$Shop" "pledgeCount" "I", Cond.laysFinal RX8 "BrassBalls$Shop" "tickets" "[LBrassBalls$Ticket;", Cond.lays RX8 "BrassBalls$Shop" "ticketCount" "I", Cond.laysFinal RX8 "BrassBalls$Shop" "racks" "[[I", Cond.lays RX8 "BrassBalls$Shop" "rackCount" "I", Cond.laysFinal RX8 "BrassBalls$Shop" "books" "[[I", Cond.laysFinal RX8 "BrassBalls$Shop" "hands" "[[I", Cond.lays RX8 "BrassBalls$Shop" "onDuty" "I", Cond.laysFinal RX8 "BrassBalls$Shop" "listed" "[[I", Cond.lays RX8 "BrassBalls$Shop" "listedCount" "I"], w ∈ lw_g
  exact List.forall_mem_cons.mpr ⟨wd_321, List.forall_mem_cons.mpr ⟨wd_323, List.forall_mem_cons.mpr ⟨wd_325, List.forall_mem_cons.mpr ⟨wd_327, List.forall_mem_cons.mpr ⟨wd_329, List.forall_mem_cons.mpr ⟨wd_331, List.forall_mem_cons.mpr ⟨wd_333, List.forall_mem_cons.mpr ⟨wd_335, List.forall_mem_cons.mpr ⟨wd_337, List.forall_mem_cons.mpr ⟨wd_339, List.forall_mem_cons.mpr ⟨wd_341, List.forall_mem_cons.mpr ⟨wd_343, List.forall_mem_cons.mpr ⟨wd_345, List.forall_mem_cons.mpr ⟨wd_347, List.forall_mem_cons.mpr ⟨wd_349, List.forall_mem_cons.mpr ⟨wd_351, List.forall_mem_cons.mpr ⟨wd_353, List.forall_mem_cons.mpr ⟨wd_355, List.forall_mem_cons.mpr ⟨wd_357, List.forall_mem_cons.mpr ⟨wd_359, fun _ h => absurd h List.not_mem_nil⟩⟩⟩⟩⟩⟩⟩⟩⟩⟩⟩⟩⟩⟩⟩⟩⟩⟩⟩⟩
theorem inX9 : ∀ w ∈ u_ws RX9 TX9 7, w ∈ lw_g := by
  show ∀ w ∈ [Cond.laysFinal RX9 "BrassBalls$Tape" "bytes" "[B", Cond.lays RX9 "BrassBalls$Tape" "fed" "I", Cond.lays RX9 "BrassBalls$Tape" "length" "I", Cond.lays RX9 "BrassBalls$Tape" "behind" "I", Cond.lays RX9 "BrassBalls$Tape" "sort" "I", Cond.lays RX9 "BrassBalls$Tape" "place" "I", Cond.lays RX9 "BrassBalls$Tape" "value" "I"], w ∈ lw_g
  exact List.forall_mem_cons.mpr ⟨wd_386, List.forall_mem_cons.mpr ⟨wd_388, List.forall_mem_cons.mpr ⟨wd_390, List.forall_mem_cons.mpr ⟨wd_392, List.forall_mem_cons.mpr ⟨wd_394, List.forall_mem_cons.mpr ⟨wd_396, List.forall_mem_cons.mpr ⟨wd_398, fun _ h => absurd h List.not_mem_nil⟩⟩⟩⟩⟩⟩⟩
theorem inX10 : ∀ w ∈ u_ws RX10 TX10 4, w ∈ lw_g := by
  show ∀ w ∈ [Cond.lays RX10 "BrassBalls$Ticket" "pledge" "I", Cond.lays RX10 "BrassBalls$Ticket" "holder" "I", Cond.lays RX10 "BrassBalls$Ticket" "writer" "I", Cond.lays RX10 "BrassBalls$Ticket" "lives" "Z"], w ∈ lw_g
  exact List.forall_mem_cons.mpr ⟨wd_265, List.forall_mem_cons.mpr ⟨wd_267, List.forall_mem_cons.mpr ⟨wd_269, List.forall_mem_cons.mpr ⟨wd_271, fun _ h => absurd h List.not_mem_nil⟩⟩⟩⟩
theorem inX11 : ∀ w ∈ u_ws RX11 TX11 6, w ∈ lw_g := by
  show ∀ w ∈ [Cond.laysFinal RX11 "BrassBalls" "shop" "LBrassBalls$Shop;", Cond.laysFinal RX11 "BrassBalls" "images" "[LBrassBalls$Shop;", Cond.laysFinal RX11 "BrassBalls" "imageMade" "[Z", Cond.laysFinal RX11 "BrassBalls" "reader" "LBrassBalls$Reader;", Cond.laysFinal RX11 "BrassBalls" "rows" "[LBrassBalls$Row;", Cond.laysFinal RX11 "BrassBalls" "planner" "LBrassBalls$Planner;"], w ∈ lw_g
  exact List.forall_mem_cons.mpr ⟨wd_506, List.forall_mem_cons.mpr ⟨wd_508, List.forall_mem_cons.mpr ⟨wd_510, List.forall_mem_cons.mpr ⟨wd_512, List.forall_mem_cons.mpr ⟨wd_514, List.forall_mem_cons.mpr ⟨wd_516, fun _ h => absurd h List.not_mem_nil⟩⟩⟩⟩⟩⟩
theorem inX12 : ∀ w ∈ u_ws RX12 TX12 34, w ∈ lw_g := by
  show ∀ w ∈ [Cond.lays RX12 "BrassBallsModel" "thrown" "I", Cond.laysFinal RX12 "BrassBallsModel" "all" "[I", Cond.laysFinal RX12 "BrassBallsModel" "hasImage" "[Z", Cond.laysFinal RX12 "BrassBallsModel" "tape" "[I", Cond.laysFinal RX12 "BrassBallsModel" "fresh" "[I", Cond.lays RX12 "BrassBallsModel" "taped" "I", Cond.lays RX12 "BrassBallsModel" "at" "I", Cond.lays RX12 "BrassBallsModel" "behind" "I", Cond.lays RX12 "BrassBallsModel" "size" "I", Cond.lays RX12 "BrassBallsModel" "kind" "I", Cond.lays RX12 "BrassBallsModel" "number" "I", Cond.lays RX12 "BrassBallsModel" "wrong" "I", Cond.lays RX12 "BrassBallsModel" "wrongAt" "I", Cond.lays RX12 "BrassBallsModel" "depth" "I", Cond.lays RX12 "BrassBallsModel" "steps" "I", Cond.lays RX12 "BrassBallsModel" "told" "I", Cond.lays RX12 "BrassBallsModel" "faultKind" "I", Cond.lays RX12 "BrassBallsModel" "faultPlace" "I", Cond.laysFinal RX12 "BrassBallsModel" "loose" "[I", Cond.laysFinal RX12 "BrassBallsModel" "onRack" "[I", Cond.laysFinal RX12 "BrassBallsModel" "bestRack" "[I", Cond.laysFinal RX12 "BrassBallsModel" "room" "[I", Cond.laysFinal RX12 "BrassBallsModel" "worth" "[I", Cond.laysFinal RX12 "BrassBallsModel" "lot" "[I", Cond.laysFinal RX12 "BrassBallsModel" "bestLot" "[I", Cond.laysFinal RX12 "BrassBallsModel" "pile" "[Z", Cond.laysFinal RX12 "BrassBallsModel" "chained" "[I", Cond.laysFinal RX12 "BrassBallsModel" "tripCost" "[I", Cond.laysFinal RX12 "BrassBallsModel" "thingOf" "[I", Cond.laysFinal RX12 "BrassBallsModel" "pledgeOf" "[I", Cond.laysFinal RX12 "BrassBallsModel" "looked" "[Z", Cond.laysFinal RX12 "BrassBallsModel" "rowSort" "[I", Cond.laysFinal RX12 "BrassBallsModel" "rowMany" "[I", Cond.laysFinal RX12 "BrassBallsModel" "cells" "[J"], w ∈ lw_g
  exact List.forall_mem_cons.mpr ⟨wd_1313, List.forall_mem_cons.mpr ⟨wd_1315, List.forall_mem_cons.mpr ⟨wd_1317, List.forall_mem_cons.mpr ⟨wd_1319, List.forall_mem_cons.mpr ⟨wd_1321, List.forall_mem_cons.mpr ⟨wd_1323, List.forall_mem_cons.mpr ⟨wd_1325, List.forall_mem_cons.mpr ⟨wd_1327, List.forall_mem_cons.mpr ⟨wd_1329, List.forall_mem_cons.mpr ⟨wd_1331, List.forall_mem_cons.mpr ⟨wd_1333, List.forall_mem_cons.mpr ⟨wd_1335, List.forall_mem_cons.mpr ⟨wd_1337, List.forall_mem_cons.mpr ⟨wd_1339, List.forall_mem_cons.mpr ⟨wd_1341, List.forall_mem_cons.mpr ⟨wd_1343, List.forall_mem_cons.mpr ⟨wd_1345, List.forall_mem_cons.mpr ⟨wd_1347, List.forall_mem_cons.mpr ⟨wd_1349, List.forall_mem_cons.mpr ⟨wd_1351, List.forall_mem_cons.mpr ⟨wd_1353, List.forall_mem_cons.mpr ⟨wd_1355, List.forall_mem_cons.mpr ⟨wd_1357, List.forall_mem_cons.mpr ⟨wd_1359, List.forall_mem_cons.mpr ⟨wd_1361, List.forall_mem_cons.mpr ⟨wd_1363, List.forall_mem_cons.mpr ⟨wd_1365, List.forall_mem_cons.mpr ⟨wd_1367, List.forall_mem_cons.mpr ⟨wd_1369, List.forall_mem_cons.mpr ⟨wd_1371, List.forall_mem_cons.mpr ⟨wd_1373, List.forall_mem_cons.mpr ⟨wd_1375, List.forall_mem_cons.mpr ⟨wd_1377, List.forall_mem_cons.mpr ⟨wd_1379, fun _ h => absurd h List.not_mem_nil⟩⟩⟩⟩⟩⟩⟩⟩⟩⟩⟩⟩⟩⟩⟩⟩⟩⟩⟩⟩⟩⟩⟩⟩⟩⟩⟩⟩⟩⟩⟩⟩⟩⟩
/-- what the tables say of a class of ours -/
def jCls (ci : Nat) : Prop := ci < 13 ∧ vwCl[ci]? = some (jCn ci, jT ci, jnf ci) ∧ (∀ w ∈ u_ws (jCn ci) (jT ci) (jnf ci), w ∈ lw_g) ∧ (∀ k, k < jnf ci → parseFieldDescriptor (jT ci k).2.2.1 = some (jTy ci k)) ∧ (∀ a, a < jnf ci → ∀ b, b < jnf ci → a ≠ b → (jT ci a).2.1 ≠ (jT ci b).2.1) ∧ (∀ k, k < jnf ci → (jft ci k = 0 → jTy ci k = .int) ∧ (jft ci k = 1 → jTy ci k = .boolean) ∧ (jft ci k = 2 → (∃ n, jTy ci k = .object n) ∨ ∃ t, jTy ci k = .array t) ∧ jft ci k < 3)
theorem jc_0 : jCls 0 := by
  refine ⟨by decide, rfl, inX0, tyX0_ok, nmX0, fun k hk => ?_⟩
  match k, hk with
  | 0, _ => exact ⟨fun _ => rfl, fun h => absurd h (by decide), fun h => absurd h (by decide), by decide⟩
  | 1, _ => exact ⟨fun _ => rfl, fun h => absurd h (by decide), fun h => absurd h (by decide), by decide⟩
  | 2, _ => exact ⟨fun _ => rfl, fun h => absurd h (by decide), fun h => absurd h (by decide), by decide⟩
  | 3, _ => exact ⟨fun _ => rfl, fun h => absurd h (by decide), fun h => absurd h (by decide), by decide⟩
  | 4, _ => exact ⟨fun h => absurd h (by decide), fun _ => rfl, fun h => absurd h (by decide), by decide⟩
  | k + 5, h => exact absurd (show k + 5 < 5 from h) (by omega)
theorem jc_1 : jCls 1 := by
  refine ⟨by decide, rfl, inX1, tyX1_ok, nmX1, fun k hk => ?_⟩
  match k, hk with
  | 0, _ => exact ⟨fun _ => rfl, fun h => absurd h (by decide), fun h => absurd h (by decide), by decide⟩
  | 1, _ => exact ⟨fun h => absurd h (by decide), fun h => absurd h (by decide), fun _ => Or.inr ⟨_, rfl⟩, by decide⟩
  | 2, _ => exact ⟨fun h => absurd h (by decide), fun h => absurd h (by decide), fun _ => Or.inr ⟨_, rfl⟩, by decide⟩
  | 3, _ => exact ⟨fun h => absurd h (by decide), fun h => absurd h (by decide), fun _ => Or.inr ⟨_, rfl⟩, by decide⟩
  | 4, _ => exact ⟨fun h => absurd h (by decide), fun h => absurd h (by decide), fun _ => Or.inr ⟨_, rfl⟩, by decide⟩
  | 5, _ => exact ⟨fun _ => rfl, fun h => absurd h (by decide), fun h => absurd h (by decide), by decide⟩
  | k + 6, h => exact absurd (show k + 6 < 6 from h) (by omega)
theorem jc_2 : jCls 2 := by
  refine ⟨by decide, rfl, inX2, tyX2_ok, nmX2, fun k hk => ?_⟩
  match k, hk with
  | 0, _ => exact ⟨fun _ => rfl, fun h => absurd h (by decide), fun h => absurd h (by decide), by decide⟩
  | 1, _ => exact ⟨fun _ => rfl, fun h => absurd h (by decide), fun h => absurd h (by decide), by decide⟩
  | 2, _ => exact ⟨fun h => absurd h (by decide), fun h => absurd h (by decide), fun _ => Or.inr ⟨_, rfl⟩, by decide⟩
  | 3, _ => exact ⟨fun h => absurd h (by decide), fun h => absurd h (by decide), fun _ => Or.inr ⟨_, rfl⟩, by decide⟩
  | 4, _ => exact ⟨fun h => absurd h (by decide), fun h => absurd h (by decide), fun _ => Or.inr ⟨_, rfl⟩, by decide⟩
  | k + 5, h => exact absurd (show k + 5 < 5 from h) (by omega)
theorem jc_3 : jCls 3 := by
  refine ⟨by decide, rfl, inX3, tyX3_ok, nmX3, fun k hk => ?_⟩
  match k, hk with
  | 0, _ => exact ⟨fun _ => rfl, fun h => absurd h (by decide), fun h => absurd h (by decide), by decide⟩
  | 1, _ => exact ⟨fun _ => rfl, fun h => absurd h (by decide), fun h => absurd h (by decide), by decide⟩
  | 2, _ => exact ⟨fun _ => rfl, fun h => absurd h (by decide), fun h => absurd h (by decide), by decide⟩
  | 3, _ => exact ⟨fun _ => rfl, fun h => absurd h (by decide), fun h => absurd h (by decide), by decide⟩
  | 4, _ => exact ⟨fun _ => rfl, fun h => absurd h (by decide), fun h => absurd h (by decide), by decide⟩
  | k + 5, h => exact absurd (show k + 5 < 5 from h) (by omega)
theorem jc_4 : jCls 4 := by
  refine ⟨by decide, rfl, inX4, tyX4_ok, nmX4, fun k hk => ?_⟩
  match k, hk with
  | 0, _ => exact ⟨fun _ => rfl, fun h => absurd h (by decide), fun h => absurd h (by decide), by decide⟩
  | 1, _ => exact ⟨fun h => absurd h (by decide), fun h => absurd h (by decide), fun _ => Or.inr ⟨_, rfl⟩, by decide⟩
  | 2, _ => exact ⟨fun h => absurd h (by decide), fun h => absurd h (by decide), fun _ => Or.inr ⟨_, rfl⟩, by decide⟩
  | 3, _ => exact ⟨fun h => absurd h (by decide), fun h => absurd h (by decide), fun _ => Or.inr ⟨_, rfl⟩, by decide⟩
  | 4, _ => exact ⟨fun h => absurd h (by decide), fun h => absurd h (by decide), fun _ => Or.inr ⟨_, rfl⟩, by decide⟩
  | 5, _ => exact ⟨fun h => absurd h (by decide), fun h => absurd h (by decide), fun _ => Or.inr ⟨_, rfl⟩, by decide⟩
  | 6, _ => exact ⟨fun h => absurd h (by decide), fun h => absurd h (by decide), fun _ => Or.inr ⟨_, rfl⟩, by decide⟩
  | 7, _ => exact ⟨fun h => absurd h (by decide), fun h => absurd h (by decide), fun _ => Or.inr ⟨_, rfl⟩, by decide⟩
  | 8, _ => exact ⟨fun h => absurd h (by decide), fun h => absurd h (by decide), fun _ => Or.inr ⟨_, rfl⟩, by decide⟩
  | 9, _ => exact ⟨fun h => absurd h (by decide), fun h => absurd h (by decide), fun _ => Or.inr ⟨_, rfl⟩, by decide⟩
  | 10, _ => exact ⟨fun h => absurd h (by decide), fun h => absurd h (by decide), fun _ => Or.inr ⟨_, rfl⟩, by decide⟩
  | 11, _ => exact ⟨fun h => absurd h (by decide), fun h => absurd h (by decide), fun _ => Or.inr ⟨_, rfl⟩, by decide⟩
  | 12, _ => exact ⟨fun h => absurd h (by decide), fun h => absurd h (by decide), fun _ => Or.inr ⟨_, rfl⟩, by decide⟩
  | 13, _ => exact ⟨fun h => absurd h (by decide), fun h => absurd h (by decide), fun _ => Or.inr ⟨_, rfl⟩, by decide⟩
  | k + 14, h => exact absurd (show k + 14 < 14 from h) (by omega)
theorem jc_5 : jCls 5 := by
  refine ⟨by decide, rfl, inX5, tyX5_ok, nmX5, fun k hk => ?_⟩
  match k, hk with
  | 0, _ => exact ⟨fun _ => rfl, fun h => absurd h (by decide), fun h => absurd h (by decide), by decide⟩
  | 1, _ => exact ⟨fun _ => rfl, fun h => absurd h (by decide), fun h => absurd h (by decide), by decide⟩
  | 2, _ => exact ⟨fun _ => rfl, fun h => absurd h (by decide), fun h => absurd h (by decide), by decide⟩
  | 3, _ => exact ⟨fun _ => rfl, fun h => absurd h (by decide), fun h => absurd h (by decide), by decide⟩
  | 4, _ => exact ⟨fun _ => rfl, fun h => absurd h (by decide), fun h => absurd h (by decide), by decide⟩
  | 5, _ => exact ⟨fun _ => rfl, fun h => absurd h (by decide), fun h => absurd h (by decide), by decide⟩
  | 6, _ => exact ⟨fun _ => rfl, fun h => absurd h (by decide), fun h => absurd h (by decide), by decide⟩
  | 7, _ => exact ⟨fun _ => rfl, fun h => absurd h (by decide), fun h => absurd h (by decide), by decide⟩
  | 8, _ => exact ⟨fun _ => rfl, fun h => absurd h (by decide), fun h => absurd h (by decide), by decide⟩
  | 9, _ => exact ⟨fun _ => rfl, fun h => absurd h (by decide), fun h => absurd h (by decide), by decide⟩
  | 10, _ => exact ⟨fun _ => rfl, fun h => absurd h (by decide), fun h => absurd h (by decide), by decide⟩
  | 11, _ => exact ⟨fun _ => rfl, fun h => absurd h (by decide), fun h => absurd h (by decide), by decide⟩
  | 12, _ => exact ⟨fun _ => rfl, fun h => absurd h (by decide), fun h => absurd h (by decide), by decide⟩
  | k + 13, h => exact absurd (show k + 13 < 13 from h) (by omega)
theorem jc_6 : jCls 6 := by
  refine ⟨by decide, rfl, inX6, tyX6_ok, nmX6, fun k hk => ?_⟩
  match k, hk with
  | 0, _ => exact ⟨fun h => absurd h (by decide), fun h => absurd h (by decide), fun _ => Or.inl ⟨_, rfl⟩, by decide⟩
  | 1, _ => exact ⟨fun h => absurd h (by decide), fun h => absurd h (by decide), fun _ => Or.inl ⟨_, rfl⟩, by decide⟩
  | 2, _ => exact ⟨fun h => absurd h (by decide), fun h => absurd h (by decide), fun _ => Or.inl ⟨_, rfl⟩, by decide⟩
  | 3, _ => exact ⟨fun _ => rfl, fun h => absurd h (by decide), fun h => absurd h (by decide), by decide⟩
  | 4, _ => exact ⟨fun _ => rfl, fun h => absurd h (by decide), fun h => absurd h (by decide), by decide⟩
  | 5, _ => exact ⟨fun _ => rfl, fun h => absurd h (by decide), fun h => absurd h (by decide), by decide⟩
  | k + 6, h => exact absurd (show k + 6 < 6 from h) (by omega)
theorem jc_7 : jCls 7 := by
  refine ⟨by decide, rfl, inX7, tyX7_ok, nmX7, fun k hk => ?_⟩
  match k, hk with
  | 0, _ => exact ⟨fun _ => rfl, fun h => absurd h (by decide), fun h => absurd h (by decide), by decide⟩
  | 1, _ => exact ⟨fun _ => rfl, fun h => absurd h (by decide), fun h => absurd h (by decide), by decide⟩
  | 2, _ => exact ⟨fun h => absurd h (by decide), fun h => absurd h (by decide), fun _ => Or.inr ⟨_, rfl⟩, by decide⟩
  | k + 3, h => exact absurd (show k + 3 < 3 from h) (by omega)
theorem jc_8 : jCls 8 := by
  refine ⟨by decide, rfl, inX8, tyX8_ok, nmX8, fun k hk => ?_⟩
  match k, hk with
  | 0, _ => exact ⟨fun h => absurd h (by decide), fun h => absurd h (by decide), fun _ => Or.inl ⟨_, rfl⟩, by decide⟩
  | 1, _ => exact ⟨fun h => absurd h (by decide), fun h => absurd h (by decide), fun _ => Or.inl ⟨_, rfl⟩, by decide⟩
  | 2, _ => exact ⟨fun h => absurd h (by decide), fun _ => rfl, fun h => absurd h (by decide), by decide⟩
  | 3, _ => exact ⟨fun h => absurd h (by decide), fun h => absurd h (by decide), fun _ => Or.inl ⟨_, rfl⟩, by decide⟩
  | 4, _ => exact ⟨fun _ => rfl, fun h => absurd h (by decide), fun h => absurd h (by decide), by decide⟩
  | 5, _ => exact ⟨fun h => absurd h (by decide), fun h => absurd h (by decide), fun _ => Or.inr ⟨_, rfl⟩, by decide⟩
  | 6, _ => exact ⟨fun _ => rfl, fun h => absurd h (by decide), fun h => absurd h (by decide), by decide⟩
  | 7, _ => exact ⟨fun h => absurd h (by decide), fun h => absurd h (by decide), fun _ => Or.inr ⟨_, rfl⟩, by decide⟩
  | 8, _ => exact ⟨fun _ => rfl, fun h => absurd h (by decide), fun h => absurd h (by decide), by decide⟩
  | 9, _ => exact ⟨fun h => absurd h (by decide), fun h => absurd h (by decide), fun _ => Or.inr ⟨_, rfl⟩, by decide⟩
  | 10, _ => exact ⟨fun _ => rfl, fun h => absurd h (by decide), fun h => absurd h (by decide), by decide⟩
  | 11, _ => exact ⟨fun h => absurd h (by decide), fun h => absurd h (by decide), fun _ => Or.inr ⟨_, rfl⟩, by decide⟩
  | 12, _ => exact ⟨fun _ => rfl, fun h => absurd h (by decide), fun h => absurd h (by decide), by decide⟩
  | 13, _ => exact ⟨fun h => absurd h (by decide), fun h => absurd h (by decide), fun _ => Or.inr ⟨_, rfl⟩, by decide⟩
  | 14, _ => exact ⟨fun _ => rfl, fun h => absurd h (by decide), fun h => absurd h (by decide), by decide⟩
  | 15, _ => exact ⟨fun h => absurd h (by decide), fun h => absurd h (by decide), fun _ => Or.inr ⟨_, rfl⟩, by decide⟩
  | 16, _ => exact ⟨fun h => absurd h (by decide), fun h => absurd h (by decide), fun _ => Or.inr ⟨_, rfl⟩, by decide⟩
  | 17, _ => exact ⟨fun _ => rfl, fun h => absurd h (by decide), fun h => absurd h (by decide), by decide⟩
  | 18, _ => exact ⟨fun h => absurd h (by decide), fun h => absurd h (by decide), fun _ => Or.inr ⟨_, rfl⟩, by decide⟩
  | 19, _ => exact ⟨fun _ => rfl, fun h => absurd h (by decide), fun h => absurd h (by decide), by decide⟩
  | k + 20, h => exact absurd (show k + 20 < 20 from h) (by omega)
theorem jc_9 : jCls 9 := by
  refine ⟨by decide, rfl, inX9, tyX9_ok, nmX9, fun k hk => ?_⟩
  match k, hk with
  | 0, _ => exact ⟨fun h => absurd h (by decide), fun h => absurd h (by decide), fun _ => Or.inr ⟨_, rfl⟩, by decide⟩
  | 1, _ => exact ⟨fun _ => rfl, fun h => absurd h (by decide), fun h => absurd h (by decide), by decide⟩
  | 2, _ => exact ⟨fun _ => rfl, fun h => absurd h (by decide), fun h => absurd h (by decide), by decide⟩
  | 3, _ => exact ⟨fun _ => rfl, fun h => absurd h (by decide), fun h => absurd h (by decide), by decide⟩
  | 4, _ => exact ⟨fun _ => rfl, fun h => absurd h (by decide), fun h => absurd h (by decide), by decide⟩
  | 5, _ => exact ⟨fun _ => rfl, fun h => absurd h (by decide), fun h => absurd h (by decide), by decide⟩
  | 6, _ => exact ⟨fun _ => rfl, fun h => absurd h (by decide), fun h => absurd h (by decide), by decide⟩
  | k + 7, h => exact absurd (show k + 7 < 7 from h) (by omega)
theorem jc_10 : jCls 10 := by
  refine ⟨by decide, rfl, inX10, tyX10_ok, nmX10, fun k hk => ?_⟩
  match k, hk with
  | 0, _ => exact ⟨fun _ => rfl, fun h => absurd h (by decide), fun h => absurd h (by decide), by decide⟩
  | 1, _ => exact ⟨fun _ => rfl, fun h => absurd h (by decide), fun h => absurd h (by decide), by decide⟩
  | 2, _ => exact ⟨fun _ => rfl, fun h => absurd h (by decide), fun h => absurd h (by decide), by decide⟩
  | 3, _ => exact ⟨fun h => absurd h (by decide), fun _ => rfl, fun h => absurd h (by decide), by decide⟩
  | k + 4, h => exact absurd (show k + 4 < 4 from h) (by omega)
theorem jc_11 : jCls 11 := by
  refine ⟨by decide, rfl, inX11, tyX11_ok, nmX11, fun k hk => ?_⟩
  match k, hk with
  | 0, _ => exact ⟨fun h => absurd h (by decide), fun h => absurd h (by decide), fun _ => Or.inl ⟨_, rfl⟩, by decide⟩
  | 1, _ => exact ⟨fun h => absurd h (by decide), fun h => absurd h (by decide), fun _ => Or.inr ⟨_, rfl⟩, by decide⟩
  | 2, _ => exact ⟨fun h => absurd h (by decide), fun h => absurd h (by decide), fun _ => Or.inr ⟨_, rfl⟩, by decide⟩
  | 3, _ => exact ⟨fun h => absurd h (by decide), fun h => absurd h (by decide), fun _ => Or.inl ⟨_, rfl⟩, by decide⟩
  | 4, _ => exact ⟨fun h => absurd h (by decide), fun h => absurd h (by decide), fun _ => Or.inr ⟨_, rfl⟩, by decide⟩
  | 5, _ => exact ⟨fun h => absurd h (by decide), fun h => absurd h (by decide), fun _ => Or.inl ⟨_, rfl⟩, by decide⟩
  | k + 6, h => exact absurd (show k + 6 < 6 from h) (by omega)
theorem jc_12 : jCls 12 := by
  refine ⟨by decide, rfl, inX12, tyX12_ok, nmX12, fun k hk => ?_⟩
  match k, hk with
  | 0, _ => exact ⟨fun _ => rfl, fun h => absurd h (by decide), fun h => absurd h (by decide), by decide⟩
  | 1, _ => exact ⟨fun h => absurd h (by decide), fun h => absurd h (by decide), fun _ => Or.inr ⟨_, rfl⟩, by decide⟩
  | 2, _ => exact ⟨fun h => absurd h (by decide), fun h => absurd h (by decide), fun _ => Or.inr ⟨_, rfl⟩, by decide⟩
  | 3, _ => exact ⟨fun h => absurd h (by decide), fun h => absurd h (by decide), fun _ => Or.inr ⟨_, rfl⟩, by decide⟩
  | 4, _ => exact ⟨fun h => absurd h (by decide), fun h => absurd h (by decide), fun _ => Or.inr ⟨_, rfl⟩, by decide⟩
  | 5, _ => exact ⟨fun _ => rfl, fun h => absurd h (by decide), fun h => absurd h (by decide), by decide⟩
  | 6, _ => exact ⟨fun _ => rfl, fun h => absurd h (by decide), fun h => absurd h (by decide), by decide⟩
  | 7, _ => exact ⟨fun _ => rfl, fun h => absurd h (by decide), fun h => absurd h (by decide), by decide⟩
  | 8, _ => exact ⟨fun _ => rfl, fun h => absurd h (by decide), fun h => absurd h (by decide), by decide⟩
  | 9, _ => exact ⟨fun _ => rfl, fun h => absurd h (by decide), fun h => absurd h (by decide), by decide⟩
  | 10, _ => exact ⟨fun _ => rfl, fun h => absurd h (by decide), fun h => absurd h (by decide), by decide⟩
  | 11, _ => exact ⟨fun _ => rfl, fun h => absurd h (by decide), fun h => absurd h (by decide), by decide⟩
  | 12, _ => exact ⟨fun _ => rfl, fun h => absurd h (by decide), fun h => absurd h (by decide), by decide⟩
  | 13, _ => exact ⟨fun _ => rfl, fun h => absurd h (by decide), fun h => absurd h (by decide), by decide⟩
  | 14, _ => exact ⟨fun _ => rfl, fun h => absurd h (by decide), fun h => absurd h (by decide), by decide⟩
  | 15, _ => exact ⟨fun _ => rfl, fun h => absurd h (by decide), fun h => absurd h (by decide), by decide⟩
  | 16, _ => exact ⟨fun _ => rfl, fun h => absurd h (by decide), fun h => absurd h (by decide), by decide⟩
  | 17, _ => exact ⟨fun _ => rfl, fun h => absurd h (by decide), fun h => absurd h (by decide), by decide⟩
  | 18, _ => exact ⟨fun h => absurd h (by decide), fun h => absurd h (by decide), fun _ => Or.inr ⟨_, rfl⟩, by decide⟩
  | 19, _ => exact ⟨fun h => absurd h (by decide), fun h => absurd h (by decide), fun _ => Or.inr ⟨_, rfl⟩, by decide⟩
  | 20, _ => exact ⟨fun h => absurd h (by decide), fun h => absurd h (by decide), fun _ => Or.inr ⟨_, rfl⟩, by decide⟩
  | 21, _ => exact ⟨fun h => absurd h (by decide), fun h => absurd h (by decide), fun _ => Or.inr ⟨_, rfl⟩, by decide⟩
  | 22, _ => exact ⟨fun h => absurd h (by decide), fun h => absurd h (by decide), fun _ => Or.inr ⟨_, rfl⟩, by decide⟩
  | 23, _ => exact ⟨fun h => absurd h (by decide), fun h => absurd h (by decide), fun _ => Or.inr ⟨_, rfl⟩, by decide⟩
  | 24, _ => exact ⟨fun h => absurd h (by decide), fun h => absurd h (by decide), fun _ => Or.inr ⟨_, rfl⟩, by decide⟩
  | 25, _ => exact ⟨fun h => absurd h (by decide), fun h => absurd h (by decide), fun _ => Or.inr ⟨_, rfl⟩, by decide⟩
  | 26, _ => exact ⟨fun h => absurd h (by decide), fun h => absurd h (by decide), fun _ => Or.inr ⟨_, rfl⟩, by decide⟩
  | 27, _ => exact ⟨fun h => absurd h (by decide), fun h => absurd h (by decide), fun _ => Or.inr ⟨_, rfl⟩, by decide⟩
  | 28, _ => exact ⟨fun h => absurd h (by decide), fun h => absurd h (by decide), fun _ => Or.inr ⟨_, rfl⟩, by decide⟩
  | 29, _ => exact ⟨fun h => absurd h (by decide), fun h => absurd h (by decide), fun _ => Or.inr ⟨_, rfl⟩, by decide⟩
  | 30, _ => exact ⟨fun h => absurd h (by decide), fun h => absurd h (by decide), fun _ => Or.inr ⟨_, rfl⟩, by decide⟩
  | 31, _ => exact ⟨fun h => absurd h (by decide), fun h => absurd h (by decide), fun _ => Or.inr ⟨_, rfl⟩, by decide⟩
  | 32, _ => exact ⟨fun h => absurd h (by decide), fun h => absurd h (by decide), fun _ => Or.inr ⟨_, rfl⟩, by decide⟩
  | 33, _ => exact ⟨fun h => absurd h (by decide), fun h => absurd h (by decide), fun _ => Or.inr ⟨_, rfl⟩, by decide⟩
  | k + 34, h => exact absurd (show k + 34 < 34 from h) (by omega)
def jFld (own : String) (ix ci j : Nat) : Prop := jCls ci ∧ j < jnf ci ∧ Cond.fieldLink own ix (jT ci j).1 (jT ci j).2.1 (jT ci j).2.2.1 ∈ lw_g
theorem fl_1_27 : jFld RX1 27 1 0 := ⟨jc_1, by decide, wd_46⟩
theorem fl_6_76 : jFld RX6 76 1 0 := ⟨jc_1, by decide, wd_47⟩
theorem fl_1_9 : jFld RX1 9 1 1 := ⟨jc_1, by decide, wd_48⟩
theorem fl_6_85 : jFld RX6 85 1 1 := ⟨jc_1, by decide, wd_49⟩
theorem fl_1_15 : jFld RX1 15 1 2 := ⟨jc_1, by decide, wd_50⟩
theorem fl_6_98 : jFld RX6 98 1 2 := ⟨jc_1, by decide, wd_51⟩
theorem fl_1_18 : jFld RX1 18 1 3 := ⟨jc_1, by decide, wd_52⟩
theorem fl_6_102 : jFld RX6 102 1 3 := ⟨jc_1, by decide, wd_53⟩
theorem fl_1_21 : jFld RX1 21 1 4 := ⟨jc_1, by decide, wd_54⟩
theorem fl_6_107 : jFld RX6 107 1 4 := ⟨jc_1, by decide, wd_55⟩
theorem fl_8_167 : jFld RX8 167 1 4 := ⟨jc_1, by decide, wd_56⟩
theorem fl_11_225 : jFld RX11 225 1 4 := ⟨jc_1, by decide, wd_57⟩
theorem fl_1_31 : jFld RX1 31 1 5 := ⟨jc_1, by decide, wd_58⟩
theorem fl_6_73 : jFld RX6 73 1 5 := ⟨jc_1, by decide, wd_59⟩
theorem fl_11_84 : jFld RX11 84 1 5 := ⟨jc_1, by decide, wd_60⟩
theorem fl_2_21 : jFld RX2 21 2 0 := ⟨jc_2, by decide, wd_81⟩
theorem fl_11_97 : jFld RX11 97 2 0 := ⟨jc_2, by decide, wd_82⟩
theorem fl_6_129 : jFld RX6 129 2 0 := ⟨jc_2, by decide, wd_83⟩
theorem fl_2_25 : jFld RX2 25 2 1 := ⟨jc_2, by decide, wd_84⟩
theorem fl_2_9 : jFld RX2 9 2 2 := ⟨jc_2, by decide, wd_85⟩
theorem fl_2_15 : jFld RX2 15 2 3 := ⟨jc_2, by decide, wd_86⟩
theorem fl_2_18 : jFld RX2 18 2 4 := ⟨jc_2, by decide, wd_87⟩
theorem fl_0_7 : jFld RX0 7 0 0 := ⟨jc_0, by decide, wd_114⟩
theorem fl_4_84 : jFld RX4 84 0 0 := ⟨jc_0, by decide, wd_115⟩
theorem fl_2_51 : jFld RX2 51 0 0 := ⟨jc_0, by decide, wd_116⟩
theorem fl_11_129 : jFld RX11 129 0 0 := ⟨jc_0, by decide, wd_117⟩
theorem fl_8_144 : jFld RX8 144 0 0 := ⟨jc_0, by decide, wd_118⟩
theorem fl_0_13 : jFld RX0 13 0 1 := ⟨jc_0, by decide, wd_119⟩
theorem fl_11_134 : jFld RX11 134 0 1 := ⟨jc_0, by decide, wd_120⟩
theorem fl_8_225 : jFld RX8 225 0 1 := ⟨jc_0, by decide, wd_121⟩
theorem fl_0_16 : jFld RX0 16 0 2 := ⟨jc_0, by decide, wd_122⟩
theorem fl_11_137 : jFld RX11 137 0 2 := ⟨jc_0, by decide, wd_123⟩
theorem fl_8_231 : jFld RX8 231 0 2 := ⟨jc_0, by decide, wd_124⟩
theorem fl_0_19 : jFld RX0 19 0 3 := ⟨jc_0, by decide, wd_125⟩
theorem fl_1_65 : jFld RX1 65 0 3 := ⟨jc_0, by decide, wd_126⟩
theorem fl_11_140 : jFld RX11 140 0 3 := ⟨jc_0, by decide, wd_127⟩
theorem fl_0_22 : jFld RX0 22 0 4 := ⟨jc_0, by decide, wd_128⟩
theorem fl_2_40 : jFld RX2 40 0 4 := ⟨jc_0, by decide, wd_129⟩
theorem fl_11_143 : jFld RX11 143 0 4 := ⟨jc_0, by decide, wd_130⟩
theorem fl_8_234 : jFld RX8 234 0 4 := ⟨jc_0, by decide, wd_131⟩
theorem fl_3_7 : jFld RX3 7 3 0 := ⟨jc_3, by decide, wd_148⟩
theorem fl_11_153 : jFld RX11 153 3 0 := ⟨jc_3, by decide, wd_149⟩
theorem fl_8_249 : jFld RX8 249 3 0 := ⟨jc_3, by decide, wd_150⟩
theorem fl_3_13 : jFld RX3 13 3 1 := ⟨jc_3, by decide, wd_151⟩
theorem fl_11_158 : jFld RX11 158 3 1 := ⟨jc_3, by decide, wd_152⟩
theorem fl_8_252 : jFld RX8 252 3 1 := ⟨jc_3, by decide, wd_153⟩
theorem fl_3_16 : jFld RX3 16 3 2 := ⟨jc_3, by decide, wd_154⟩
theorem fl_11_161 : jFld RX11 161 3 2 := ⟨jc_3, by decide, wd_155⟩
theorem fl_8_255 : jFld RX8 255 3 2 := ⟨jc_3, by decide, wd_156⟩
theorem fl_3_19 : jFld RX3 19 3 3 := ⟨jc_3, by decide, wd_157⟩
theorem fl_11_164 : jFld RX11 164 3 3 := ⟨jc_3, by decide, wd_158⟩
theorem fl_8_164 : jFld RX8 164 3 3 := ⟨jc_3, by decide, wd_159⟩
theorem fl_3_22 : jFld RX3 22 3 4 := ⟨jc_3, by decide, wd_160⟩
theorem fl_11_167 : jFld RX11 167 3 4 := ⟨jc_3, by decide, wd_161⟩
theorem fl_8_261 : jFld RX8 261 3 4 := ⟨jc_3, by decide, wd_162⟩
theorem fl_5_9 : jFld RX5 9 5 0 := ⟨jc_5, by decide, wd_179⟩
theorem fl_4_81 : jFld RX4 81 5 0 := ⟨jc_5, by decide, wd_180⟩
theorem fl_2_46 : jFld RX2 46 5 0 := ⟨jc_5, by decide, wd_181⟩
theorem fl_8_141 : jFld RX8 141 5 0 := ⟨jc_5, by decide, wd_182⟩
theorem fl_11_256 : jFld RX11 256 5 0 := ⟨jc_5, by decide, wd_183⟩
theorem fl_5_15 : jFld RX5 15 5 1 := ⟨jc_5, by decide, wd_184⟩
theorem fl_2_58 : jFld RX2 58 5 1 := ⟨jc_5, by decide, wd_185⟩
theorem fl_4_158 : jFld RX4 158 5 1 := ⟨jc_5, by decide, wd_186⟩
theorem fl_11_250 : jFld RX11 250 5 1 := ⟨jc_5, by decide, wd_187⟩
theorem fl_8_246 : jFld RX8 246 5 1 := ⟨jc_5, by decide, wd_188⟩
theorem fl_5_18 : jFld RX5 18 5 2 := ⟨jc_5, by decide, wd_189⟩
theorem fl_2_52 : jFld RX2 52 5 2 := ⟨jc_5, by decide, wd_190⟩
theorem fl_11_259 : jFld RX11 259 5 2 := ⟨jc_5, by decide, wd_191⟩
theorem fl_8_205 : jFld RX8 205 5 2 := ⟨jc_5, by decide, wd_192⟩
theorem fl_5_21 : jFld RX5 21 5 3 := ⟨jc_5, by decide, wd_193⟩
theorem fl_2_55 : jFld RX2 55 5 3 := ⟨jc_5, by decide, wd_194⟩
theorem fl_11_229 : jFld RX11 229 5 3 := ⟨jc_5, by decide, wd_195⟩
theorem fl_8_208 : jFld RX8 208 5 3 := ⟨jc_5, by decide, wd_196⟩
theorem fl_5_24 : jFld RX5 24 5 4 := ⟨jc_5, by decide, wd_197⟩
theorem fl_4_168 : jFld RX4 168 5 4 := ⟨jc_5, by decide, wd_198⟩
theorem fl_5_27 : jFld RX5 27 5 5 := ⟨jc_5, by decide, wd_199⟩
theorem fl_4_69 : jFld RX4 69 5 5 := ⟨jc_5, by decide, wd_200⟩
theorem fl_8_138 : jFld RX8 138 5 5 := ⟨jc_5, by decide, wd_201⟩
theorem fl_11_262 : jFld RX11 262 5 5 := ⟨jc_5, by decide, wd_202⟩
theorem fl_5_30 : jFld RX5 30 5 6 := ⟨jc_5, by decide, wd_203⟩
theorem fl_4_99 : jFld RX4 99 5 6 := ⟨jc_5, by decide, wd_204⟩
theorem fl_8_135 : jFld RX8 135 5 6 := ⟨jc_5, by decide, wd_205⟩
theorem fl_11_247 : jFld RX11 247 5 6 := ⟨jc_5, by decide, wd_206⟩
theorem fl_5_33 : jFld RX5 33 5 7 := ⟨jc_5, by decide, wd_207⟩
theorem fl_8_219 : jFld RX8 219 5 7 := ⟨jc_5, by decide, wd_208⟩
theorem fl_11_372 : jFld RX11 372 5 7 := ⟨jc_5, by decide, wd_209⟩
theorem fl_5_36 : jFld RX5 36 5 8 := ⟨jc_5, by decide, wd_210⟩
theorem fl_4_165 : jFld RX4 165 5 8 := ⟨jc_5, by decide, wd_211⟩
theorem fl_8_198 : jFld RX8 198 5 8 := ⟨jc_5, by decide, wd_212⟩
theorem fl_5_39 : jFld RX5 39 5 9 := ⟨jc_5, by decide, wd_213⟩
theorem fl_11_288 : jFld RX11 288 5 9 := ⟨jc_5, by decide, wd_214⟩
theorem fl_5_42 : jFld RX5 42 5 10 := ⟨jc_5, by decide, wd_215⟩
theorem fl_11_285 : jFld RX11 285 5 10 := ⟨jc_5, by decide, wd_216⟩
theorem fl_5_45 : jFld RX5 45 5 11 := ⟨jc_5, by decide, wd_217⟩
theorem fl_11_232 : jFld RX11 232 5 11 := ⟨jc_5, by decide, wd_218⟩
theorem fl_5_48 : jFld RX5 48 5 12 := ⟨jc_5, by decide, wd_219⟩
theorem fl_11_235 : jFld RX11 235 5 12 := ⟨jc_5, by decide, wd_220⟩
theorem fl_10_7 : jFld RX10 7 10 0 := ⟨jc_10, by decide, wd_253⟩
theorem fl_8_179 : jFld RX8 179 10 0 := ⟨jc_10, by decide, wd_254⟩
theorem fl_11_192 : jFld RX11 192 10 0 := ⟨jc_10, by decide, wd_255⟩
theorem fl_10_13 : jFld RX10 13 10 1 := ⟨jc_10, by decide, wd_256⟩
theorem fl_8_182 : jFld RX8 182 10 1 := ⟨jc_10, by decide, wd_257⟩
theorem fl_11_197 : jFld RX11 197 10 1 := ⟨jc_10, by decide, wd_258⟩
theorem fl_10_16 : jFld RX10 16 10 2 := ⟨jc_10, by decide, wd_259⟩
theorem fl_8_185 : jFld RX8 185 10 2 := ⟨jc_10, by decide, wd_260⟩
theorem fl_11_404 : jFld RX11 404 10 2 := ⟨jc_10, by decide, wd_261⟩
theorem fl_10_19 : jFld RX10 19 10 3 := ⟨jc_10, by decide, wd_262⟩
theorem fl_8_188 : jFld RX8 188 10 3 := ⟨jc_10, by decide, wd_263⟩
theorem fl_11_238 : jFld RX11 238 10 3 := ⟨jc_10, by decide, wd_264⟩
theorem fl_8_12 : jFld RX8 12 8 0 := ⟨jc_8, by decide, wd_274⟩
theorem fl_11_73 : jFld RX11 73 8 0 := ⟨jc_8, by decide, wd_275⟩
theorem fl_8_18 : jFld RX8 18 8 1 := ⟨jc_8, by decide, wd_276⟩
theorem fl_11_102 : jFld RX11 102 8 1 := ⟨jc_8, by decide, wd_277⟩
theorem fl_8_74 : jFld RX8 74 8 2 := ⟨jc_8, by decide, wd_278⟩
theorem fl_11_105 : jFld RX11 105 8 2 := ⟨jc_8, by decide, wd_279⟩
theorem fl_8_24 : jFld RX8 24 8 3 := ⟨jc_8, by decide, wd_280⟩
theorem fl_11_87 : jFld RX11 87 8 3 := ⟨jc_8, by decide, wd_281⟩
theorem fl_8_81 : jFld RX8 81 8 4 := ⟨jc_8, by decide, wd_282⟩
theorem fl_11_174 : jFld RX11 174 8 4 := ⟨jc_8, by decide, wd_283⟩
theorem fl_8_30 : jFld RX8 30 8 5 := ⟨jc_8, by decide, wd_284⟩
theorem fl_4_77 : jFld RX4 77 8 5 := ⟨jc_8, by decide, wd_285⟩
theorem fl_11_125 : jFld RX11 125 8 5 := ⟨jc_8, by decide, wd_286⟩
theorem fl_8_99 : jFld RX8 99 8 6 := ⟨jc_8, by decide, wd_287⟩
theorem fl_11_122 : jFld RX11 122 8 6 := ⟨jc_8, by decide, wd_288⟩
theorem fl_8_36 : jFld RX8 36 8 7 := ⟨jc_8, by decide, wd_289⟩
theorem fl_11_149 : jFld RX11 149 8 7 := ⟨jc_8, by decide, wd_290⟩
theorem fl_8_105 : jFld RX8 105 8 8 := ⟨jc_8, by decide, wd_291⟩
theorem fl_11_146 : jFld RX11 146 8 8 := ⟨jc_8, by decide, wd_292⟩
theorem fl_8_42 : jFld RX8 42 8 9 := ⟨jc_8, by decide, wd_293⟩
theorem fl_4_65 : jFld RX4 65 8 9 := ⟨jc_8, by decide, wd_294⟩
theorem fl_11_200 : jFld RX11 200 8 9 := ⟨jc_8, by decide, wd_295⟩
theorem fl_8_111 : jFld RX8 111 8 10 := ⟨jc_8, by decide, wd_296⟩
theorem fl_4_96 : jFld RX4 96 8 10 := ⟨jc_8, by decide, wd_297⟩
theorem fl_11_271 : jFld RX11 271 8 10 := ⟨jc_8, by decide, wd_298⟩
theorem fl_8_48 : jFld RX8 48 8 11 := ⟨jc_8, by decide, wd_299⟩
theorem fl_11_188 : jFld RX11 188 8 11 := ⟨jc_8, by decide, wd_300⟩
theorem fl_8_117 : jFld RX8 117 8 12 := ⟨jc_8, by decide, wd_301⟩
theorem fl_11_222 : jFld RX11 222 8 12 := ⟨jc_8, by decide, wd_302⟩
theorem fl_8_54 : jFld RX8 54 8 13 := ⟨jc_8, by decide, wd_303⟩
theorem fl_4_89 : jFld RX4 89 8 13 := ⟨jc_8, by decide, wd_304⟩
theorem fl_11_318 : jFld RX11 318 8 13 := ⟨jc_8, by decide, wd_305⟩
theorem fl_8_123 : jFld RX8 123 8 14 := ⟨jc_8, by decide, wd_306⟩
theorem fl_4_114 : jFld RX4 114 8 14 := ⟨jc_8, by decide, wd_307⟩
theorem fl_11_315 : jFld RX11 315 8 14 := ⟨jc_8, by decide, wd_308⟩
theorem fl_8_57 : jFld RX8 57 8 15 := ⟨jc_8, by decide, wd_309⟩
theorem fl_11_381 : jFld RX11 381 8 15 := ⟨jc_8, by decide, wd_310⟩
theorem fl_8_60 : jFld RX8 60 8 16 := ⟨jc_8, by decide, wd_311⟩
theorem fl_11_391 : jFld RX11 391 8 16 := ⟨jc_8, by decide, wd_312⟩
theorem fl_8_96 : jFld RX8 96 8 17 := ⟨jc_8, by decide, wd_313⟩
theorem fl_11_394 : jFld RX11 394 8 17 := ⟨jc_8, by decide, wd_314⟩
theorem fl_8_63 : jFld RX8 63 8 18 := ⟨jc_8, by decide, wd_315⟩
theorem fl_4_189 : jFld RX4 189 8 18 := ⟨jc_8, by decide, wd_316⟩
theorem fl_11_419 : jFld RX11 419 8 18 := ⟨jc_8, by decide, wd_317⟩
theorem fl_8_126 : jFld RX8 126 8 19 := ⟨jc_8, by decide, wd_318⟩
theorem fl_4_171 : jFld RX4 171 8 19 := ⟨jc_8, by decide, wd_319⟩
theorem fl_11_416 : jFld RX11 416 8 19 := ⟨jc_8, by decide, wd_320⟩
theorem fl_9_9 : jFld RX9 9 9 0 := ⟨jc_9, by decide, wd_375⟩
theorem fl_9_15 : jFld RX9 15 9 1 := ⟨jc_9, by decide, wd_376⟩
theorem fl_11_49 : jFld RX11 49 9 1 := ⟨jc_9, by decide, wd_377⟩
theorem fl_9_25 : jFld RX9 25 9 2 := ⟨jc_9, by decide, wd_378⟩
theorem fl_9_28 : jFld RX9 28 9 3 := ⟨jc_9, by decide, wd_379⟩
theorem fl_6_50 : jFld RX6 50 9 4 := ⟨jc_9, by decide, wd_380⟩
theorem fl_9_40 : jFld RX9 40 9 4 := ⟨jc_9, by decide, wd_381⟩
theorem fl_9_34 : jFld RX9 34 9 5 := ⟨jc_9, by decide, wd_382⟩
theorem fl_6_184 : jFld RX6 184 9 5 := ⟨jc_9, by decide, wd_383⟩
theorem fl_9_37 : jFld RX9 37 9 6 := ⟨jc_9, by decide, wd_384⟩
theorem fl_6_181 : jFld RX6 181 9 6 := ⟨jc_9, by decide, wd_385⟩
theorem fl_6_12 : jFld RX6 12 6 0 := ⟨jc_6, by decide, wd_407⟩
theorem fl_11_45 : jFld RX11 45 6 0 := ⟨jc_6, by decide, wd_408⟩
theorem fl_6_21 : jFld RX6 21 6 1 := ⟨jc_6, by decide, wd_409⟩
theorem fl_11_77 : jFld RX11 77 6 1 := ⟨jc_6, by decide, wd_410⟩
theorem fl_6_28 : jFld RX6 28 6 2 := ⟨jc_6, by decide, wd_411⟩
theorem fl_11_91 : jFld RX11 91 6 2 := ⟨jc_6, by decide, wd_412⟩
theorem fl_6_32 : jFld RX6 32 6 3 := ⟨jc_6, by decide, wd_413⟩
theorem fl_6_36 : jFld RX6 36 6 4 := ⟨jc_6, by decide, wd_414⟩
theorem fl_11_70 : jFld RX11 70 6 4 := ⟨jc_6, by decide, wd_415⟩
theorem fl_6_39 : jFld RX6 39 6 5 := ⟨jc_6, by decide, wd_416⟩
theorem fl_11_99 : jFld RX11 99 6 5 := ⟨jc_6, by decide, wd_417⟩
theorem fl_7_9 : jFld RX7 9 7 0 := ⟨jc_7, by decide, wd_438⟩
theorem fl_11_339 : jFld RX11 339 7 0 := ⟨jc_7, by decide, wd_439⟩
theorem fl_7_19 : jFld RX7 19 7 1 := ⟨jc_7, by decide, wd_440⟩
theorem fl_7_15 : jFld RX7 15 7 2 := ⟨jc_7, by decide, wd_441⟩
theorem fl_4_55 : jFld RX4 55 4 0 := ⟨jc_4, by decide, wd_457⟩
theorem fl_4_11 : jFld RX4 11 4 1 := ⟨jc_4, by decide, wd_458⟩
theorem fl_4_15 : jFld RX4 15 4 2 := ⟨jc_4, by decide, wd_459⟩
theorem fl_4_18 : jFld RX4 18 4 3 := ⟨jc_4, by decide, wd_460⟩
theorem fl_4_21 : jFld RX4 21 4 4 := ⟨jc_4, by decide, wd_461⟩
theorem fl_4_24 : jFld RX4 24 4 5 := ⟨jc_4, by decide, wd_462⟩
theorem fl_4_27 : jFld RX4 27 4 6 := ⟨jc_4, by decide, wd_463⟩
theorem fl_4_30 : jFld RX4 30 4 7 := ⟨jc_4, by decide, wd_464⟩
theorem fl_4_34 : jFld RX4 34 4 8 := ⟨jc_4, by decide, wd_465⟩
theorem fl_4_39 : jFld RX4 39 4 9 := ⟨jc_4, by decide, wd_466⟩
theorem fl_4_42 : jFld RX4 42 4 10 := ⟨jc_4, by decide, wd_467⟩
theorem fl_4_45 : jFld RX4 45 4 11 := ⟨jc_4, by decide, wd_468⟩
theorem fl_4_48 : jFld RX4 48 4 12 := ⟨jc_4, by decide, wd_469⟩
theorem fl_4_52 : jFld RX4 52 4 13 := ⟨jc_4, by decide, wd_470⟩
theorem fl_11_10 : jFld RX11 10 11 0 := ⟨jc_11, by decide, wd_500⟩
theorem fl_11_16 : jFld RX11 16 11 1 := ⟨jc_11, by decide, wd_501⟩
theorem fl_11_20 : jFld RX11 20 11 2 := ⟨jc_11, by decide, wd_502⟩
theorem fl_11_27 : jFld RX11 27 11 3 := ⟨jc_11, by decide, wd_503⟩
theorem fl_11_33 : jFld RX11 33 11 4 := ⟨jc_11, by decide, wd_504⟩
theorem fl_11_41 : jFld RX11 41 11 5 := ⟨jc_11, by decide, wd_505⟩
theorem fl_12_1 : jFld RX12 1 12 0 := ⟨jc_12, by decide, wd_1279⟩
theorem fl_12_13 : jFld RX12 13 12 1 := ⟨jc_12, by decide, wd_1280⟩
theorem fl_12_17 : jFld RX12 17 12 2 := ⟨jc_12, by decide, wd_1281⟩
theorem fl_12_21 : jFld RX12 21 12 3 := ⟨jc_12, by decide, wd_1282⟩
theorem fl_12_24 : jFld RX12 24 12 4 := ⟨jc_12, by decide, wd_1283⟩
theorem fl_12_79 : jFld RX12 79 12 5 := ⟨jc_12, by decide, wd_1284⟩
theorem fl_12_97 : jFld RX12 97 12 6 := ⟨jc_12, by decide, wd_1285⟩
theorem fl_12_100 : jFld RX12 100 12 7 := ⟨jc_12, by decide, wd_1286⟩
theorem fl_12_82 : jFld RX12 82 12 8 := ⟨jc_12, by decide, wd_1287⟩
theorem fl_12_107 : jFld RX12 107 12 9 := ⟨jc_12, by decide, wd_1288⟩
theorem fl_12_120 : jFld RX12 120 12 10 := ⟨jc_12, by decide, wd_1289⟩
theorem fl_12_123 : jFld RX12 123 12 11 := ⟨jc_12, by decide, wd_1290⟩
theorem fl_12_126 : jFld RX12 126 12 12 := ⟨jc_12, by decide, wd_1291⟩
theorem fl_12_179 : jFld RX12 179 12 13 := ⟨jc_12, by decide, wd_1292⟩
theorem fl_12_166 : jFld RX12 166 12 14 := ⟨jc_12, by decide, wd_1293⟩
theorem fl_12_153 : jFld RX12 153 12 15 := ⟨jc_12, by decide, wd_1294⟩
theorem fl_12_195 : jFld RX12 195 12 16 := ⟨jc_12, by decide, wd_1295⟩
theorem fl_12_27 : jFld RX12 27 12 17 := ⟨jc_12, by decide, wd_1296⟩
theorem fl_12_30 : jFld RX12 30 12 18 := ⟨jc_12, by decide, wd_1297⟩
theorem fl_12_33 : jFld RX12 33 12 19 := ⟨jc_12, by decide, wd_1298⟩
theorem fl_12_36 : jFld RX12 36 12 20 := ⟨jc_12, by decide, wd_1299⟩
theorem fl_12_39 : jFld RX12 39 12 21 := ⟨jc_12, by decide, wd_1300⟩
theorem fl_12_42 : jFld RX12 42 12 22 := ⟨jc_12, by decide, wd_1301⟩
theorem fl_12_45 : jFld RX12 45 12 23 := ⟨jc_12, by decide, wd_1302⟩
theorem fl_12_48 : jFld RX12 48 12 24 := ⟨jc_12, by decide, wd_1303⟩
theorem fl_12_51 : jFld RX12 51 12 25 := ⟨jc_12, by decide, wd_1304⟩
theorem fl_12_54 : jFld RX12 54 12 26 := ⟨jc_12, by decide, wd_1305⟩
theorem fl_12_57 : jFld RX12 57 12 27 := ⟨jc_12, by decide, wd_1306⟩
theorem fl_12_60 : jFld RX12 60 12 28 := ⟨jc_12, by decide, wd_1307⟩
theorem fl_12_63 : jFld RX12 63 12 29 := ⟨jc_12, by decide, wd_1308⟩
theorem fl_12_66 : jFld RX12 66 12 30 := ⟨jc_12, by decide, wd_1309⟩
theorem fl_12_69 : jFld RX12 69 12 31 := ⟨jc_12, by decide, wd_1310⟩
theorem fl_12_72 : jFld RX12 72 12 32 := ⟨jc_12, by decide, wd_1311⟩
theorem fl_12_75 : jFld RX12 75 12 33 := ⟨jc_12, by decide, wd_1312⟩
