set_option maxHeartbeats 4000000 in
theorem p1_23 (xs : Nat → Int32) (n : Nat) (x_sourceCode_op : Nat → Int32) (x_sourceCode_d : Nat → Int32) (x_sourceCode_a : Nat → Int32) (x_sourceCode_b : Nat → Int32) (x_sourceCode_need : Nat → Int32) (x_sourceCode_length : Int32) (x_sourceCode_leaders : Int32) (x_resultCode_op : Nat → Int32) (x_resultCode_d : Nat → Int32) (x_resultCode_a : Nat → Int32) (x_resultCode_b : Nat → Int32) (x_resultCode_need : Nat → Int32) (x_resultCode_length : Int32) (x_facts_before : Nat → Int64) (x_facts_flowing : Nat → Int64) (x_symbols_kind : Nat → Int32) (x_symbols_left : Nat → Int32) (x_symbols_right : Nat → Int32) (x_symbols_count : Int32) (x_sourceWalk_held : Nat → Int32) (x_sourceWalk_riskDividend : Nat → Int32) (x_sourceWalk_riskDivisor : Nat → Int32) (x_sourceWalk_risks : Int32) (x_sourceWalk_endKind : Int32) (x_sourceWalk_endNumber : Int32) (x_sourceWalk_endPlace : Int32) (x_sourceWalk_endSymbol : Int32) (x_resultWalk_held : Nat → Int32) (x_resultWalk_riskDividend : Nat → Int32) (x_resultWalk_riskDivisor : Nat → Int32) (x_resultWalk_risks : Int32) (x_resultWalk_endKind : Int32) (x_resultWalk_endNumber : Int32) (x_resultWalk_endPlace : Int32) (x_resultWalk_endSymbol : Int32) (x_machine_inputs : Nat → Int32) (x_machine_registers : Nat → Int32) (x_machine_toldSet : Int32) (x_machine_done : Int32) (x_sealed : Int32) (x_foundAlike : Int32) (m_code : Nat → Int32) (m_size : Int32) (m_thrown : Int32) (m_sealed : Int32) (m_good : Int32) (m_inputs : Nat → Int32) (m_reached : Nat → Int32) (m_isInt : Nat → Int32) (m_fact : Nat → Int32) (m_need : Nat → Int32) (m_leader : Nat → Int32) (m_kind : Nat → Int32) (m_left : Nat → Int32) (m_right : Nat → Int32) (m_symbols : Int32) (m_hold : Nat → Int32) (m_risk : Nat → Int32) (m_risks : Nat → Int32) (m_end : Nat → Int32) (m_to : Nat → Int32) (m_symbol : Nat → Int32) (m_place : Nat → Int32) (m_register : Nat → Int32) (m_set : Int32) (m_steps : Int32) (m_ended : Int32) (out : Nat → Int64) : f_BlockCodeLaw_law_23 xs 6 (n + 1) (0 + 6) x_sourceCode_op x_sourceCode_d x_sourceCode_a x_sourceCode_b x_sourceCode_need x_sourceCode_length x_sourceCode_leaders x_resultCode_op x_resultCode_d x_resultCode_a x_resultCode_b x_resultCode_need x_resultCode_length x_facts_before x_facts_flowing x_symbols_kind x_symbols_left x_symbols_right x_symbols_count x_sourceWalk_held x_sourceWalk_riskDividend x_sourceWalk_riskDivisor x_sourceWalk_risks x_sourceWalk_endKind x_sourceWalk_endNumber x_sourceWalk_endPlace x_sourceWalk_endSymbol x_resultWalk_held x_resultWalk_riskDividend x_resultWalk_riskDivisor x_resultWalk_risks x_resultWalk_endKind x_resultWalk_endNumber x_resultWalk_endPlace x_resultWalk_endSymbol x_machine_inputs x_machine_registers x_machine_toldSet x_machine_done x_sealed x_foundAlike m_code m_size m_thrown m_sealed m_good m_inputs m_reached m_isInt m_fact m_need m_leader m_kind m_left m_right m_symbols m_hold m_risk m_risks m_end m_to m_symbol m_place m_register m_set m_steps m_ended out = some 1 := by
  rw [f_BlockCodeLaw_law_23, if_pos (by decide)]
set_option maxHeartbeats 4000000 in
theorem p1_816 (xs : Nat → Int32) (n : Nat) (x_sourceCode_op : Nat → Int32) (x_sourceCode_d : Nat → Int32) (x_sourceCode_a : Nat → Int32) (x_sourceCode_b : Nat → Int32) (x_sourceCode_need : Nat → Int32) (x_sourceCode_length : Int32) (x_sourceCode_leaders : Int32) (x_resultCode_op : Nat → Int32) (x_resultCode_d : Nat → Int32) (x_resultCode_a : Nat → Int32) (x_resultCode_b : Nat → Int32) (x_resultCode_need : Nat → Int32) (x_resultCode_length : Int32) (x_facts_before : Nat → Int64) (x_facts_flowing : Nat → Int64) (x_symbols_kind : Nat → Int32) (x_symbols_left : Nat → Int32) (x_symbols_right : Nat → Int32) (x_symbols_count : Int32) (x_sourceWalk_held : Nat → Int32) (x_sourceWalk_riskDividend : Nat → Int32) (x_sourceWalk_riskDivisor : Nat → Int32) (x_sourceWalk_risks : Int32) (x_sourceWalk_endKind : Int32) (x_sourceWalk_endNumber : Int32) (x_sourceWalk_endPlace : Int32) (x_sourceWalk_endSymbol : Int32) (x_resultWalk_held : Nat → Int32) (x_resultWalk_riskDividend : Nat → Int32) (x_resultWalk_riskDivisor : Nat → Int32) (x_resultWalk_risks : Int32) (x_resultWalk_endKind : Int32) (x_resultWalk_endNumber : Int32) (x_resultWalk_endPlace : Int32) (x_resultWalk_endSymbol : Int32) (x_machine_inputs : Nat → Int32) (x_machine_registers : Nat → Int32) (x_machine_toldSet : Int32) (x_machine_done : Int32) (x_sealed : Int32) (x_foundAlike : Int32) (m_code : Nat → Int32) (m_size : Int32) (m_thrown : Int32) (m_sealed : Int32) (m_good : Int32) (m_inputs : Nat → Int32) (m_reached : Nat → Int32) (m_isInt : Nat → Int32) (m_fact : Nat → Int32) (m_need : Nat → Int32) (m_leader : Nat → Int32) (m_kind : Nat → Int32) (m_left : Nat → Int32) (m_right : Nat → Int32) (m_symbols : Int32) (m_hold : Nat → Int32) (m_risk : Nat → Int32) (m_risks : Nat → Int32) (m_end : Nat → Int32) (m_to : Nat → Int32) (m_symbol : Nat → Int32) (m_place : Nat → Int32) (m_register : Nat → Int32) (m_set : Int32) (m_steps : Int32) (m_ended : Int32) (out : Nat → Int64) : f_BlockCodeLaw_law_816 xs 6 (f_BlockCodeLaw_law_23 xs 6 (n + 1)) 0 x_sourceCode_op x_sourceCode_d x_sourceCode_a x_sourceCode_b x_sourceCode_need x_sourceCode_length x_sourceCode_leaders x_resultCode_op x_resultCode_d x_resultCode_a x_resultCode_b x_resultCode_need x_resultCode_length x_facts_before x_facts_flowing x_symbols_kind x_symbols_left x_symbols_right x_symbols_count x_sourceWalk_held x_sourceWalk_riskDividend x_sourceWalk_riskDivisor x_sourceWalk_risks x_sourceWalk_endKind x_sourceWalk_endNumber x_sourceWalk_endPlace x_sourceWalk_endSymbol x_resultWalk_held x_resultWalk_riskDividend x_resultWalk_riskDivisor x_resultWalk_risks x_resultWalk_endKind x_resultWalk_endNumber x_resultWalk_endPlace x_resultWalk_endSymbol x_machine_inputs x_machine_registers x_machine_toldSet x_machine_done x_sealed x_foundAlike m_code m_size m_thrown m_sealed m_good m_inputs m_reached m_isInt m_fact m_need m_leader m_kind m_left m_right m_symbols m_hold m_risk m_risks m_end m_to m_symbol m_place m_register m_set m_steps m_ended out = some 1 := by
  unfold f_BlockCodeLaw_law_816
  exact p1_23 xs n x_sourceCode_op x_sourceCode_d x_sourceCode_a x_sourceCode_b x_sourceCode_need x_sourceCode_length x_sourceCode_leaders x_resultCode_op x_resultCode_d x_resultCode_a x_resultCode_b x_resultCode_need x_resultCode_length x_facts_before x_facts_flowing x_symbols_kind x_symbols_left x_symbols_right x_symbols_count x_sourceWalk_held x_sourceWalk_riskDividend x_sourceWalk_riskDivisor x_sourceWalk_risks x_sourceWalk_endKind x_sourceWalk_endNumber x_sourceWalk_endPlace x_sourceWalk_endSymbol x_resultWalk_held x_resultWalk_riskDividend x_resultWalk_riskDivisor x_resultWalk_risks x_resultWalk_endKind x_resultWalk_endNumber x_resultWalk_endPlace x_resultWalk_endSymbol x_machine_inputs x_machine_registers x_machine_toldSet x_machine_done x_sealed x_foundAlike m_code m_size m_thrown m_sealed m_good m_inputs m_reached m_isInt m_fact m_need m_leader m_kind m_left m_right m_symbols m_hold m_risk m_risks m_end m_to m_symbol m_place m_register m_set m_steps m_ended out
set_option maxHeartbeats 4000000 in
theorem p1_221 (xs : Nat → Int32) (n : Nat) (x_sourceCode_op : Nat → Int32) (x_sourceCode_d : Nat → Int32) (x_sourceCode_a : Nat → Int32) (x_sourceCode_b : Nat → Int32) (x_sourceCode_need : Nat → Int32) (x_sourceCode_length : Int32) (x_sourceCode_leaders : Int32) (x_resultCode_op : Nat → Int32) (x_resultCode_d : Nat → Int32) (x_resultCode_a : Nat → Int32) (x_resultCode_b : Nat → Int32) (x_resultCode_need : Nat → Int32) (x_resultCode_length : Int32) (x_facts_before : Nat → Int64) (x_facts_flowing : Nat → Int64) (x_symbols_kind : Nat → Int32) (x_symbols_left : Nat → Int32) (x_symbols_right : Nat → Int32) (x_symbols_count : Int32) (x_sourceWalk_held : Nat → Int32) (x_sourceWalk_riskDividend : Nat → Int32) (x_sourceWalk_riskDivisor : Nat → Int32) (x_sourceWalk_risks : Int32) (x_sourceWalk_endKind : Int32) (x_sourceWalk_endNumber : Int32) (x_sourceWalk_endPlace : Int32) (x_sourceWalk_endSymbol : Int32) (x_resultWalk_held : Nat → Int32) (x_resultWalk_riskDividend : Nat → Int32) (x_resultWalk_riskDivisor : Nat → Int32) (x_resultWalk_risks : Int32) (x_resultWalk_endKind : Int32) (x_resultWalk_endNumber : Int32) (x_resultWalk_endPlace : Int32) (x_resultWalk_endSymbol : Int32) (x_machine_inputs : Nat → Int32) (x_machine_registers : Nat → Int32) (x_machine_toldSet : Int32) (x_machine_done : Int32) (x_sealed : Int32) (x_foundAlike : Int32) (m_code : Nat → Int32) (m_size : Int32) (m_thrown : Int32) (m_sealed : Int32) (m_good : Int32) (m_inputs : Nat → Int32) (m_reached : Nat → Int32) (m_isInt : Nat → Int32) (m_fact : Nat → Int32) (m_need : Nat → Int32) (m_leader : Nat → Int32) (m_kind : Nat → Int32) (m_left : Nat → Int32) (m_right : Nat → Int32) (m_symbols : Int32) (m_hold : Nat → Int32) (m_risk : Nat → Int32) (m_risks : Nat → Int32) (m_end : Nat → Int32) (m_to : Nat → Int32) (m_symbol : Nat → Int32) (m_place : Nat → Int32) (m_register : Nat → Int32) (m_set : Int32) (m_steps : Int32) (m_ended : Int32) (out : Nat → Int64) : f_BlockCodeLaw_law_221 xs 6 (f_BlockCodeLaw_law_23 xs 6 (n + 1)) 0 x_sourceCode_op x_sourceCode_d x_sourceCode_a x_sourceCode_b x_sourceCode_need x_sourceCode_length x_sourceCode_leaders x_resultCode_op x_resultCode_d x_resultCode_a x_resultCode_b x_resultCode_need x_resultCode_length x_facts_before x_facts_flowing x_symbols_kind x_symbols_left x_symbols_right x_symbols_count x_sourceWalk_held x_sourceWalk_riskDividend x_sourceWalk_riskDivisor x_sourceWalk_risks x_sourceWalk_endKind x_sourceWalk_endNumber x_sourceWalk_endPlace x_sourceWalk_endSymbol x_resultWalk_held x_resultWalk_riskDividend x_resultWalk_riskDivisor x_resultWalk_risks x_resultWalk_endKind x_resultWalk_endNumber x_resultWalk_endPlace x_resultWalk_endSymbol x_machine_inputs x_machine_registers x_machine_toldSet x_machine_done x_sealed x_foundAlike m_code m_size m_thrown m_sealed m_good m_inputs m_reached m_isInt m_fact m_need m_leader m_kind m_left m_right m_symbols m_hold m_risk m_risks m_end m_to m_symbol m_place m_register m_set m_steps m_ended out = some 1 := by
  unfold f_BlockCodeLaw_law_221
  exact p1_816 xs n x_sourceCode_op x_sourceCode_d x_sourceCode_a x_sourceCode_b x_sourceCode_need x_sourceCode_length x_sourceCode_leaders x_resultCode_op x_resultCode_d x_resultCode_a x_resultCode_b x_resultCode_need x_resultCode_length x_facts_before x_facts_flowing x_symbols_kind x_symbols_left x_symbols_right x_symbols_count x_sourceWalk_held x_sourceWalk_riskDividend x_sourceWalk_riskDivisor x_sourceWalk_risks x_sourceWalk_endKind x_sourceWalk_endNumber x_sourceWalk_endPlace x_sourceWalk_endSymbol x_resultWalk_held x_resultWalk_riskDividend x_resultWalk_riskDivisor x_resultWalk_risks x_resultWalk_endKind x_resultWalk_endNumber x_resultWalk_endPlace x_resultWalk_endSymbol x_machine_inputs x_machine_registers x_machine_toldSet x_machine_done x_sealed x_foundAlike m_code m_size m_thrown m_sealed m_good m_inputs m_reached m_isInt m_fact m_need m_leader m_kind m_left m_right m_symbols m_hold m_risk m_risks m_end m_to m_symbol m_place m_register m_set m_steps m_ended out
set_option maxHeartbeats 4000000 in
theorem p1_276 (xs : Nat → Int32) (n : Nat) (x_sourceCode_op : Nat → Int32) (x_sourceCode_d : Nat → Int32) (x_sourceCode_a : Nat → Int32) (x_sourceCode_b : Nat → Int32) (x_sourceCode_need : Nat → Int32) (x_sourceCode_length : Int32) (x_sourceCode_leaders : Int32) (x_resultCode_op : Nat → Int32) (x_resultCode_d : Nat → Int32) (x_resultCode_a : Nat → Int32) (x_resultCode_b : Nat → Int32) (x_resultCode_need : Nat → Int32) (x_resultCode_length : Int32) (x_facts_before : Nat → Int64) (x_facts_flowing : Nat → Int64) (x_symbols_kind : Nat → Int32) (x_symbols_left : Nat → Int32) (x_symbols_right : Nat → Int32) (x_symbols_count : Int32) (x_sourceWalk_held : Nat → Int32) (x_sourceWalk_riskDividend : Nat → Int32) (x_sourceWalk_riskDivisor : Nat → Int32) (x_sourceWalk_risks : Int32) (x_sourceWalk_endKind : Int32) (x_sourceWalk_endNumber : Int32) (x_sourceWalk_endPlace : Int32) (x_sourceWalk_endSymbol : Int32) (x_resultWalk_held : Nat → Int32) (x_resultWalk_riskDividend : Nat → Int32) (x_resultWalk_riskDivisor : Nat → Int32) (x_resultWalk_risks : Int32) (x_resultWalk_endKind : Int32) (x_resultWalk_endNumber : Int32) (x_resultWalk_endPlace : Int32) (x_resultWalk_endSymbol : Int32) (x_machine_inputs : Nat → Int32) (x_machine_registers : Nat → Int32) (x_machine_toldSet : Int32) (x_machine_done : Int32) (x_sealed : Int32) (x_foundAlike : Int32) (m_code : Nat → Int32) (m_size : Int32) (m_thrown : Int32) (m_sealed : Int32) (m_good : Int32) (m_inputs : Nat → Int32) (m_reached : Nat → Int32) (m_isInt : Nat → Int32) (m_fact : Nat → Int32) (m_need : Nat → Int32) (m_leader : Nat → Int32) (m_kind : Nat → Int32) (m_left : Nat → Int32) (m_right : Nat → Int32) (m_symbols : Int32) (m_hold : Nat → Int32) (m_risk : Nat → Int32) (m_risks : Nat → Int32) (m_end : Nat → Int32) (m_to : Nat → Int32) (m_symbol : Nat → Int32) (m_place : Nat → Int32) (m_register : Nat → Int32) (m_set : Int32) (m_steps : Int32) (m_ended : Int32) (out : Nat → Int64) : f_BlockCodeLaw_law_276 xs 6 (f_BlockCodeLaw_law_23 xs 6 (n + 1)) 0 x_sourceCode_op x_sourceCode_d x_sourceCode_a x_sourceCode_b x_sourceCode_need x_sourceCode_length x_sourceCode_leaders x_resultCode_op x_resultCode_d x_resultCode_a x_resultCode_b x_resultCode_need x_resultCode_length x_facts_before x_facts_flowing x_symbols_kind x_symbols_left x_symbols_right x_symbols_count x_sourceWalk_held x_sourceWalk_riskDividend x_sourceWalk_riskDivisor x_sourceWalk_risks x_sourceWalk_endKind x_sourceWalk_endNumber x_sourceWalk_endPlace x_sourceWalk_endSymbol x_resultWalk_held x_resultWalk_riskDividend x_resultWalk_riskDivisor x_resultWalk_risks x_resultWalk_endKind x_resultWalk_endNumber x_resultWalk_endPlace x_resultWalk_endSymbol x_machine_inputs x_machine_registers x_machine_toldSet x_machine_done x_sealed x_foundAlike m_code m_size m_thrown m_sealed m_good m_inputs m_reached m_isInt m_fact m_need m_leader m_kind m_left m_right m_symbols m_hold m_risk m_risks m_end m_to m_symbol m_place m_register m_set m_steps m_ended out = some 1 := by
  unfold f_BlockCodeLaw_law_276
  exact p1_816 xs n x_sourceCode_op x_sourceCode_d x_sourceCode_a x_sourceCode_b x_sourceCode_need x_sourceCode_length x_sourceCode_leaders x_resultCode_op x_resultCode_d x_resultCode_a x_resultCode_b x_resultCode_need x_resultCode_length x_facts_before x_facts_flowing x_symbols_kind x_symbols_left x_symbols_right x_symbols_count x_sourceWalk_held x_sourceWalk_riskDividend x_sourceWalk_riskDivisor x_sourceWalk_risks x_sourceWalk_endKind x_sourceWalk_endNumber x_sourceWalk_endPlace x_sourceWalk_endSymbol x_resultWalk_held x_resultWalk_riskDividend x_resultWalk_riskDivisor x_resultWalk_risks x_resultWalk_endKind x_resultWalk_endNumber x_resultWalk_endPlace x_resultWalk_endSymbol x_machine_inputs x_machine_registers x_machine_toldSet x_machine_done x_sealed x_foundAlike m_code m_size m_thrown m_sealed m_good m_inputs m_reached m_isInt m_fact m_need m_leader m_kind m_left m_right m_symbols m_hold m_risk m_risks m_end m_to m_symbol m_place m_register m_set m_steps m_ended out
set_option maxHeartbeats 4000000 in
theorem p1_470 (xs : Nat → Int32) (n : Nat) (x_sourceCode_op : Nat → Int32) (x_sourceCode_d : Nat → Int32) (x_sourceCode_a : Nat → Int32) (x_sourceCode_b : Nat → Int32) (x_sourceCode_need : Nat → Int32) (x_sourceCode_length : Int32) (x_sourceCode_leaders : Int32) (x_resultCode_op : Nat → Int32) (x_resultCode_d : Nat → Int32) (x_resultCode_a : Nat → Int32) (x_resultCode_b : Nat → Int32) (x_resultCode_need : Nat → Int32) (x_resultCode_length : Int32) (x_facts_before : Nat → Int64) (x_facts_flowing : Nat → Int64) (x_symbols_kind : Nat → Int32) (x_symbols_left : Nat → Int32) (x_symbols_right : Nat → Int32) (x_symbols_count : Int32) (x_sourceWalk_held : Nat → Int32) (x_sourceWalk_riskDividend : Nat → Int32) (x_sourceWalk_riskDivisor : Nat → Int32) (x_sourceWalk_risks : Int32) (x_sourceWalk_endKind : Int32) (x_sourceWalk_endNumber : Int32) (x_sourceWalk_endPlace : Int32) (x_sourceWalk_endSymbol : Int32) (x_resultWalk_held : Nat → Int32) (x_resultWalk_riskDividend : Nat → Int32) (x_resultWalk_riskDivisor : Nat → Int32) (x_resultWalk_risks : Int32) (x_resultWalk_endKind : Int32) (x_resultWalk_endNumber : Int32) (x_resultWalk_endPlace : Int32) (x_resultWalk_endSymbol : Int32) (x_machine_inputs : Nat → Int32) (x_machine_registers : Nat → Int32) (x_machine_toldSet : Int32) (x_machine_done : Int32) (x_sealed : Int32) (x_foundAlike : Int32) (m_code : Nat → Int32) (m_size : Int32) (m_thrown : Int32) (m_sealed : Int32) (m_good : Int32) (m_inputs : Nat → Int32) (m_reached : Nat → Int32) (m_isInt : Nat → Int32) (m_fact : Nat → Int32) (m_need : Nat → Int32) (m_leader : Nat → Int32) (m_kind : Nat → Int32) (m_left : Nat → Int32) (m_right : Nat → Int32) (m_symbols : Int32) (m_hold : Nat → Int32) (m_risk : Nat → Int32) (m_risks : Nat → Int32) (m_end : Nat → Int32) (m_to : Nat → Int32) (m_symbol : Nat → Int32) (m_place : Nat → Int32) (m_register : Nat → Int32) (m_set : Int32) (m_steps : Int32) (m_ended : Int32) (out : Nat → Int64) : f_BlockCodeLaw_law_470 xs 6 (f_BlockCodeLaw_law_23 xs 6 (n + 1)) 0 x_sourceCode_op x_sourceCode_d x_sourceCode_a x_sourceCode_b x_sourceCode_need x_sourceCode_length x_sourceCode_leaders x_resultCode_op x_resultCode_d x_resultCode_a x_resultCode_b x_resultCode_need x_resultCode_length x_facts_before x_facts_flowing x_symbols_kind x_symbols_left x_symbols_right x_symbols_count x_sourceWalk_held x_sourceWalk_riskDividend x_sourceWalk_riskDivisor x_sourceWalk_risks x_sourceWalk_endKind x_sourceWalk_endNumber x_sourceWalk_endPlace x_sourceWalk_endSymbol x_resultWalk_held x_resultWalk_riskDividend x_resultWalk_riskDivisor x_resultWalk_risks x_resultWalk_endKind x_resultWalk_endNumber x_resultWalk_endPlace x_resultWalk_endSymbol x_machine_inputs x_machine_registers x_machine_toldSet x_machine_done x_sealed x_foundAlike m_code m_size m_thrown m_sealed m_good m_inputs m_reached m_isInt m_fact m_need m_leader m_kind m_left m_right m_symbols m_hold m_risk m_risks m_end m_to m_symbol m_place m_register m_set m_steps m_ended out = some 1 := by
  unfold f_BlockCodeLaw_law_470
  exact p1_816 xs n x_sourceCode_op x_sourceCode_d x_sourceCode_a x_sourceCode_b x_sourceCode_need x_sourceCode_length x_sourceCode_leaders x_resultCode_op x_resultCode_d x_resultCode_a x_resultCode_b x_resultCode_need x_resultCode_length x_facts_before x_facts_flowing x_symbols_kind x_symbols_left x_symbols_right x_symbols_count x_sourceWalk_held x_sourceWalk_riskDividend x_sourceWalk_riskDivisor x_sourceWalk_risks x_sourceWalk_endKind x_sourceWalk_endNumber x_sourceWalk_endPlace x_sourceWalk_endSymbol x_resultWalk_held x_resultWalk_riskDividend x_resultWalk_riskDivisor x_resultWalk_risks x_resultWalk_endKind x_resultWalk_endNumber x_resultWalk_endPlace x_resultWalk_endSymbol x_machine_inputs x_machine_registers x_machine_toldSet x_machine_done x_sealed x_foundAlike m_code m_size m_thrown m_sealed m_good m_inputs m_reached m_isInt m_fact m_need m_leader m_kind m_left m_right m_symbols m_hold m_risk m_risks m_end m_to m_symbol m_place m_register m_set m_steps m_ended out
set_option maxHeartbeats 4000000 in
theorem p1_514 (xs : Nat → Int32) (n : Nat) (x_sourceCode_op : Nat → Int32) (x_sourceCode_d : Nat → Int32) (x_sourceCode_a : Nat → Int32) (x_sourceCode_b : Nat → Int32) (x_sourceCode_need : Nat → Int32) (x_sourceCode_length : Int32) (x_sourceCode_leaders : Int32) (x_resultCode_op : Nat → Int32) (x_resultCode_d : Nat → Int32) (x_resultCode_a : Nat → Int32) (x_resultCode_b : Nat → Int32) (x_resultCode_need : Nat → Int32) (x_resultCode_length : Int32) (x_facts_before : Nat → Int64) (x_facts_flowing : Nat → Int64) (x_symbols_kind : Nat → Int32) (x_symbols_left : Nat → Int32) (x_symbols_right : Nat → Int32) (x_symbols_count : Int32) (x_sourceWalk_held : Nat → Int32) (x_sourceWalk_riskDividend : Nat → Int32) (x_sourceWalk_riskDivisor : Nat → Int32) (x_sourceWalk_risks : Int32) (x_sourceWalk_endKind : Int32) (x_sourceWalk_endNumber : Int32) (x_sourceWalk_endPlace : Int32) (x_sourceWalk_endSymbol : Int32) (x_resultWalk_held : Nat → Int32) (x_resultWalk_riskDividend : Nat → Int32) (x_resultWalk_riskDivisor : Nat → Int32) (x_resultWalk_risks : Int32) (x_resultWalk_endKind : Int32) (x_resultWalk_endNumber : Int32) (x_resultWalk_endPlace : Int32) (x_resultWalk_endSymbol : Int32) (x_machine_inputs : Nat → Int32) (x_machine_registers : Nat → Int32) (x_machine_toldSet : Int32) (x_machine_done : Int32) (x_sealed : Int32) (x_foundAlike : Int32) (m_code : Nat → Int32) (m_size : Int32) (m_thrown : Int32) (m_sealed : Int32) (m_good : Int32) (m_inputs : Nat → Int32) (m_reached : Nat → Int32) (m_isInt : Nat → Int32) (m_fact : Nat → Int32) (m_need : Nat → Int32) (m_leader : Nat → Int32) (m_kind : Nat → Int32) (m_left : Nat → Int32) (m_right : Nat → Int32) (m_symbols : Int32) (m_hold : Nat → Int32) (m_risk : Nat → Int32) (m_risks : Nat → Int32) (m_end : Nat → Int32) (m_to : Nat → Int32) (m_symbol : Nat → Int32) (m_place : Nat → Int32) (m_register : Nat → Int32) (m_set : Int32) (m_steps : Int32) (m_ended : Int32) (out : Nat → Int64) : f_BlockCodeLaw_law_514 xs 6 (f_BlockCodeLaw_law_23 xs 6 (n + 1)) 0 x_sourceCode_op x_sourceCode_d x_sourceCode_a x_sourceCode_b x_sourceCode_need x_sourceCode_length x_sourceCode_leaders x_resultCode_op x_resultCode_d x_resultCode_a x_resultCode_b x_resultCode_need x_resultCode_length x_facts_before x_facts_flowing x_symbols_kind x_symbols_left x_symbols_right x_symbols_count x_sourceWalk_held x_sourceWalk_riskDividend x_sourceWalk_riskDivisor x_sourceWalk_risks x_sourceWalk_endKind x_sourceWalk_endNumber x_sourceWalk_endPlace x_sourceWalk_endSymbol x_resultWalk_held x_resultWalk_riskDividend x_resultWalk_riskDivisor x_resultWalk_risks x_resultWalk_endKind x_resultWalk_endNumber x_resultWalk_endPlace x_resultWalk_endSymbol x_machine_inputs x_machine_registers x_machine_toldSet x_machine_done x_sealed x_foundAlike m_code m_size m_thrown m_sealed m_good m_inputs m_reached m_isInt m_fact m_need m_leader m_kind m_left m_right m_symbols m_hold m_risk m_risks m_end m_to m_symbol m_place m_register m_set m_steps m_ended out = some 1 := by
  unfold f_BlockCodeLaw_law_514
  exact p1_816 xs n x_sourceCode_op x_sourceCode_d x_sourceCode_a x_sourceCode_b x_sourceCode_need x_sourceCode_length x_sourceCode_leaders x_resultCode_op x_resultCode_d x_resultCode_a x_resultCode_b x_resultCode_need x_resultCode_length x_facts_before x_facts_flowing x_symbols_kind x_symbols_left x_symbols_right x_symbols_count x_sourceWalk_held x_sourceWalk_riskDividend x_sourceWalk_riskDivisor x_sourceWalk_risks x_sourceWalk_endKind x_sourceWalk_endNumber x_sourceWalk_endPlace x_sourceWalk_endSymbol x_resultWalk_held x_resultWalk_riskDividend x_resultWalk_riskDivisor x_resultWalk_risks x_resultWalk_endKind x_resultWalk_endNumber x_resultWalk_endPlace x_resultWalk_endSymbol x_machine_inputs x_machine_registers x_machine_toldSet x_machine_done x_sealed x_foundAlike m_code m_size m_thrown m_sealed m_good m_inputs m_reached m_isInt m_fact m_need m_leader m_kind m_left m_right m_symbols m_hold m_risk m_risks m_end m_to m_symbol m_place m_register m_set m_steps m_ended out
set_option maxHeartbeats 4000000 in
theorem p1_558 (xs : Nat → Int32) (n : Nat) (x_sourceCode_op : Nat → Int32) (x_sourceCode_d : Nat → Int32) (x_sourceCode_a : Nat → Int32) (x_sourceCode_b : Nat → Int32) (x_sourceCode_need : Nat → Int32) (x_sourceCode_length : Int32) (x_sourceCode_leaders : Int32) (x_resultCode_op : Nat → Int32) (x_resultCode_d : Nat → Int32) (x_resultCode_a : Nat → Int32) (x_resultCode_b : Nat → Int32) (x_resultCode_need : Nat → Int32) (x_resultCode_length : Int32) (x_facts_before : Nat → Int64) (x_facts_flowing : Nat → Int64) (x_symbols_kind : Nat → Int32) (x_symbols_left : Nat → Int32) (x_symbols_right : Nat → Int32) (x_symbols_count : Int32) (x_sourceWalk_held : Nat → Int32) (x_sourceWalk_riskDividend : Nat → Int32) (x_sourceWalk_riskDivisor : Nat → Int32) (x_sourceWalk_risks : Int32) (x_sourceWalk_endKind : Int32) (x_sourceWalk_endNumber : Int32) (x_sourceWalk_endPlace : Int32) (x_sourceWalk_endSymbol : Int32) (x_resultWalk_held : Nat → Int32) (x_resultWalk_riskDividend : Nat → Int32) (x_resultWalk_riskDivisor : Nat → Int32) (x_resultWalk_risks : Int32) (x_resultWalk_endKind : Int32) (x_resultWalk_endNumber : Int32) (x_resultWalk_endPlace : Int32) (x_resultWalk_endSymbol : Int32) (x_machine_inputs : Nat → Int32) (x_machine_registers : Nat → Int32) (x_machine_toldSet : Int32) (x_machine_done : Int32) (x_sealed : Int32) (x_foundAlike : Int32) (m_code : Nat → Int32) (m_size : Int32) (m_thrown : Int32) (m_sealed : Int32) (m_good : Int32) (m_inputs : Nat → Int32) (m_reached : Nat → Int32) (m_isInt : Nat → Int32) (m_fact : Nat → Int32) (m_need : Nat → Int32) (m_leader : Nat → Int32) (m_kind : Nat → Int32) (m_left : Nat → Int32) (m_right : Nat → Int32) (m_symbols : Int32) (m_hold : Nat → Int32) (m_risk : Nat → Int32) (m_risks : Nat → Int32) (m_end : Nat → Int32) (m_to : Nat → Int32) (m_symbol : Nat → Int32) (m_place : Nat → Int32) (m_register : Nat → Int32) (m_set : Int32) (m_steps : Int32) (m_ended : Int32) (out : Nat → Int64) : f_BlockCodeLaw_law_558 xs 6 (f_BlockCodeLaw_law_23 xs 6 (n + 1)) 0 x_sourceCode_op x_sourceCode_d x_sourceCode_a x_sourceCode_b x_sourceCode_need x_sourceCode_length x_sourceCode_leaders x_resultCode_op x_resultCode_d x_resultCode_a x_resultCode_b x_resultCode_need x_resultCode_length x_facts_before x_facts_flowing x_symbols_kind x_symbols_left x_symbols_right x_symbols_count x_sourceWalk_held x_sourceWalk_riskDividend x_sourceWalk_riskDivisor x_sourceWalk_risks x_sourceWalk_endKind x_sourceWalk_endNumber x_sourceWalk_endPlace x_sourceWalk_endSymbol x_resultWalk_held x_resultWalk_riskDividend x_resultWalk_riskDivisor x_resultWalk_risks x_resultWalk_endKind x_resultWalk_endNumber x_resultWalk_endPlace x_resultWalk_endSymbol x_machine_inputs x_machine_registers x_machine_toldSet x_machine_done x_sealed x_foundAlike m_code m_size m_thrown m_sealed m_good m_inputs m_reached m_isInt m_fact m_need m_leader m_kind m_left m_right m_symbols m_hold m_risk m_risks m_end m_to m_symbol m_place m_register m_set m_steps m_ended out = some 1 := by
  unfold f_BlockCodeLaw_law_558
  exact p1_816 xs n x_sourceCode_op x_sourceCode_d x_sourceCode_a x_sourceCode_b x_sourceCode_need x_sourceCode_length x_sourceCode_leaders x_resultCode_op x_resultCode_d x_resultCode_a x_resultCode_b x_resultCode_need x_resultCode_length x_facts_before x_facts_flowing x_symbols_kind x_symbols_left x_symbols_right x_symbols_count x_sourceWalk_held x_sourceWalk_riskDividend x_sourceWalk_riskDivisor x_sourceWalk_risks x_sourceWalk_endKind x_sourceWalk_endNumber x_sourceWalk_endPlace x_sourceWalk_endSymbol x_resultWalk_held x_resultWalk_riskDividend x_resultWalk_riskDivisor x_resultWalk_risks x_resultWalk_endKind x_resultWalk_endNumber x_resultWalk_endPlace x_resultWalk_endSymbol x_machine_inputs x_machine_registers x_machine_toldSet x_machine_done x_sealed x_foundAlike m_code m_size m_thrown m_sealed m_good m_inputs m_reached m_isInt m_fact m_need m_leader m_kind m_left m_right m_symbols m_hold m_risk m_risks m_end m_to m_symbol m_place m_register m_set m_steps m_ended out
set_option maxHeartbeats 4000000 in
theorem p1_675 (xs : Nat → Int32) (n : Nat) (x_sourceCode_op : Nat → Int32) (x_sourceCode_d : Nat → Int32) (x_sourceCode_a : Nat → Int32) (x_sourceCode_b : Nat → Int32) (x_sourceCode_need : Nat → Int32) (x_sourceCode_length : Int32) (x_sourceCode_leaders : Int32) (x_resultCode_op : Nat → Int32) (x_resultCode_d : Nat → Int32) (x_resultCode_a : Nat → Int32) (x_resultCode_b : Nat → Int32) (x_resultCode_need : Nat → Int32) (x_resultCode_length : Int32) (x_facts_before : Nat → Int64) (x_facts_flowing : Nat → Int64) (x_symbols_kind : Nat → Int32) (x_symbols_left : Nat → Int32) (x_symbols_right : Nat → Int32) (x_symbols_count : Int32) (x_sourceWalk_held : Nat → Int32) (x_sourceWalk_riskDividend : Nat → Int32) (x_sourceWalk_riskDivisor : Nat → Int32) (x_sourceWalk_risks : Int32) (x_sourceWalk_endKind : Int32) (x_sourceWalk_endNumber : Int32) (x_sourceWalk_endPlace : Int32) (x_sourceWalk_endSymbol : Int32) (x_resultWalk_held : Nat → Int32) (x_resultWalk_riskDividend : Nat → Int32) (x_resultWalk_riskDivisor : Nat → Int32) (x_resultWalk_risks : Int32) (x_resultWalk_endKind : Int32) (x_resultWalk_endNumber : Int32) (x_resultWalk_endPlace : Int32) (x_resultWalk_endSymbol : Int32) (x_machine_inputs : Nat → Int32) (x_machine_registers : Nat → Int32) (x_machine_toldSet : Int32) (x_machine_done : Int32) (x_sealed : Int32) (x_foundAlike : Int32) (m_code : Nat → Int32) (m_size : Int32) (m_thrown : Int32) (m_sealed : Int32) (m_good : Int32) (m_inputs : Nat → Int32) (m_reached : Nat → Int32) (m_isInt : Nat → Int32) (m_fact : Nat → Int32) (m_need : Nat → Int32) (m_leader : Nat → Int32) (m_kind : Nat → Int32) (m_left : Nat → Int32) (m_right : Nat → Int32) (m_symbols : Int32) (m_hold : Nat → Int32) (m_risk : Nat → Int32) (m_risks : Nat → Int32) (m_end : Nat → Int32) (m_to : Nat → Int32) (m_symbol : Nat → Int32) (m_place : Nat → Int32) (m_register : Nat → Int32) (m_set : Int32) (m_steps : Int32) (m_ended : Int32) (out : Nat → Int64) : f_BlockCodeLaw_law_675 xs 6 (f_BlockCodeLaw_law_23 xs 6 (n + 1)) 0 x_sourceCode_op x_sourceCode_d x_sourceCode_a x_sourceCode_b x_sourceCode_need x_sourceCode_length x_sourceCode_leaders x_resultCode_op x_resultCode_d x_resultCode_a x_resultCode_b x_resultCode_need x_resultCode_length x_facts_before x_facts_flowing x_symbols_kind x_symbols_left x_symbols_right x_symbols_count x_sourceWalk_held x_sourceWalk_riskDividend x_sourceWalk_riskDivisor x_sourceWalk_risks x_sourceWalk_endKind x_sourceWalk_endNumber x_sourceWalk_endPlace x_sourceWalk_endSymbol x_resultWalk_held x_resultWalk_riskDividend x_resultWalk_riskDivisor x_resultWalk_risks x_resultWalk_endKind x_resultWalk_endNumber x_resultWalk_endPlace x_resultWalk_endSymbol x_machine_inputs x_machine_registers x_machine_toldSet x_machine_done x_sealed x_foundAlike m_code m_size m_thrown m_sealed m_good m_inputs m_reached m_isInt m_fact m_need m_leader m_kind m_left m_right m_symbols m_hold m_risk m_risks m_end m_to m_symbol m_place m_register m_set m_steps m_ended out = some 1 := by
  unfold f_BlockCodeLaw_law_675
  exact p1_816 xs n x_sourceCode_op x_sourceCode_d x_sourceCode_a x_sourceCode_b x_sourceCode_need x_sourceCode_length x_sourceCode_leaders x_resultCode_op x_resultCode_d x_resultCode_a x_resultCode_b x_resultCode_need x_resultCode_length x_facts_before x_facts_flowing x_symbols_kind x_symbols_left x_symbols_right x_symbols_count x_sourceWalk_held x_sourceWalk_riskDividend x_sourceWalk_riskDivisor x_sourceWalk_risks x_sourceWalk_endKind x_sourceWalk_endNumber x_sourceWalk_endPlace x_sourceWalk_endSymbol x_resultWalk_held x_resultWalk_riskDividend x_resultWalk_riskDivisor x_resultWalk_risks x_resultWalk_endKind x_resultWalk_endNumber x_resultWalk_endPlace x_resultWalk_endSymbol x_machine_inputs x_machine_registers x_machine_toldSet x_machine_done x_sealed x_foundAlike m_code m_size m_thrown m_sealed m_good m_inputs m_reached m_isInt m_fact m_need m_leader m_kind m_left m_right m_symbols m_hold m_risk m_risks m_end m_to m_symbol m_place m_register m_set m_steps m_ended out
theorem rd6 (xs : Nat → Int32) (i : Int32) (h : ¬ (i < 0 ∨ 6 ≤ i.toNatClampNeg)) : ∃ v, rdI xs 6 i = some v := ⟨_, if_neg h⟩
theorem lg0 (x : Int64) : lg_cmp x x = 0 := by simp [lg_cmp]
theorem wr0 {n : Nat} (f : Nat → Int32) (x : Int32) (h : 0 < n) : wrI f n 0 x = some (upd f 0 x) := if_neg (by
  have h0 : (0 : Int32).toNatClampNeg = 0 := by decide
  rw [h0]; intro q; rcases q with q | q
  · exact absurd q (by decide)
  · omega)
set_option maxHeartbeats 4000000 in
theorem p1_cput (a b c d : Int32) : ∃ o e f g, f_Code_put 0 a b c d z_I z_I z_I z_I = some (o, e, f, g) := by
  have m : ∀ x, f_BlockCode_makesRegister x = some 0 ∨ f_BlockCode_makesRegister x = some 1 := by
    intro x; unfold f_BlockCode_makesRegister; split
    · exact Or.inl rfl
    · split
      · exact Or.inl rfl
      · exact Or.inr rfl
  have k : ∀ x, f_BlockCode_combines x = some 0 ∨ f_BlockCode_combines x = some 1 := by
    intro x; unfold f_BlockCode_combines; split
    · exact Or.inl rfl
    · split
      · exact Or.inl rfl
      · exact Or.inr rfl
  rcases m a with h | h <;> rcases k a with h' | h' <;> simp [f_Code_put_65, f_Code_put_59, f_Code_put_40, f_Code_put_24, f_Code_put, h, h', wr0] <;> (repeat' split) <;> simp_all [f_Code_put_65, f_Code_put_59, f_Code_put_40, f_Code_put_24, f_Code_put, wr0]
set_option maxHeartbeats 4000000 in
theorem p1_mput (a b c d : Int32) : ∃ o, f_BlockCodeModel_put 0 a b c d z_I = some o := by
  have w1 : ∀ (f : Nat → Int32) (x : Int32), wrI f 160 (0 + 1) x = some (upd f 1 x) := fun f x => if_neg (by decide)
  have w2 : ∀ (f : Nat → Int32) (x : Int32), wrI f 160 (0 + 2) x = some (upd f 2 x) := fun f x => if_neg (by decide)
  have w3 : ∀ (f : Nat → Int32) (x : Int32), wrI f 160 (0 + 3) x = some (upd f 3 x) := fun f x => if_neg (by decide)
  have m : ∀ x y, f_BlockCodeModel_says x y = some 0 ∨ f_BlockCodeModel_says x y = some 1 := by
    intro x y
    have w : ∀ x y z, f_BlockCodeModel_within x y z = some 0 ∨ f_BlockCodeModel_within x y z = some 1 := by
      intro x y z; unfold f_BlockCodeModel_within; split
      · exact Or.inl rfl
      · split
        · exact Or.inl rfl
        · exact Or.inr rfl
    unfold f_BlockCodeModel_says
    split
    · rcases w x 1 7 with h | h <;> rw [h] <;> simp [gz0, gz1]
    · split
      · rcases w x 1 10 with h | h <;> rw [h] <;> simp [gz0, gz1]
      · rcases w x 3 7 with h | h <;> rw [h] <;> simp [f_BlockCodeModel_says_42]
        exact (Decidable.em (x = 9)).symm
  rcases m a 1 with h1 | h1 <;> rcases m a 2 with h2 | h2 <;> rcases m a 3 with h3 | h3 <;> simp only [f_BlockCodeModel_put_71, f_BlockCodeModel_put_49, f_BlockCodeModel_put_27, f_BlockCodeModel_put, h1, h2, h3, wr0, w1, w2, w3, Option.bind_some, if_true] <;> simp [w1, w2, w3, wr0, f_BlockCodeModel_put_71, f_BlockCodeModel_put_49, f_BlockCodeModel_put_27, f_BlockCodeModel_put, h1, h2, h3]
set_option maxHeartbeats 4000000 in
theorem p1_add (v1 v2 v3 v4 : Int32) : ∃ (r : Int32) (o d a b : Nat → Int32) (n : Int32) (o' : Nat → Int64) (code : Nat → Int32) (size : Int32),
    g_BlockCodeLaw_add v1 v2 v3 v4 0 z_I z_I z_I z_I 0 z_L = some (0, o, d, a, b, n, o') ∧ f_BlockCodeModel_add v1 v2 v3 v4 0 z_I 0 0 = some (r, code, size, 0) ∧ rdL o' 1 0 = some r.toInt64 := by
  have w : ∀ x : Int64, wrL z_L 1 0 x = some (vp_updL z_L 0 x) := fun x => if_neg (by decide)
  have q : ∀ x : Int64, rdL (vp_updL z_L 0 x) 1 0 = some x := fun x => (if_neg (by decide)).trans (congrArg some pk_uLs)
  rcases hf_some v1 v2 v3 v4 with h | h
  · refine ⟨-1, z_I, z_I, z_I, z_I, 0, vp_updL z_L 0 ((-1 : Int32).toInt64), z_I, 0, ?_, ?_, q _⟩
    · simp only [g_BlockCodeLaw_add, f_BlockCodeLaw_add, f_BlockCode_add, hf_eq, h, if_true, Option.bind_some, w]
    · simp only [f_BlockCodeModel_add, f_BlockCodeModel_add_13, h, if_true, Option.bind_some]
  · obtain ⟨o, d, a, b, e⟩ := p1_cput v1 v2 v3 v4
    obtain ⟨c, e2⟩ := p1_mput v1 v2 v3 v4
    refine ⟨0, o, d, a, b, 0 + 1, vp_updL z_L 0 ((0 : Int32).toInt64), c, 0 + 1, ?_, ?_, q _⟩
    · have h1 : ¬ (1 : Int32) = 0 := by decide
      have h2 : (0 : Int32) < 20 := by decide
      simp only [g_BlockCodeLaw_add, f_BlockCodeLaw_add, f_BlockCode_add, hf_eq, h, if_true, Option.bind_some, w, h1, if_false, h2, e]
    · have h1 : ¬ (1 : Int32) = 0 := by decide
      have h2 : ¬ (0 : Int32) = 20 := by decide
      have h3 : (4 : Int32) * 0 = 0 := by decide
      have h4 : (0 : Int32) + 1 - 1 = 0 := by decide
      simp only [f_BlockCodeModel_add, f_BlockCodeModel_add_13, h, if_true, Option.bind_some, h1, if_false, h2, h3, e2, h4]
set_option maxHeartbeats 8000000 in
set_option maxRecDepth 100000 in
theorem p1_step (xs : Nat → Int32) (n : Nat) : f_BlockCodeLaw_law_23 xs 6 (n + 2) 0 z_I z_I z_I z_I z_I 0 0 z_I z_I z_I z_I z_I 0 z_L z_L z_I z_I z_I 0 z_I z_I z_I 0 0 0 0 0 z_I z_I z_I 0 0 0 0 0 z_I z_I 0 0 0 0 z_I 0 0 0 0 z_I z_I z_I z_I z_I z_I z_I z_I z_I 0 z_I z_I z_I z_I z_I z_I z_I z_I 0 0 0 z_L = some 1 := by
  rw [f_BlockCodeLaw_law_23, if_neg (by decide)]
  obtain ⟨v0, h0⟩ := rd6 xs 0 (by decide)
  obtain ⟨v1, h1⟩ := rd6 xs (0 + 1) (by decide)
  obtain ⟨v2, h2⟩ := rd6 xs (0 + 2) (by decide)
  obtain ⟨v3, h3⟩ := rd6 xs (0 + 3) (by decide)
  obtain ⟨v4, h4⟩ := rd6 xs (0 + 4) (by decide)
  obtain ⟨v5, h5⟩ := rd6 xs (0 + 5) (by decide)
  rw [h0, Option.bind_some]
  by_cases c0 : v0 &&& 31 = 0
  · rw [if_pos c0]
    obtain ⟨r, o, d, a, b, nn, o', code, size, e1, e2, e3⟩ := p1_add v1 v2 v3 v4
    simp only [h1, h2, h3, h4, Option.bind_some, e1, e2, e3, f_BlockCodeModel_thrown, lg0, if_true]
    apply p1_221
  rw [if_neg c0]
  by_cases c1 : v0 &&& 31 = 1
  · rw [if_pos c1]
    simp only [f_BlockCode_clear, f_BlockCodeModel_clear, Option.bind_some]
    apply p1_816
  rw [if_neg c1]
  by_cases c2 : v0 &&& 31 = 2
  · rw [if_pos c2]
    obtain ⟨a1, a2, a3, a4, a5, a6, a7, a8, a9, a10, a11, e1⟩ : ∃ a1 a2 a3 a4 a5 a6 a7 a8 a9 a10 a11, g_BlockCodeLaw_seal z_I z_I z_I z_I 0 z_I 0 z_I z_I z_I z_I 0 z_L z_L 0 0 z_L = some (0, a1, a2, a3, a4, a5, a6, a7, a8, a9, a10, a11, vp_updL z_L 0 ((-1 : Int32).toInt64)) := ⟨_, _, _, _, _, _, _, _, _, _, _, rfl⟩
    obtain ⟨b1, b3, b4, b5, e2⟩ : ∃ b1 b3 b4 b5, f_BlockCodeModel_seal 0 z_I 0 0 0 z_I = some (-1, b1, 0, b3, b4, b5) := ⟨_, _, _, _, rfl⟩
    have e3 : rdL (vp_updL z_L 0 ((-1 : Int32).toInt64)) 1 0 = some ((-1 : Int32).toInt64) := (if_neg (by decide)).trans (congrArg some pk_uLs)
    simp only [e1, e2, e3, Option.bind_some, f_BlockCodeModel_thrown, if_true, lg0]
    apply p1_276
  rw [if_neg c2]
  by_cases c3 : v0 &&& 31 = 3
  · rw [if_pos c3]
    simp only [f_BlockCode_size, f_BlockCodeModel_size, Option.bind_some, if_true]
    apply p1_816
  rw [if_neg c3]
  have hs : ∀ i : Int32, f_Code_has i 0 = some 0 := by
    intro i; unfold f_Code_has
    by_cases h : i < 0
    · simp [h]
    · simp [h]
  have hw : ∀ i : Int32, f_BlockCodeModel_within i 0 (0 - 1) = some 0 := by
    intro i; unfold f_BlockCodeModel_within
    by_cases h : i < 0
    · rw [if_pos h]
    · rw [if_neg h, if_pos]
      rw [Int32.lt_iff_toInt_lt] at h ⊢
      have h1 : ((0 : Int32) - 1).toInt = -1 := by decide
      have h2 : (0 : Int32).toInt = 0 := by decide
      omega
  have n10 : ¬ (1 : Int32) = 0 := by decide
  by_cases c4 : v0 &&& 31 = 4
  · rw [if_pos c4]
    simp only [h1, h2, f_BlockCode_source, f_Code_number, hs, f_BlockCodeModel_source, f_BlockCodeModel_field, hw, Option.bind_some, if_true]
    apply p1_816
  rw [if_neg c4]
  by_cases c5 : v0 &&& 31 = 5
  · rw [if_pos c5]
    simp only [h1, h2, f_BlockCode_result, f_Code_number, hs, f_BlockCodeModel_result, Option.bind_some, if_true]
    apply p1_816
  rw [if_neg c5]
  by_cases c6 : v0 &&& 31 = 6
  · rw [if_pos c6]
    simp only [h1, h2, f_BlockCode_known, f_BlockCodeModel_known, Option.bind_some, if_true, lg0]
    apply p1_816
  rw [if_neg c6]
  by_cases c7 : v0 &&& 31 = 7
  · rw [if_pos c7]
    simp only [h1, f_BlockCode_needed, f_BlockCodeModel_needed, Option.bind_some, if_true]
    apply p1_816
  rw [if_neg c7]
  by_cases c8 : v0 &&& 31 = 8
  · rw [if_pos c8]
    simp only [g_BlockCodeLaw_constants, f_BlockCodeModel_constants, f_BlockCodeModel_open, f_BlockCodeModel_open_13, f_BlockCodeModel_thrown, Option.bind_some, if_true, n10, if_false]
    apply p1_470
  rw [if_neg c8]
  by_cases c9 : v0 &&& 31 = 9
  · rw [if_pos c9]
    simp only [g_BlockCodeLaw_repeats, f_BlockCodeModel_repeats, f_BlockCodeModel_open, f_BlockCodeModel_open_13, f_BlockCodeModel_thrown, Option.bind_some, if_true, n10, if_false]
    apply p1_514
  rw [if_neg c9]
  by_cases c10 : v0 &&& 31 = 10
  · rw [if_pos c10]
    simp only [g_BlockCodeLaw_unneeded, f_BlockCodeModel_unneeded, f_BlockCodeModel_open, f_BlockCodeModel_open_13, f_BlockCodeModel_thrown, Option.bind_some, if_true, n10, if_false]
    apply p1_558
  rw [if_neg c10]
  by_cases c11 : v0 &&& 31 = 11
  · rw [if_pos c11]
    simp only [h1, h2, h3, h4, h5, f_BlockCode_poke, hs, f_BlockCodeModel_poke, Option.bind_some, if_true]
    apply p1_816
  rw [if_neg c11]
  by_cases c12 : v0 &&& 31 = 12
  · rw [if_pos c12]
    simp only [g_BlockCodeLaw_compare, f_BlockCodeModel_compare, f_BlockCodeModel_compare_13, f_BlockCodeModel_thrown, Option.bind_some, if_true, n10, if_false]
    apply p1_675
  rw [if_neg c12]
  by_cases c13 : v0 &&& 31 = 13
  · rw [if_pos c13]
    simp only [f_BlockCode_commit, f_BlockCodeModel_commit, Option.bind_some, if_true]
    apply p1_816
  rw [if_neg c13]
  have reg : ∀ r : Int32, (f_BlockCode_isRegister r = some 0 ∧ f_BlockCodeModel_within r 0 4 = some 0) ∨ (f_BlockCode_isRegister r = some 1 ∧ f_BlockCodeModel_within r 0 4 = some 1 ∧ ¬ r < 0 ∧ ¬ 4 < r) := by
    intro r; unfold f_BlockCode_isRegister f_BlockCodeModel_within
    by_cases h : r < 0
    · exact Or.inl ⟨if_pos h, if_pos h⟩
    · by_cases h' : 4 < r
      · exact Or.inl ⟨by rw [if_neg h, if_pos (i5.mpr h')], by rw [if_neg h, if_pos h']⟩
      · exact Or.inr ⟨by rw [if_neg h, if_neg (fun q => h' (i5.mp q))], by rw [if_neg h, if_neg h'], h, h'⟩
  have reg5 : ∀ r : Int32, ¬ r < 0 → ¬ 4 < r → r = 0 ∨ r = 1 ∨ r = 2 ∨ r = 3 ∨ r = 4 := by
    intro r a b
    have b' : r ≤ 4 := by
      rw [Int32.lt_iff_toInt_lt] at b; rw [Int32.le_iff_toInt_le]; omega
    obtain ⟨j, hj, rfl⟩ := nI_of2 (n := 4) (by decide) a b'
    have : j = 0 ∨ j = 1 ∨ j = 2 ∨ j = 3 ∨ j = 4 := by omega
    rcases this with rfl | rfl | rfl | rfl | rfl <;> decide
  by_cases c14 : v0 &&& 31 = 14
  · rw [if_pos c14]
    rcases reg v1 with ⟨q1, q2⟩ | ⟨q1, q2, q3, q4⟩
    · simp only [h1, h2, f_BlockCode_input, q1, f_BlockCodeModel_input, q2, Option.bind_some, if_true]
      apply p1_816
    · have e : wrI z_I 5 v1 v2 = some (upd z_I v1.toNatClampNeg v2) := if_neg (by
        rcases reg5 v1 q3 q4 with rfl | rfl | rfl | rfl | rfl <;> decide)
      simp only [h1, h2, f_BlockCode_input, q1, f_BlockCodeModel_input, q2, e, Option.bind_some, if_true, n10, if_false]
      apply p1_816
  rw [if_neg c14]
  by_cases c15 : v0 &&& 31 = 15
  · rw [if_pos c15]
    simp only [h1, f_BlockCode_runSource, f_BlockCode_runCode, f_BlockCodeModel_runSource, f_BlockCodeModel_run, Option.bind_some, if_true]
    apply p1_816
  rw [if_neg c15]
  by_cases c16 : v0 &&& 31 = 16
  · rw [if_pos c16]
    simp only [h1, f_BlockCode_runResult, f_BlockCode_runCode, f_BlockCodeModel_runResult, f_BlockCodeModel_run, Option.bind_some, if_true]
    apply p1_816
  rw [if_neg c16]
  by_cases c17 : v0 &&& 31 = 17
  · rw [if_pos c17]
    rcases reg v1 with ⟨q1, q2⟩ | ⟨q1, q2, q3, q4⟩
    · simp only [h1, f_BlockCode_told, q1, f_BlockCodeModel_told, q2, Option.bind_some, if_true]
      apply p1_816
    · have e : f_BlockCode_isIn v1 0 = some 0 := by
        rcases reg5 v1 q3 q4 with rfl | rfl | rfl | rfl | rfl <;> decide
      simp only [h1, f_BlockCode_told, q1, e, f_BlockCodeModel_told, q2, Option.bind_some, if_true, n10, if_false]
      apply p1_816
  rw [if_neg c17]
  by_cases c18 : v0 &&& 31 = 18
  · rw [if_pos c18]
    simp only [f_BlockCode_steps, f_BlockCodeModel_steps, Option.bind_some, if_true]
    apply p1_816
  rw [if_neg c18]
  apply p1_816
theorem p1_law {xs : Nat → Int32} {L : Nat} (hL : L ≤ 6) : f_BlockCodeLaw_law xs L z_I z_I z_I z_I z_I 0 0 z_I z_I z_I z_I z_I 0 z_L z_L z_I z_I z_I 0 z_I z_I z_I 0 0 0 0 0 z_I z_I z_I 0 0 0 0 0 z_I z_I 0 0 0 0 z_I 0 0 0 0 z_I z_I z_I z_I z_I z_I z_I z_I z_I 0 z_I z_I z_I z_I z_I z_I z_I z_I 0 0 0 z_L = some 1 := by
  unfold f_BlockCodeLaw_law
  by_cases h : L = 6
  · subst h
    exact p1_step xs 0
  · rw [f_BlockCodeLaw_law_23, if_pos]
    have : L = 0 ∨ L = 1 ∨ L = 2 ∨ L = 3 ∨ L = 4 ∨ L = 5 := by omega
    rcases this with rfl | rfl | rfl | rfl | rfl | rfl <;> decide

