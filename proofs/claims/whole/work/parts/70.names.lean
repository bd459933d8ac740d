theorem xw_B : ∀ w ∈ u_ws "TokenBus" xT_B 13, w ∈ xGW := by decide +kernel
theorem xw_F : ∀ w ∈ u_ws "TokenBus$Frame" xT_F 4, w ∈ xGW := by decide +kernel
theorem xw_R : ∀ w ∈ u_ws "TokenBus$Request" xT_R 11, w ∈ xGW := by decide +kernel
theorem xw_S : ∀ w ∈ u_ws "TokenBus$Subscription" xT_S 4, w ∈ xGW := by decide +kernel
theorem xw_O : ∀ w ∈ u_ws "TokenBus$Output" xT_O 2, w ∈ xGW := by decide +kernel
theorem xw_L : ∀ w ∈ u_ws "TokenBus$Loop" xT_L 4, w ∈ xGW := by decide +kernel
theorem xw_N : ∀ w ∈ u_ws "TokenBus$Node" xT_N 17, w ∈ xGW := by decide +kernel
theorem xw_M : ∀ w ∈ u_ws "TokenBusModel" xT_M 45, w ∈ xGW := by decide +kernel
def M_B_init : xM := (⟨"TokenBus", "<init>", "()V"⟩, prog_1_method_1_code, 2, none, 3, 63)
def M_B_power : xM := (⟨"TokenBus", "power", "(IZ)Z"⟩, prog_1_method_2_code, 3, (some .boolean), 2, 42)
def M_B_sense : xM := (⟨"TokenBus", "sense", "(II)Z"⟩, prog_1_method_3_code, 3, (some .boolean), 2, 42)
def M_B_gains : xM := (⟨"TokenBus", "gains", "(III)Z"⟩, prog_1_method_4_code, 4, (some .boolean), 2, 42)
def M_B_request : xM := (⟨"TokenBus", "request", "(IIII)I"⟩, prog_1_method_5_code, 6, (some .int), 2, 45)
def M_B_spoil : xM := (⟨"TokenBus", "spoil", "(III)Z"⟩, prog_1_method_6_code, 4, (some .boolean), 2, 40)
def M_B_step : xM := (⟨"TokenBus", "step", "()I"⟩, prog_1_method_7_code, 3, (some .int), 6, 142)
def M_B_holder : xM := (⟨"TokenBus", "holder", "()I"⟩, prog_1_method_8_code, 1, (some .int), 0, 0)
def M_B_phase : xM := (⟨"TokenBus", "phase", "()I"⟩, prog_1_method_9_code, 1, (some .int), 0, 0)
def M_B_node : xM := (⟨"TokenBus", "node", "(II)I"⟩, prog_1_method_10_code, 3, (some .int), 2, 42)
def M_B_value : xM := (⟨"TokenBus", "value", "(II)I"⟩, prog_1_method_11_code, 3, (some .int), 2, 42)
def M_B_level : xM := (⟨"TokenBus", "level", "(II)I"⟩, prog_1_method_12_code, 3, (some .int), 3, 64)
def M_B_set : xM := (⟨"TokenBus", "set", "(II)Z"⟩, prog_1_method_13_code, 3, (some .boolean), 2, 43)
def M_B_state : xM := (⟨"TokenBus", "state", "(I)I"⟩, prog_1_method_14_code, 2, (some .int), 1, 21)
def M_B_answer : xM := (⟨"TokenBus", "answer", "(I)I"⟩, prog_1_method_15_code, 2, (some .int), 1, 21)
def M_B_noted : xM := (⟨"TokenBus", "noted", "(II)I"⟩, prog_1_method_16_code, 3, (some .int), 2, 42)
def M_B_frame : xM := (⟨"TokenBus", "frame", "(II)I"⟩, prog_1_method_17_code, 3, (some .int), 1, 22)
def M_B_total : xM := (⟨"TokenBus", "total", "(I)I"⟩, prog_1_method_18_code, 2, (some .int), 0, 0)
def M_B_isWithin : xM := (⟨"TokenBus", "isWithin", "(III)Z"⟩, prog_1_method_19_code, 3, (some .boolean), 0, 0)
def M_B_held : xM := (⟨"TokenBus", "held", "(II)I"⟩, prog_1_method_20_code, 2, (some .int), 1, 21)
def M_B_isNode : xM := (⟨"TokenBus", "isNode", "(I)Z"⟩, prog_1_method_21_code, 1, (some .boolean), 1, 22)
def M_B_behind : xM := (⟨"TokenBus", "behind", "(I)I"⟩, prog_1_method_22_code, 1, (some .int), 0, 0)
def M_B_isRequest : xM := (⟨"TokenBus", "isRequest", "(I)Z"⟩, prog_1_method_23_code, 2, (some .boolean), 0, 0)
def M_B_numbered : xM := (⟨"TokenBus", "numbered", "(I)LTokenBus$Frame;"⟩, prog_1_method_24_code, 2, (some (.object "TokenBus$Frame")), 0, 0)
def M_B_forgetSpoiling : xM := (⟨"TokenBus", "forgetSpoiling", "()V"⟩, prog_1_method_25_code, 1, none, 1, 20)
def M_B_beginStep : xM := (⟨"TokenBus", "beginStep", "()V"⟩, prog_1_method_26_code, 1, none, 1, 20)
def M_B_endStep : xM := (⟨"TokenBus", "endStep", "()V"⟩, prog_1_method_27_code, 5, none, 4, 84)
def M_B_loseTokenOf : xM := (⟨"TokenBus", "loseTokenOf", "(I)V"⟩, prog_1_method_28_code, 2, none, 0, 0)
def M_B_waitInSilence : xM := (⟨"TokenBus", "waitInSilence", "()V"⟩, prog_1_method_29_code, 2, none, 1, 21)
def M_B_leastPowered : xM := (⟨"TokenBus", "leastPowered", "()I"⟩, prog_1_method_30_code, 2, (some .int), 0, 0)
def M_B_use : xM := (⟨"TokenBus", "use", "(LTokenBus$Node;)Z"⟩, prog_1_method_31_code, 3, (some .boolean), 5, 120)
def M_B_poll : xM := (⟨"TokenBus", "poll", "(LTokenBus$Node;)Z"⟩, prog_1_method_32_code, 3, (some .boolean), 5, 112)
def M_B_pass : xM := (⟨"TokenBus", "pass", "(LTokenBus$Node;)V"⟩, prog_1_method_33_code, 2, none, 4, 90)
def M_B_search : xM := (⟨"TokenBus", "search", "(LTokenBus$Node;)V"⟩, prog_1_method_34_code, 3, none, 5, 112)
def M_B_enterUse : xM := (⟨"TokenBus", "enterUse", "()V"⟩, prog_1_method_35_code, 1, none, 0, 0)
def M_B_enterPass : xM := (⟨"TokenBus", "enterPass", "()V"⟩, prog_1_method_36_code, 1, none, 0, 0)
def M_B_askToJoin : xM := (⟨"TokenBus", "askToJoin", "(LTokenBus$Node;I)V"⟩, prog_1_method_37_code, 3, none, 4, 90)
def M_B_sendNotice : xM := (⟨"TokenBus", "sendNotice", "(LTokenBus$Node;LTokenBus$Subscription;)V"⟩, prog_1_method_38_code, 4, none, 4, 90)
def M_B_sendRequest : xM := (⟨"TokenBus", "sendRequest", "(LTokenBus$Node;LTokenBus$Request;)V"⟩, prog_1_method_39_code, 4, none, 4, 97)
def M_B_writeAsk : xM := (⟨"TokenBus", "writeAsk", "(LTokenBus$Node;LTokenBus$Request;)V"⟩, prog_1_method_40_code, 3, none, 3, 74)
def M_B_writeAnswer : xM := (⟨"TokenBus", "writeAnswer", "(LTokenBus$Node;LTokenBus$Request;)V"⟩, prog_1_method_41_code, 4, none, 3, 74)
def M_B_arrives : xM := (⟨"TokenBus", "arrives", "(LTokenBus$Frame;)Z"⟩, prog_1_method_42_code, 3, (some .boolean), 3, 68)
def M_M_init : xM := (⟨"TokenBusModel", "<init>", "()V"⟩, prog_9_method_1_code, 2, none, 1, 21)
def M_M_isNode : xM := (⟨"TokenBusModel", "isNode", "(I)Z"⟩, prog_9_method_2_code, 1, (some .boolean), 0, 0)
def M_M_outside : xM := (⟨"TokenBusModel", "outside", "(III)Z"⟩, prog_9_method_3_code, 3, (some .boolean), 0, 0)
def M_M_held : xM := (⟨"TokenBusModel", "held", "(II)I"⟩, prog_9_method_4_code, 2, (some .int), 0, 0)
def M_M_power : xM := (⟨"TokenBusModel", "power", "(IZ)Z"⟩, prog_9_method_5_code, 5, (some .boolean), 1, 20)
def M_M_sense : xM := (⟨"TokenBusModel", "sense", "(II)Z"⟩, prog_9_method_6_code, 3, (some .boolean), 1, 22)
def M_M_gains : xM := (⟨"TokenBusModel", "gains", "(III)Z"⟩, prog_9_method_7_code, 4, (some .boolean), 1, 22)
def M_M_waiting : xM := (⟨"TokenBusModel", "waiting", "(I)I"⟩, prog_9_method_8_code, 4, (some .int), 0, 0)
def M_M_request : xM := (⟨"TokenBusModel", "request", "(IIII)I"⟩, prog_9_method_9_code, 5, (some .int), 1, 23)
def M_M_spoil : xM := (⟨"TokenBusModel", "spoil", "(III)Z"⟩, prog_9_method_10_code, 4, (some .boolean), 1, 22)
def M_M_grown : xM := (⟨"TokenBusModel", "grown", "(III)I"⟩, prog_9_method_11_code, 6, (some .int), 0, 0)
def M_M_headCheck : xM := (⟨"TokenBusModel", "headCheck", "(I)I"⟩, prog_9_method_12_code, 4, (some .int), 1, 25)
def M_M_dataCheck : xM := (⟨"TokenBusModel", "dataCheck", "(I)I"⟩, prog_9_method_13_code, 4, (some .int), 1, 25)
def M_M_carry : xM := (⟨"TokenBusModel", "carry", "(IIIZ)Z"⟩, prog_9_method_14_code, 9, (some .boolean), 2, 48)
def M_M_lay : xM := (⟨"TokenBusModel", "lay", "(IIIII)V"⟩, prog_9_method_15_code, 8, none, 0, 0)
def M_M_outputOf : xM := (⟨"TokenBusModel", "outputOf", "(I)I"⟩, prog_9_method_16_code, 3, (some .int), 0, 0)
def M_M_value : xM := (⟨"TokenBusModel", "value", "(II)I"⟩, prog_9_method_17_code, 3, (some .int), 1, 22)
def M_M_subscriptionsOf : xM := (⟨"TokenBusModel", "subscriptionsOf", "(I)I"⟩, prog_9_method_18_code, 4, (some .int), 0, 0)
def M_M_subscribe : xM := (⟨"TokenBusModel", "subscribe", "(III)Z"⟩, prog_9_method_19_code, 5, (some .boolean), 2, 44)
def M_M_work : xM := (⟨"TokenBusModel", "work", "(I)V"⟩, prog_9_method_20_code, 9, none, 3, 68)
def M_M_dueOf : xM := (⟨"TokenBusModel", "dueOf", "(I)I"⟩, prog_9_method_21_code, 3, (some .int), 0, 0)
def M_M_firstOf : xM := (⟨"TokenBusModel", "firstOf", "(I)I"⟩, prog_9_method_22_code, 3, (some .int), 0, 0)
def M_M_tell : xM := (⟨"TokenBusModel", "tell", "(I)V"⟩, prog_9_method_23_code, 4, none, 3, 76)
def M_M_ask : xM := (⟨"TokenBusModel", "ask", "(I)V"⟩, prog_9_method_24_code, 6, none, 4, 96)
def M_M_use : xM := (⟨"TokenBusModel", "use", "()V"⟩, prog_9_method_25_code, 3, none, 5, 121)
def M_M_toUse : xM := (⟨"TokenBusModel", "toUse", "()V"⟩, prog_9_method_26_code, 1, none, 0, 0)
def M_M_toPass : xM := (⟨"TokenBusModel", "toPass", "()V"⟩, prog_9_method_27_code, 1, none, 0, 0)
def M_M_behind : xM := (⟨"TokenBusModel", "behind", "(I)I"⟩, prog_9_method_28_code, 1, (some .int), 0, 0)
def M_M_join : xM := (⟨"TokenBusModel", "join", "(I)V"⟩, prog_9_method_29_code, 2, none, 3, 76)
def M_M_poll : xM := (⟨"TokenBusModel", "poll", "()V"⟩, prog_9_method_30_code, 3, none, 4, 97)
def M_M_pass : xM := (⟨"TokenBusModel", "pass", "()V"⟩, prog_9_method_31_code, 2, none, 3, 76)
def M_M_search : xM := (⟨"TokenBusModel", "search", "()V"⟩, prog_9_method_32_code, 3, none, 4, 97)
def M_M_listen : xM := (⟨"TokenBusModel", "listen", "()V"⟩, prog_9_method_33_code, 2, none, 0, 0)
def M_M_quotient : xM := (⟨"TokenBusModel", "quotient", "(II)I"⟩, prog_9_method_34_code, 2, (some .int), 0, 0)
def M_M_settle : xM := (⟨"TokenBusModel", "settle", "()V"⟩, prog_9_method_35_code, 4, none, 2, 44)
def M_M_step : xM := (⟨"TokenBusModel", "step", "()I"⟩, prog_9_method_36_code, 1, (some .int), 6, 143)
def M_M_holder : xM := (⟨"TokenBusModel", "holder", "()I"⟩, prog_9_method_37_code, 1, (some .int), 0, 0)
def M_M_phase : xM := (⟨"TokenBusModel", "phase", "()I"⟩, prog_9_method_38_code, 1, (some .int), 0, 0)
def M_M_node : xM := (⟨"TokenBusModel", "node", "(II)I"⟩, prog_9_method_39_code, 3, (some .int), 1, 23)
def M_M_level : xM := (⟨"TokenBusModel", "level", "(II)I"⟩, prog_9_method_40_code, 3, (some .int), 2, 44)
def M_M_set : xM := (⟨"TokenBusModel", "set", "(II)Z"⟩, prog_9_method_41_code, 3, (some .boolean), 1, 22)
def M_M_state : xM := (⟨"TokenBusModel", "state", "(I)I"⟩, prog_9_method_42_code, 2, (some .int), 0, 0)
def M_M_answer : xM := (⟨"TokenBusModel", "answer", "(I)I"⟩, prog_9_method_43_code, 2, (some .int), 0, 0)
def M_M_noted : xM := (⟨"TokenBusModel", "noted", "(II)I"⟩, prog_9_method_44_code, 3, (some .int), 1, 22)
def M_M_frame : xM := (⟨"TokenBusModel", "frame", "(II)I"⟩, prog_9_method_45_code, 3, (some .int), 1, 22)
def M_M_total : xM := (⟨"TokenBusModel", "total", "(I)I"⟩, prog_9_method_46_code, 2, (some .int), 0, 0)
def M_F_init : xM := (⟨"TokenBus$Frame", "<init>", "()V"⟩, prog_2_method_1_code, 1, none, 1, 21)
def M_F_empty : xM := (⟨"TokenBus$Frame", "empty", "()V"⟩, prog_2_method_2_code, 1, none, 0, 0)
def M_F_planSpoiling : xM := (⟨"TokenBus$Frame", "planSpoiling", "(II)V"⟩, prog_2_method_3_code, 3, none, 0, 0)
def M_F_forgetSpoiling : xM := (⟨"TokenBus$Frame", "forgetSpoiling", "()V"⟩, prog_2_method_4_code, 1, none, 0, 0)
def M_F_writeHeader : xM := (⟨"TokenBus$Frame", "writeHeader", "(IIII)V"⟩, prog_2_method_5_code, 5, none, 2, 48)
def M_F_writeData : xM := (⟨"TokenBus$Frame", "writeData", "(IIIII)V"⟩, prog_2_method_6_code, 7, none, 2, 48)
def M_F_spoilAsPlanned : xM := (⟨"TokenBus$Frame", "spoilAsPlanned", "()V"⟩, prog_2_method_7_code, 1, none, 0, 0)
def M_F_isRight : xM := (⟨"TokenBus$Frame", "isRight", "()Z"⟩, prog_2_method_8_code, 1, (some .boolean), 2, 48)
def M_F_destination : xM := (⟨"TokenBus$Frame", "destination", "()I"⟩, prog_2_method_9_code, 1, (some .int), 0, 0)
def M_F_byteOrSize : xM := (⟨"TokenBus$Frame", "byteOrSize", "(I)I"⟩, prog_2_method_10_code, 2, (some .int), 0, 0)
def M_F_headerCheck : xM := (⟨"TokenBus$Frame", "headerCheck", "()I"⟩, prog_2_method_11_code, 1, (some .int), 1, 28)
def M_F_dataCheck : xM := (⟨"TokenBus$Frame", "dataCheck", "()I"⟩, prog_2_method_12_code, 1, (some .int), 1, 28)
def M_F_checkOf : xM := (⟨"TokenBus$Frame", "checkOf", "(IIII)I"⟩, prog_2_method_13_code, 9, (some .int), 0, 0)
def M_L_init : xM := (⟨"TokenBus$Loop", "<init>", "()V"⟩, prog_3_method_1_code, 1, none, 1, 21)
def M_L_tune : xM := (⟨"TokenBus$Loop", "tune", "(II)V"⟩, prog_3_method_2_code, 3, none, 0, 0)
def M_L_aim : xM := (⟨"TokenBus$Loop", "aim", "(I)Z"⟩, prog_3_method_3_code, 2, (some .boolean), 1, 22)
def M_L_isOff : xM := (⟨"TokenBus$Loop", "isOff", "()Z"⟩, prog_3_method_4_code, 1, (some .boolean), 0, 0)
def M_L_control : xM := (⟨"TokenBus$Loop", "control", "(I)I"⟩, prog_3_method_5_code, 3, (some .int), 2, 42)
def M_N_init : xM := (⟨"TokenBus$Node", "<init>", "(I)V"⟩, prog_4_method_1_code, 3, none, 2, 41)
def M_N_getPower : xM := (⟨"TokenBus$Node", "getPower", "()V"⟩, prog_4_method_2_code, 1, none, 1, 20)
def M_N_forgetOthers : xM := (⟨"TokenBus$Node", "forgetOthers", "()V"⟩, prog_4_method_3_code, 1, none, 0, 0)
def M_N_getToken : xM := (⟨"TokenBus$Node", "getToken", "()V"⟩, prog_4_method_4_code, 1, none, 0, 0)
def M_N_enqueue : xM := (⟨"TokenBus$Node", "enqueue", "(LTokenBus$Request;)V"⟩, prog_4_method_5_code, 2, none, 0, 0)
def M_N_dequeue : xM := (⟨"TokenBus$Node", "dequeue", "()V"⟩, prog_4_method_6_code, 2, none, 0, 0)
def M_N_objectValue : xM := (⟨"TokenBus$Node", "objectValue", "(I)I"⟩, prog_4_method_7_code, 2, (some .int), 1, 21)
def M_N_carryOut : xM := (⟨"TokenBus$Node", "carryOut", "(LTokenBus$Request;I)V"⟩, prog_4_method_8_code, 3, none, 3, 68)
def M_N_write : xM := (⟨"TokenBus$Node", "write", "(LTokenBus$Request;)Z"⟩, prog_4_method_9_code, 2, (some .boolean), 2, 44)
def M_N_subscribe : xM := (⟨"TokenBus$Node", "subscribe", "(II)Z"⟩, prog_4_method_10_code, 5, (some .boolean), 2, 44)
def M_N_firstDue : xM := (⟨"TokenBus$Node", "firstDue", "()LTokenBus$Subscription;"⟩, prog_4_method_11_code, 2, (some (.object "TokenBus$Subscription")), 0, 0)
def M_N_note : xM := (⟨"TokenBus$Node", "note", "(III)V"⟩, prog_4_method_12_code, 4, none, 0, 0)
def M_N_runLoop : xM := (⟨"TokenBus$Node", "runLoop", "()V"⟩, prog_4_method_13_code, 1, none, 3, 64)
def M_N_findDue : xM := (⟨"TokenBus$Node", "findDue", "()V"⟩, prog_4_method_14_code, 2, none, 2, 42)
def M_N_fact : xM := (⟨"TokenBus$Node", "fact", "(I)I"⟩, prog_4_method_15_code, 2, (some .int), 0, 0)
def M_N_notedFact : xM := (⟨"TokenBus$Node", "notedFact", "(I)I"⟩, prog_4_method_16_code, 2, (some .int), 0, 0)
def M_O_init : xM := (⟨"TokenBus$Output", "<init>", "()V"⟩, prog_5_method_1_code, 1, none, 1, 21)
def M_O_isFilled : xM := (⟨"TokenBus$Output", "isFilled", "(I)Z"⟩, prog_5_method_2_code, 2, (some .boolean), 1, 22)
def M_O_numberAt : xM := (⟨"TokenBus$Output", "numberAt", "(I)I"⟩, prog_5_method_3_code, 2, (some .int), 2, 43)
def M_O_fill : xM := (⟨"TokenBus$Output", "fill", "(II)Z"⟩, prog_5_method_4_code, 3, (some .boolean), 1, 22)
def M_O_release : xM := (⟨"TokenBus$Output", "release", "(I)Z"⟩, prog_5_method_5_code, 2, (some .boolean), 1, 22)
def M_O_current : xM := (⟨"TokenBus$Output", "current", "()I"⟩, prog_5_method_6_code, 2, (some .int), 0, 0)
def M_R_init : xM := (⟨"TokenBus$Request", "<init>", "(IIII)V"⟩, prog_6_method_1_code, 5, none, 1, 21)
def M_R_settle : xM := (⟨"TokenBus$Request", "settle", "(ZI)V"⟩, prog_6_method_2_code, 3, none, 0, 0)
def M_R_countTry : xM := (⟨"TokenBus$Request", "countTry", "()V"⟩, prog_6_method_3_code, 1, none, 0, 0)
def M_S_init : xM := (⟨"TokenBus$Subscription", "<init>", "()V"⟩, prog_7_method_1_code, 1, none, 1, 21)
def M_S_begin : xM := (⟨"TokenBus$Subscription", "begin", "(III)V"⟩, prog_7_method_2_code, 4, none, 1, 21)
def M_S_renew : xM := (⟨"TokenBus$Subscription", "renew", "(I)V"⟩, prog_7_method_3_code, 2, none, 0, 0)
def M_S_compare : xM := (⟨"TokenBus$Subscription", "compare", "(I)V"⟩, prog_7_method_4_code, 2, none, 1, 21)
def M_W_law : xM := (⟨"TokenBusLaw", "law", "([I)Z"⟩, code, 4, some .boolean, 7, 164)
def M_J_floorDiv : xM := (⟨"java/lang/Math", "floorDiv", "(II)I"⟩, prog_10_method_47_code, 3, (some .int), 0, 0)
theorem fl_F_11 : Cond.fieldLink "TokenBus$Frame" 11 "TokenBus$Frame" "bytes" "[I" ∈ xGW := xGW_in (List.mem_of_getElem? (i := 75) (by decide +kernel)) (by decide +kernel)
theorem fg_F_11 : x_fgR "TokenBus$Frame" 11 1 0 := ⟨⟨"TokenBus$Frame", xT_F, rfl, by decide, xw_F, fl_F_11, rfl⟩, by decide, rfl⟩
theorem f_F_11 : x_fR "TokenBus$Frame" 11 1 0 true (.array (.int)) := ⟨⟨"TokenBus$Frame", xT_F, rfl, by decide, xw_F, fl_F_11, rfl, ⟨xy_F, xyok_F, xnm_F⟩, rfl, xyok_F 0 (by decide), (fun _ => rfl)⟩, by decide, rfl⟩
theorem fl_F_15 : Cond.fieldLink "TokenBus$Frame" 15 "TokenBus$Frame" "size" "I" ∈ xGW := xGW_in (List.mem_of_getElem? (i := 76) (by decide +kernel)) (by decide +kernel)
theorem fg_F_15 : x_fgI "TokenBus$Frame" 15 1 1 := ⟨⟨"TokenBus$Frame", xT_F, rfl, by decide, xw_F, fl_F_15, rfl⟩, by decide, rfl⟩
theorem f_F_15 : x_fI "TokenBus$Frame" 15 1 1 false (.int) := ⟨⟨"TokenBus$Frame", xT_F, rfl, by decide, xw_F, fl_F_15, rfl, ⟨xy_F, xyok_F, xnm_F⟩, rfl, xyok_F 1 (by decide), (fun h => by cases h)⟩, by decide, rfl⟩
theorem fl_F_19 : Cond.fieldLink "TokenBus$Frame" 19 "TokenBus$Frame" "spoilAt" "I" ∈ xGW := xGW_in (List.mem_of_getElem? (i := 77) (by decide +kernel)) (by decide +kernel)
theorem fg_F_19 : x_fgI "TokenBus$Frame" 19 1 2 := ⟨⟨"TokenBus$Frame", xT_F, rfl, by decide, xw_F, fl_F_19, rfl⟩, by decide, rfl⟩
theorem f_F_19 : x_fI "TokenBus$Frame" 19 1 2 false (.int) := ⟨⟨"TokenBus$Frame", xT_F, rfl, by decide, xw_F, fl_F_19, rfl, ⟨xy_F, xyok_F, xnm_F⟩, rfl, xyok_F 2 (by decide), (fun h => by cases h)⟩, by decide, rfl⟩
theorem fl_F_22 : Cond.fieldLink "TokenBus$Frame" 22 "TokenBus$Frame" "spoilMask" "I" ∈ xGW := xGW_in (List.mem_of_getElem? (i := 78) (by decide +kernel)) (by decide +kernel)
theorem fg_F_22 : x_fgI "TokenBus$Frame" 22 1 3 := ⟨⟨"TokenBus$Frame", xT_F, rfl, by decide, xw_F, fl_F_22, rfl⟩, by decide, rfl⟩
theorem f_F_22 : x_fI "TokenBus$Frame" 22 1 3 false (.int) := ⟨⟨"TokenBus$Frame", xT_F, rfl, by decide, xw_F, fl_F_22, rfl, ⟨xy_F, xyok_F, xnm_F⟩, rfl, xyok_F 3 (by decide), (fun h => by cases h)⟩, by decide, rfl⟩
theorem fl_O_9 : Cond.fieldLink "TokenBus$Output" 9 "TokenBus$Output" "numbers" "[I" ∈ xGW := xGW_in (List.mem_of_getElem? (i := 100) (by decide +kernel)) (by decide +kernel)
theorem fg_O_9 : x_fgR "TokenBus$Output" 9 4 0 := ⟨⟨"TokenBus$Output", xT_O, rfl, by decide, xw_O, fl_O_9, rfl⟩, by decide, rfl⟩
theorem f_O_9 : x_fR "TokenBus$Output" 9 4 0 true (.array (.int)) := ⟨⟨"TokenBus$Output", xT_O, rfl, by decide, xw_O, fl_O_9, rfl, ⟨xy_O, xyok_O, xnm_O⟩, rfl, xyok_O 0 (by decide), (fun _ => rfl)⟩, by decide, rfl⟩
theorem fl_O_15 : Cond.fieldLink "TokenBus$Output" 15 "TokenBus$Output" "filled" "[Z" ∈ xGW := xGW_in (List.mem_of_getElem? (i := 101) (by decide +kernel)) (by decide +kernel)
theorem fg_O_15 : x_fgR "TokenBus$Output" 15 4 1 := ⟨⟨"TokenBus$Output", xT_O, rfl, by decide, xw_O, fl_O_15, rfl⟩, by decide, rfl⟩
theorem f_O_15 : x_fR "TokenBus$Output" 15 4 1 true (.array (.boolean)) := ⟨⟨"TokenBus$Output", xT_O, rfl, by decide, xw_O, fl_O_15, rfl, ⟨xy_O, xyok_O, xnm_O⟩, rfl, xyok_O 1 (by decide), (fun _ => rfl)⟩, by decide, rfl⟩
theorem fl_L_25 : Cond.fieldLink "TokenBus$Loop" 25 "TokenBus$Loop" "setpoint" "I" ∈ xGW := xGW_in (List.mem_of_getElem? (i := 114) (by decide +kernel)) (by decide +kernel)
theorem fg_L_25 : x_fgI "TokenBus$Loop" 25 5 0 := ⟨⟨"TokenBus$Loop", xT_L, rfl, by decide, xw_L, fl_L_25, rfl⟩, by decide, rfl⟩
theorem f_L_25 : x_fI "TokenBus$Loop" 25 5 0 false (.int) := ⟨⟨"TokenBus$Loop", xT_L, rfl, by decide, xw_L, fl_L_25, rfl, ⟨xy_L, xyok_L, xnm_L⟩, rfl, xyok_L 0 (by decide), (fun h => by cases h)⟩, by decide, rfl⟩
theorem fl_N_77 : Cond.fieldLink "TokenBus$Node" 77 "TokenBus$Loop" "setpoint" "I" ∈ xGW := xGW_in (List.mem_of_getElem? (i := 115) (by decide +kernel)) (by decide +kernel)
theorem fg_N_77 : x_fgI "TokenBus$Node" 77 5 0 := ⟨⟨"TokenBus$Loop", xT_L, rfl, by decide, xw_L, fl_N_77, rfl⟩, by decide, rfl⟩
theorem f_N_77 : x_fI "TokenBus$Node" 77 5 0 false (.int) := ⟨⟨"TokenBus$Loop", xT_L, rfl, by decide, xw_L, fl_N_77, rfl, ⟨xy_L, xyok_L, xnm_L⟩, rfl, xyok_L 0 (by decide), (fun h => by cases h)⟩, by decide, rfl⟩
theorem fl_L_9 : Cond.fieldLink "TokenBus$Loop" 9 "TokenBus$Loop" "gainP" "I" ∈ xGW := xGW_in (List.mem_of_getElem? (i := 116) (by decide +kernel)) (by decide +kernel)
theorem fg_L_9 : x_fgI "TokenBus$Loop" 9 5 1 := ⟨⟨"TokenBus$Loop", xT_L, rfl, by decide, xw_L, fl_L_9, rfl⟩, by decide, rfl⟩
theorem f_L_9 : x_fI "TokenBus$Loop" 9 5 1 false (.int) := ⟨⟨"TokenBus$Loop", xT_L, rfl, by decide, xw_L, fl_L_9, rfl, ⟨xy_L, xyok_L, xnm_L⟩, rfl, xyok_L 1 (by decide), (fun h => by cases h)⟩, by decide, rfl⟩
theorem fl_L_15 : Cond.fieldLink "TokenBus$Loop" 15 "TokenBus$Loop" "gainI" "I" ∈ xGW := xGW_in (List.mem_of_getElem? (i := 117) (by decide +kernel)) (by decide +kernel)
theorem fg_L_15 : x_fgI "TokenBus$Loop" 15 5 2 := ⟨⟨"TokenBus$Loop", xT_L, rfl, by decide, xw_L, fl_L_15, rfl⟩, by decide, rfl⟩
theorem f_L_15 : x_fI "TokenBus$Loop" 15 5 2 false (.int) := ⟨⟨"TokenBus$Loop", xT_L, rfl, by decide, xw_L, fl_L_15, rfl, ⟨xy_L, xyok_L, xnm_L⟩, rfl, xyok_L 2 (by decide), (fun h => by cases h)⟩, by decide, rfl⟩
theorem fl_L_18 : Cond.fieldLink "TokenBus$Loop" 18 "TokenBus$Loop" "sum" "I" ∈ xGW := xGW_in (List.mem_of_getElem? (i := 118) (by decide +kernel)) (by decide +kernel)
theorem fg_L_18 : x_fgI "TokenBus$Loop" 18 5 3 := ⟨⟨"TokenBus$Loop", xT_L, rfl, by decide, xw_L, fl_L_18, rfl⟩, by decide, rfl⟩
theorem f_L_18 : x_fI "TokenBus$Loop" 18 5 3 false (.int) := ⟨⟨"TokenBus$Loop", xT_L, rfl, by decide, xw_L, fl_L_18, rfl, ⟨xy_L, xyok_L, xnm_L⟩, rfl, xyok_L 3 (by decide), (fun h => by cases h)⟩, by decide, rfl⟩
theorem fl_N_58 : Cond.fieldLink "TokenBus$Node" 58 "TokenBus$Loop" "sum" "I" ∈ xGW := xGW_in (List.mem_of_getElem? (i := 119) (by decide +kernel)) (by decide +kernel)
theorem fg_N_58 : x_fgI "TokenBus$Node" 58 5 3 := ⟨⟨"TokenBus$Loop", xT_L, rfl, by decide, xw_L, fl_N_58, rfl⟩, by decide, rfl⟩
theorem f_N_58 : x_fI "TokenBus$Node" 58 5 3 false (.int) := ⟨⟨"TokenBus$Loop", xT_L, rfl, by decide, xw_L, fl_N_58, rfl, ⟨xy_L, xyok_L, xnm_L⟩, rfl, xyok_L 3 (by decide), (fun h => by cases h)⟩, by decide, rfl⟩
theorem fl_S_9 : Cond.fieldLink "TokenBus$Subscription" 9 "TokenBus$Subscription" "subscriber" "I" ∈ xGW := xGW_in (List.mem_of_getElem? (i := 137) (by decide +kernel)) (by decide +kernel)
theorem fg_S_9 : x_fgI "TokenBus$Subscription" 9 3 0 := ⟨⟨"TokenBus$Subscription", xT_S, rfl, by decide, xw_S, fl_S_9, rfl⟩, by decide, rfl⟩
theorem f_S_9 : x_fI "TokenBus$Subscription" 9 3 0 false (.int) := ⟨⟨"TokenBus$Subscription", xT_S, rfl, by decide, xw_S, fl_S_9, rfl, ⟨xy_S, xyok_S, xnm_S⟩, rfl, xyok_S 0 (by decide), (fun h => by cases h)⟩, by decide, rfl⟩
theorem fl_N_120 : Cond.fieldLink "TokenBus$Node" 120 "TokenBus$Subscription" "subscriber" "I" ∈ xGW := xGW_in (List.mem_of_getElem? (i := 138) (by decide +kernel)) (by decide +kernel)
theorem fg_N_120 : x_fgI "TokenBus$Node" 120 3 0 := ⟨⟨"TokenBus$Subscription", xT_S, rfl, by decide, xw_S, fl_N_120, rfl⟩, by decide, rfl⟩
theorem f_N_120 : x_fI "TokenBus$Node" 120 3 0 false (.int) := ⟨⟨"TokenBus$Subscription", xT_S, rfl, by decide, xw_S, fl_N_120, rfl, ⟨xy_S, xyok_S, xnm_S⟩, rfl, xyok_S 0 (by decide), (fun h => by cases h)⟩, by decide, rfl⟩
theorem fl_B_254 : Cond.fieldLink "TokenBus" 254 "TokenBus$Subscription" "subscriber" "I" ∈ xGW := xGW_in (List.mem_of_getElem? (i := 139) (by decide +kernel)) (by decide +kernel)
theorem fg_B_254 : x_fgI "TokenBus" 254 3 0 := ⟨⟨"TokenBus$Subscription", xT_S, rfl, by decide, xw_S, fl_B_254, rfl⟩, by decide, rfl⟩
theorem f_B_254 : x_fI "TokenBus" 254 3 0 false (.int) := ⟨⟨"TokenBus$Subscription", xT_S, rfl, by decide, xw_S, fl_B_254, rfl, ⟨xy_S, xyok_S, xnm_S⟩, rfl, xyok_S 0 (by decide), (fun h => by cases h)⟩, by decide, rfl⟩
theorem fl_S_15 : Cond.fieldLink "TokenBus$Subscription" 15 "TokenBus$Subscription" "object" "I" ∈ xGW := xGW_in (List.mem_of_getElem? (i := 140) (by decide +kernel)) (by decide +kernel)
theorem fg_S_15 : x_fgI "TokenBus$Subscription" 15 3 1 := ⟨⟨"TokenBus$Subscription", xT_S, rfl, by decide, xw_S, fl_S_15, rfl⟩, by decide, rfl⟩
theorem f_S_15 : x_fI "TokenBus$Subscription" 15 3 1 false (.int) := ⟨⟨"TokenBus$Subscription", xT_S, rfl, by decide, xw_S, fl_S_15, rfl, ⟨xy_S, xyok_S, xnm_S⟩, rfl, xyok_S 1 (by decide), (fun h => by cases h)⟩, by decide, rfl⟩
theorem fl_N_123 : Cond.fieldLink "TokenBus$Node" 123 "TokenBus$Subscription" "object" "I" ∈ xGW := xGW_in (List.mem_of_getElem? (i := 141) (by decide +kernel)) (by decide +kernel)
theorem fg_N_123 : x_fgI "TokenBus$Node" 123 3 1 := ⟨⟨"TokenBus$Subscription", xT_S, rfl, by decide, xw_S, fl_N_123, rfl⟩, by decide, rfl⟩
theorem f_N_123 : x_fI "TokenBus$Node" 123 3 1 false (.int) := ⟨⟨"TokenBus$Subscription", xT_S, rfl, by decide, xw_S, fl_N_123, rfl, ⟨xy_S, xyok_S, xnm_S⟩, rfl, xyok_S 1 (by decide), (fun h => by cases h)⟩, by decide, rfl⟩
theorem fl_B_246 : Cond.fieldLink "TokenBus" 246 "TokenBus$Subscription" "object" "I" ∈ xGW := xGW_in (List.mem_of_getElem? (i := 142) (by decide +kernel)) (by decide +kernel)
theorem fg_B_246 : x_fgI "TokenBus" 246 3 1 := ⟨⟨"TokenBus$Subscription", xT_S, rfl, by decide, xw_S, fl_B_246, rfl⟩, by decide, rfl⟩
theorem f_B_246 : x_fI "TokenBus" 246 3 1 false (.int) := ⟨⟨"TokenBus$Subscription", xT_S, rfl, by decide, xw_S, fl_B_246, rfl, ⟨xy_S, xyok_S, xnm_S⟩, rfl, xyok_S 1 (by decide), (fun h => by cases h)⟩, by decide, rfl⟩
theorem fl_S_22 : Cond.fieldLink "TokenBus$Subscription" 22 "TokenBus$Subscription" "lastValue" "I" ∈ xGW := xGW_in (List.mem_of_getElem? (i := 143) (by decide +kernel)) (by decide +kernel)
theorem fg_S_22 : x_fgI "TokenBus$Subscription" 22 3 2 := ⟨⟨"TokenBus$Subscription", xT_S, rfl, by decide, xw_S, fl_S_22, rfl⟩, by decide, rfl⟩
theorem f_S_22 : x_fI "TokenBus$Subscription" 22 3 2 false (.int) := ⟨⟨"TokenBus$Subscription", xT_S, rfl, by decide, xw_S, fl_S_22, rfl, ⟨xy_S, xyok_S, xnm_S⟩, rfl, xyok_S 2 (by decide), (fun h => by cases h)⟩, by decide, rfl⟩
theorem fl_S_25 : Cond.fieldLink "TokenBus$Subscription" 25 "TokenBus$Subscription" "isDue" "Z" ∈ xGW := xGW_in (List.mem_of_getElem? (i := 144) (by decide +kernel)) (by decide +kernel)
theorem fg_S_25 : x_fgI "TokenBus$Subscription" 25 3 3 := ⟨⟨"TokenBus$Subscription", xT_S, rfl, by decide, xw_S, fl_S_25, rfl⟩, by decide, rfl⟩
theorem f_S_25 : x_fI "TokenBus$Subscription" 25 3 3 false (.boolean) := ⟨⟨"TokenBus$Subscription", xT_S, rfl, by decide, xw_S, fl_S_25, rfl, ⟨xy_S, xyok_S, xnm_S⟩, rfl, xyok_S 3 (by decide), (fun h => by cases h)⟩, by decide, rfl⟩
theorem fl_N_132 : Cond.fieldLink "TokenBus$Node" 132 "TokenBus$Subscription" "isDue" "Z" ∈ xGW := xGW_in (List.mem_of_getElem? (i := 145) (by decide +kernel)) (by decide +kernel)
theorem fg_N_132 : x_fgI "TokenBus$Node" 132 3 3 := ⟨⟨"TokenBus$Subscription", xT_S, rfl, by decide, xw_S, fl_N_132, rfl⟩, by decide, rfl⟩
theorem f_N_132 : x_fI "TokenBus$Node" 132 3 3 false (.boolean) := ⟨⟨"TokenBus$Subscription", xT_S, rfl, by decide, xw_S, fl_N_132, rfl, ⟨xy_S, xyok_S, xnm_S⟩, rfl, xyok_S 3 (by decide), (fun h => by cases h)⟩, by decide, rfl⟩
theorem fl_N_37 : Cond.fieldLink "TokenBus$Node" 37 "TokenBus$Node" "number" "I" ∈ xGW := xGW_in (List.mem_of_getElem? (i := 155) (by decide +kernel)) (by decide +kernel)
theorem fg_N_37 : x_fgI "TokenBus$Node" 37 6 0 := ⟨⟨"TokenBus$Node", xT_N, rfl, by decide, xw_N, fl_N_37, rfl⟩, by decide, rfl⟩
theorem f_N_37 : x_fI "TokenBus$Node" 37 6 0 true (.int) := ⟨⟨"TokenBus$Node", xT_N, rfl, by decide, xw_N, fl_N_37, rfl, ⟨xy_N, xyok_N, xnm_N⟩, rfl, xyok_N 0 (by decide), (fun _ => rfl)⟩, by decide, rfl⟩
theorem fl_B_214 : Cond.fieldLink "TokenBus" 214 "TokenBus$Node" "number" "I" ∈ xGW := xGW_in (List.mem_of_getElem? (i := 156) (by decide +kernel)) (by decide +kernel)
theorem fg_B_214 : x_fgI "TokenBus" 214 6 0 := ⟨⟨"TokenBus$Node", xT_N, rfl, by decide, xw_N, fl_B_214, rfl⟩, by decide, rfl⟩
theorem fl_N_12 : Cond.fieldLink "TokenBus$Node" 12 "TokenBus$Node" "output" "LTokenBus$Output;" ∈ xGW := xGW_in (List.mem_of_getElem? (i := 157) (by decide +kernel)) (by decide +kernel)
theorem fg_N_12 : x_fgR "TokenBus$Node" 12 6 1 := ⟨⟨"TokenBus$Node", xT_N, rfl, by decide, xw_N, fl_N_12, rfl⟩, by decide, rfl⟩
theorem f_N_12 : x_fR "TokenBus$Node" 12 6 1 true (.object "TokenBus$Output") := ⟨⟨"TokenBus$Node", xT_N, rfl, by decide, xw_N, fl_N_12, rfl, ⟨xy_N, xyok_N, xnm_N⟩, rfl, xyok_N 1 (by decide), (fun _ => rfl)⟩, by decide, rfl⟩
theorem fl_B_128 : Cond.fieldLink "TokenBus" 128 "TokenBus$Node" "output" "LTokenBus$Output;" ∈ xGW := xGW_in (List.mem_of_getElem? (i := 158) (by decide +kernel)) (by decide +kernel)
theorem fg_B_128 : x_fgR "TokenBus" 128 6 1 := ⟨⟨"TokenBus$Node", xT_N, rfl, by decide, xw_N, fl_B_128, rfl⟩, by decide, rfl⟩
theorem fl_N_21 : Cond.fieldLink "TokenBus$Node" 21 "TokenBus$Node" "loop" "LTokenBus$Loop;" ∈ xGW := xGW_in (List.mem_of_getElem? (i := 159) (by decide +kernel)) (by decide +kernel)
theorem fg_N_21 : x_fgR "TokenBus$Node" 21 6 2 := ⟨⟨"TokenBus$Node", xT_N, rfl, by decide, xw_N, fl_N_21, rfl⟩, by decide, rfl⟩
theorem f_N_21 : x_fR "TokenBus$Node" 21 6 2 true (.object "TokenBus$Loop") := ⟨⟨"TokenBus$Node", xT_N, rfl, by decide, xw_N, fl_N_21, rfl, ⟨xy_N, xyok_N, xnm_N⟩, rfl, xyok_N 2 (by decide), (fun _ => rfl)⟩, by decide, rfl⟩
theorem fl_B_59 : Cond.fieldLink "TokenBus" 59 "TokenBus$Node" "loop" "LTokenBus$Loop;" ∈ xGW := xGW_in (List.mem_of_getElem? (i := 160) (by decide +kernel)) (by decide +kernel)
theorem fg_B_59 : x_fgR "TokenBus" 59 6 2 := ⟨⟨"TokenBus$Node", xT_N, rfl, by decide, xw_N, fl_B_59, rfl⟩, by decide, rfl⟩
theorem fl_N_27 : Cond.fieldLink "TokenBus$Node" 27 "TokenBus$Node" "queue" "[LTokenBus$Request;" ∈ xGW := xGW_in (List.mem_of_getElem? (i := 161) (by decide +kernel)) (by decide +kernel)
theorem fg_N_27 : x_fgR "TokenBus$Node" 27 6 3 := ⟨⟨"TokenBus$Node", xT_N, rfl, by decide, xw_N, fl_N_27, rfl⟩, by decide, rfl⟩
theorem f_N_27 : x_fR "TokenBus$Node" 27 6 3 true (.array (.object "TokenBus$Request")) := ⟨⟨"TokenBus$Node", xT_N, rfl, by decide, xw_N, fl_N_27, rfl, ⟨xy_N, xyok_N, xnm_N⟩, rfl, xyok_N 3 (by decide), (fun _ => rfl)⟩, by decide, rfl⟩
theorem fl_B_201 : Cond.fieldLink "TokenBus" 201 "TokenBus$Node" "queue" "[LTokenBus$Request;" ∈ xGW := xGW_in (List.mem_of_getElem? (i := 162) (by decide +kernel)) (by decide +kernel)
theorem fg_B_201 : x_fgR "TokenBus" 201 6 3 := ⟨⟨"TokenBus$Node", xT_N, rfl, by decide, xw_N, fl_B_201, rfl⟩, by decide, rfl⟩
theorem fl_N_33 : Cond.fieldLink "TokenBus$Node" 33 "TokenBus$Node" "subscriptions" "[LTokenBus$Subscription;" ∈ xGW := xGW_in (List.mem_of_getElem? (i := 163) (by decide +kernel)) (by decide +kernel)
theorem fg_N_33 : x_fgR "TokenBus$Node" 33 6 4 := ⟨⟨"TokenBus$Node", xT_N, rfl, by decide, xw_N, fl_N_33, rfl⟩, by decide, rfl⟩
theorem f_N_33 : x_fR "TokenBus$Node" 33 6 4 true (.array (.object "TokenBus$Subscription")) := ⟨⟨"TokenBus$Node", xT_N, rfl, by decide, xw_N, fl_N_33, rfl, ⟨xy_N, xyok_N, xnm_N⟩, rfl, xyok_N 4 (by decide), (fun _ => rfl)⟩, by decide, rfl⟩
theorem fl_N_48 : Cond.fieldLink "TokenBus$Node" 48 "TokenBus$Node" "powered" "Z" ∈ xGW := xGW_in (List.mem_of_getElem? (i := 164) (by decide +kernel)) (by decide +kernel)
theorem fg_N_48 : x_fgI "TokenBus$Node" 48 6 5 := ⟨⟨"TokenBus$Node", xT_N, rfl, by decide, xw_N, fl_N_48, rfl⟩, by decide, rfl⟩
theorem f_N_48 : x_fI "TokenBus$Node" 48 6 5 false (.boolean) := ⟨⟨"TokenBus$Node", xT_N, rfl, by decide, xw_N, fl_N_48, rfl, ⟨xy_N, xyok_N, xnm_N⟩, rfl, xyok_N 5 (by decide), (fun h => by cases h)⟩, by decide, rfl⟩
theorem fl_B_42 : Cond.fieldLink "TokenBus" 42 "TokenBus$Node" "powered" "Z" ∈ xGW := xGW_in (List.mem_of_getElem? (i := 165) (by decide +kernel)) (by decide +kernel)
theorem fg_B_42 : x_fgI "TokenBus" 42 6 5 := ⟨⟨"TokenBus$Node", xT_N, rfl, by decide, xw_N, fl_B_42, rfl⟩, by decide, rfl⟩
theorem f_B_42 : x_fI "TokenBus" 42 6 5 false (.boolean) := ⟨⟨"TokenBus$Node", xT_N, rfl, by decide, xw_N, fl_B_42, rfl, ⟨xy_N, xyok_N, xnm_N⟩, rfl, xyok_N 5 (by decide), (fun h => by cases h)⟩, by decide, rfl⟩
theorem fl_N_41 : Cond.fieldLink "TokenBus$Node" 41 "TokenBus$Node" "next" "I" ∈ xGW := xGW_in (List.mem_of_getElem? (i := 166) (by decide +kernel)) (by decide +kernel)
theorem fg_N_41 : x_fgI "TokenBus$Node" 41 6 6 := ⟨⟨"TokenBus$Node", xT_N, rfl, by decide, xw_N, fl_N_41, rfl⟩, by decide, rfl⟩
theorem f_N_41 : x_fI "TokenBus$Node" 41 6 6 false (.int) := ⟨⟨"TokenBus$Node", xT_N, rfl, by decide, xw_N, fl_N_41, rfl, ⟨xy_N, xyok_N, xnm_N⟩, rfl, xyok_N 6 (by decide), (fun h => by cases h)⟩, by decide, rfl⟩
theorem fl_B_211 : Cond.fieldLink "TokenBus" 211 "TokenBus$Node" "next" "I" ∈ xGW := xGW_in (List.mem_of_getElem? (i := 167) (by decide +kernel)) (by decide +kernel)
theorem fg_B_211 : x_fgI "TokenBus" 211 6 6 := ⟨⟨"TokenBus$Node", xT_N, rfl, by decide, xw_N, fl_B_211, rfl⟩, by decide, rfl⟩
theorem f_B_211 : x_fI "TokenBus" 211 6 6 false (.int) := ⟨⟨"TokenBus$Node", xT_N, rfl, by decide, xw_N, fl_B_211, rfl, ⟨xy_N, xyok_N, xnm_N⟩, rfl, xyok_N 6 (by decide), (fun h => by cases h)⟩, by decide, rfl⟩
theorem fl_N_44 : Cond.fieldLink "TokenBus$Node" 44 "TokenBus$Node" "polled" "I" ∈ xGW := xGW_in (List.mem_of_getElem? (i := 168) (by decide +kernel)) (by decide +kernel)
theorem fg_N_44 : x_fgI "TokenBus$Node" 44 6 7 := ⟨⟨"TokenBus$Node", xT_N, rfl, by decide, xw_N, fl_N_44, rfl⟩, by decide, rfl⟩
theorem f_N_44 : x_fI "TokenBus$Node" 44 6 7 false (.int) := ⟨⟨"TokenBus$Node", xT_N, rfl, by decide, xw_N, fl_N_44, rfl, ⟨xy_N, xyok_N, xnm_N⟩, rfl, xyok_N 7 (by decide), (fun h => by cases h)⟩, by decide, rfl⟩
theorem fl_B_220 : Cond.fieldLink "TokenBus" 220 "TokenBus$Node" "polled" "I" ∈ xGW := xGW_in (List.mem_of_getElem? (i := 169) (by decide +kernel)) (by decide +kernel)
theorem fg_B_220 : x_fgI "TokenBus" 220 6 7 := ⟨⟨"TokenBus$Node", xT_N, rfl, by decide, xw_N, fl_B_220, rfl⟩, by decide, rfl⟩
theorem f_B_220 : x_fI "TokenBus" 220 6 7 false (.int) := ⟨⟨"TokenBus$Node", xT_N, rfl, by decide, xw_N, fl_B_220, rfl, ⟨xy_N, xyok_N, xnm_N⟩, rfl, xyok_N 7 (by decide), (fun h => by cases h)⟩, by decide, rfl⟩
theorem fl_N_55 : Cond.fieldLink "TokenBus$Node" 55 "TokenBus$Node" "count" "I" ∈ xGW := xGW_in (List.mem_of_getElem? (i := 170) (by decide +kernel)) (by decide +kernel)
theorem fg_N_55 : x_fgI "TokenBus$Node" 55 6 8 := ⟨⟨"TokenBus$Node", xT_N, rfl, by decide, xw_N, fl_N_55, rfl⟩, by decide, rfl⟩
theorem f_N_55 : x_fI "TokenBus$Node" 55 6 8 false (.int) := ⟨⟨"TokenBus$Node", xT_N, rfl, by decide, xw_N, fl_N_55, rfl, ⟨xy_N, xyok_N, xnm_N⟩, rfl, xyok_N 8 (by decide), (fun h => by cases h)⟩, by decide, rfl⟩
theorem fl_B_208 : Cond.fieldLink "TokenBus" 208 "TokenBus$Node" "count" "I" ∈ xGW := xGW_in (List.mem_of_getElem? (i := 171) (by decide +kernel)) (by decide +kernel)
theorem fg_B_208 : x_fgI "TokenBus" 208 6 8 := ⟨⟨"TokenBus$Node", xT_N, rfl, by decide, xw_N, fl_B_208, rfl⟩, by decide, rfl⟩
theorem f_B_208 : x_fI "TokenBus" 208 6 8 false (.int) := ⟨⟨"TokenBus$Node", xT_N, rfl, by decide, xw_N, fl_B_208, rfl, ⟨xy_N, xyok_N, xnm_N⟩, rfl, xyok_N 8 (by decide), (fun h => by cases h)⟩, by decide, rfl⟩
theorem fl_N_64 : Cond.fieldLink "TokenBus$Node" 64 "TokenBus$Node" "tokens" "I" ∈ xGW := xGW_in (List.mem_of_getElem? (i := 172) (by decide +kernel)) (by decide +kernel)
theorem fg_N_64 : x_fgI "TokenBus$Node" 64 6 9 := ⟨⟨"TokenBus$Node", xT_N, rfl, by decide, xw_N, fl_N_64, rfl⟩, by decide, rfl⟩
theorem f_N_64 : x_fI "TokenBus$Node" 64 6 9 false (.int) := ⟨⟨"TokenBus$Node", xT_N, rfl, by decide, xw_N, fl_N_64, rfl, ⟨xy_N, xyok_N, xnm_N⟩, rfl, xyok_N 9 (by decide), (fun h => by cases h)⟩, by decide, rfl⟩
theorem fl_B_56 : Cond.fieldLink "TokenBus" 56 "TokenBus$Node" "input" "I" ∈ xGW := xGW_in (List.mem_of_getElem? (i := 173) (by decide +kernel)) (by decide +kernel)
theorem fg_B_56 : x_fgI "TokenBus" 56 6 10 := ⟨⟨"TokenBus$Node", xT_N, rfl, by decide, xw_N, fl_B_56, rfl⟩, by decide, rfl⟩
theorem f_B_56 : x_fI "TokenBus" 56 6 10 false (.int) := ⟨⟨"TokenBus$Node", xT_N, rfl, by decide, xw_N, fl_B_56, rfl, ⟨xy_N, xyok_N, xnm_N⟩, rfl, xyok_N 10 (by decide), (fun h => by cases h)⟩, by decide, rfl⟩
theorem fl_N_70 : Cond.fieldLink "TokenBus$Node" 70 "TokenBus$Node" "input" "I" ∈ xGW := xGW_in (List.mem_of_getElem? (i := 174) (by decide +kernel)) (by decide +kernel)
theorem fg_N_70 : x_fgI "TokenBus$Node" 70 6 10 := ⟨⟨"TokenBus$Node", xT_N, rfl, by decide, xw_N, fl_N_70, rfl⟩, by decide, rfl⟩
theorem f_N_70 : x_fI "TokenBus$Node" 70 6 10 false (.int) := ⟨⟨"TokenBus$Node", xT_N, rfl, by decide, xw_N, fl_N_70, rfl, ⟨xy_N, xyok_N, xnm_N⟩, rfl, xyok_N 10 (by decide), (fun h => by cases h)⟩, by decide, rfl⟩
theorem fl_N_67 : Cond.fieldLink "TokenBus$Node" 67 "TokenBus$Node" "queued" "I" ∈ xGW := xGW_in (List.mem_of_getElem? (i := 175) (by decide +kernel)) (by decide +kernel)
theorem fg_N_67 : x_fgI "TokenBus$Node" 67 6 11 := ⟨⟨"TokenBus$Node", xT_N, rfl, by decide, xw_N, fl_N_67, rfl⟩, by decide, rfl⟩
theorem f_N_67 : x_fI "TokenBus$Node" 67 6 11 false (.int) := ⟨⟨"TokenBus$Node", xT_N, rfl, by decide, xw_N, fl_N_67, rfl, ⟨xy_N, xyok_N, xnm_N⟩, rfl, xyok_N 11 (by decide), (fun h => by cases h)⟩, by decide, rfl⟩
theorem fl_B_69 : Cond.fieldLink "TokenBus" 69 "TokenBus$Node" "queued" "I" ∈ xGW := xGW_in (List.mem_of_getElem? (i := 176) (by decide +kernel)) (by decide +kernel)
theorem fg_B_69 : x_fgI "TokenBus" 69 6 11 := ⟨⟨"TokenBus$Node", xT_N, rfl, by decide, xw_N, fl_B_69, rfl⟩, by decide, rfl⟩
theorem f_B_69 : x_fI "TokenBus" 69 6 11 false (.int) := ⟨⟨"TokenBus$Node", xT_N, rfl, by decide, xw_N, fl_B_69, rfl, ⟨xy_N, xyok_N, xnm_N⟩, rfl, xyok_N 11 (by decide), (fun h => by cases h)⟩, by decide, rfl⟩
theorem fl_N_61 : Cond.fieldLink "TokenBus$Node" 61 "TokenBus$Node" "subscribed" "I" ∈ xGW := xGW_in (List.mem_of_getElem? (i := 177) (by decide +kernel)) (by decide +kernel)
theorem fg_N_61 : x_fgI "TokenBus$Node" 61 6 12 := ⟨⟨"TokenBus$Node", xT_N, rfl, by decide, xw_N, fl_N_61, rfl⟩, by decide, rfl⟩
theorem f_N_61 : x_fI "TokenBus$Node" 61 6 12 false (.int) := ⟨⟨"TokenBus$Node", xT_N, rfl, by decide, xw_N, fl_N_61, rfl, ⟨xy_N, xyok_N, xnm_N⟩, rfl, xyok_N 12 (by decide), (fun h => by cases h)⟩, by decide, rfl⟩
theorem fl_N_135 : Cond.fieldLink "TokenBus$Node" 135 "TokenBus$Node" "notedNode" "I" ∈ xGW := xGW_in (List.mem_of_getElem? (i := 178) (by decide +kernel)) (by decide +kernel)
theorem fg_N_135 : x_fgI "TokenBus$Node" 135 6 13 := ⟨⟨"TokenBus$Node", xT_N, rfl, by decide, xw_N, fl_N_135, rfl⟩, by decide, rfl⟩
theorem f_N_135 : x_fI "TokenBus$Node" 135 6 13 false (.int) := ⟨⟨"TokenBus$Node", xT_N, rfl, by decide, xw_N, fl_N_135, rfl, ⟨xy_N, xyok_N, xnm_N⟩, rfl, xyok_N 13 (by decide), (fun h => by cases h)⟩, by decide, rfl⟩
theorem fl_N_138 : Cond.fieldLink "TokenBus$Node" 138 "TokenBus$Node" "notedObject" "I" ∈ xGW := xGW_in (List.mem_of_getElem? (i := 179) (by decide +kernel)) (by decide +kernel)
theorem fg_N_138 : x_fgI "TokenBus$Node" 138 6 14 := ⟨⟨"TokenBus$Node", xT_N, rfl, by decide, xw_N, fl_N_138, rfl⟩, by decide, rfl⟩
theorem f_N_138 : x_fI "TokenBus$Node" 138 6 14 false (.int) := ⟨⟨"TokenBus$Node", xT_N, rfl, by decide, xw_N, fl_N_138, rfl, ⟨xy_N, xyok_N, xnm_N⟩, rfl, xyok_N 14 (by decide), (fun h => by cases h)⟩, by decide, rfl⟩
theorem fl_N_141 : Cond.fieldLink "TokenBus$Node" 141 "TokenBus$Node" "notedValue" "I" ∈ xGW := xGW_in (List.mem_of_getElem? (i := 180) (by decide +kernel)) (by decide +kernel)
theorem fg_N_141 : x_fgI "TokenBus$Node" 141 6 15 := ⟨⟨"TokenBus$Node", xT_N, rfl, by decide, xw_N, fl_N_141, rfl⟩, by decide, rfl⟩
theorem f_N_141 : x_fI "TokenBus$Node" 141 6 15 false (.int) := ⟨⟨"TokenBus$Node", xT_N, rfl, by decide, xw_N, fl_N_141, rfl, ⟨xy_N, xyok_N, xnm_N⟩, rfl, xyok_N 15 (by decide), (fun h => by cases h)⟩, by decide, rfl⟩
theorem fl_N_144 : Cond.fieldLink "TokenBus$Node" 144 "TokenBus$Node" "notices" "I" ∈ xGW := xGW_in (List.mem_of_getElem? (i := 181) (by decide +kernel)) (by decide +kernel)
theorem fg_N_144 : x_fgI "TokenBus$Node" 144 6 16 := ⟨⟨"TokenBus$Node", xT_N, rfl, by decide, xw_N, fl_N_144, rfl⟩, by decide, rfl⟩
theorem f_N_144 : x_fI "TokenBus$Node" 144 6 16 false (.int) := ⟨⟨"TokenBus$Node", xT_N, rfl, by decide, xw_N, fl_N_144, rfl, ⟨xy_N, xyok_N, xnm_N⟩, rfl, xyok_N 16 (by decide), (fun h => by cases h)⟩, by decide, rfl⟩
theorem fl_B_11 : Cond.fieldLink "TokenBus" 11 "TokenBus" "nodes" "[LTokenBus$Node;" ∈ xGW := xGW_in (List.mem_of_getElem? (i := 217) (by decide +kernel)) (by decide +kernel)
theorem fg_B_11 : x_fgR "TokenBus" 11 0 0 := ⟨⟨"TokenBus", xT_B, rfl, by decide, xw_B, fl_B_11, rfl⟩, by decide, rfl⟩
theorem f_B_11 : x_fR "TokenBus" 11 0 0 true (.array (.object "TokenBus$Node")) := ⟨⟨"TokenBus", xT_B, rfl, by decide, xw_B, fl_B_11, rfl, ⟨xy_B, xyok_B, xnm_B⟩, rfl, xyok_B 0 (by decide), (fun _ => rfl)⟩, by decide, rfl⟩
theorem fl_B_17 : Cond.fieldLink "TokenBus" 17 "TokenBus" "requests" "[LTokenBus$Request;" ∈ xGW := xGW_in (List.mem_of_getElem? (i := 218) (by decide +kernel)) (by decide +kernel)
theorem fg_B_17 : x_fgR "TokenBus" 17 0 1 := ⟨⟨"TokenBus", xT_B, rfl, by decide, xw_B, fl_B_17, rfl⟩, by decide, rfl⟩
theorem f_B_17 : x_fR "TokenBus" 17 0 1 true (.array (.object "TokenBus$Request")) := ⟨⟨"TokenBus", xT_B, rfl, by decide, xw_B, fl_B_17, rfl, ⟨xy_B, xyok_B, xnm_B⟩, rfl, xyok_B 1 (by decide), (fun _ => rfl)⟩, by decide, rfl⟩
theorem fl_B_24 : Cond.fieldLink "TokenBus" 24 "TokenBus" "there" "LTokenBus$Frame;" ∈ xGW := xGW_in (List.mem_of_getElem? (i := 219) (by decide +kernel)) (by decide +kernel)
theorem fg_B_24 : x_fgR "TokenBus" 24 0 2 := ⟨⟨"TokenBus", xT_B, rfl, by decide, xw_B, fl_B_24, rfl⟩, by decide, rfl⟩
theorem f_B_24 : x_fR "TokenBus" 24 0 2 true (.object "TokenBus$Frame") := ⟨⟨"TokenBus", xT_B, rfl, by decide, xw_B, fl_B_24, rfl, ⟨xy_B, xyok_B, xnm_B⟩, rfl, xyok_B 2 (by decide), (fun _ => rfl)⟩, by decide, rfl⟩
theorem fl_B_28 : Cond.fieldLink "TokenBus" 28 "TokenBus" "back" "LTokenBus$Frame;" ∈ xGW := xGW_in (List.mem_of_getElem? (i := 220) (by decide +kernel)) (by decide +kernel)
theorem fg_B_28 : x_fgR "TokenBus" 28 0 3 := ⟨⟨"TokenBus", xT_B, rfl, by decide, xw_B, fl_B_28, rfl⟩, by decide, rfl⟩
theorem f_B_28 : x_fR "TokenBus" 28 0 3 true (.object "TokenBus$Frame") := ⟨⟨"TokenBus", xT_B, rfl, by decide, xw_B, fl_B_28, rfl, ⟨xy_B, xyok_B, xnm_B⟩, rfl, xyok_B 3 (by decide), (fun _ => rfl)⟩, by decide, rfl⟩
theorem fl_B_72 : Cond.fieldLink "TokenBus" 72 "TokenBus" "requestsMade" "I" ∈ xGW := xGW_in (List.mem_of_getElem? (i := 221) (by decide +kernel)) (by decide +kernel)
theorem fg_B_72 : x_fgI "TokenBus" 72 0 4 := ⟨⟨"TokenBus", xT_B, rfl, by decide, xw_B, fl_B_72, rfl⟩, by decide, rfl⟩
theorem f_B_72 : x_fI "TokenBus" 72 0 4 false (.int) := ⟨⟨"TokenBus", xT_B, rfl, by decide, xw_B, fl_B_72, rfl, ⟨xy_B, xyok_B, xnm_B⟩, rfl, xyok_B 4 (by decide), (fun h => by cases h)⟩, by decide, rfl⟩
theorem fl_B_31 : Cond.fieldLink "TokenBus" 31 "TokenBus" "holding" "I" ∈ xGW := xGW_in (List.mem_of_getElem? (i := 222) (by decide +kernel)) (by decide +kernel)
theorem fg_B_31 : x_fgI "TokenBus" 31 0 5 := ⟨⟨"TokenBus", xT_B, rfl, by decide, xw_B, fl_B_31, rfl⟩, by decide, rfl⟩
theorem f_B_31 : x_fI "TokenBus" 31 0 5 false (.int) := ⟨⟨"TokenBus", xT_B, rfl, by decide, xw_B, fl_B_31, rfl, ⟨xy_B, xyok_B, xnm_B⟩, rfl, xyok_B 5 (by decide), (fun h => by cases h)⟩, by decide, rfl⟩
theorem fl_B_98 : Cond.fieldLink "TokenBus" 98 "TokenBus" "phaseNow" "I" ∈ xGW := xGW_in (List.mem_of_getElem? (i := 223) (by decide +kernel)) (by decide +kernel)
theorem fg_B_98 : x_fgI "TokenBus" 98 0 6 := ⟨⟨"TokenBus", xT_B, rfl, by decide, xw_B, fl_B_98, rfl⟩, by decide, rfl⟩
theorem f_B_98 : x_fI "TokenBus" 98 0 6 false (.int) := ⟨⟨"TokenBus", xT_B, rfl, by decide, xw_B, fl_B_98, rfl, ⟨xy_B, xyok_B, xnm_B⟩, rfl, xyok_B 6 (by decide), (fun h => by cases h)⟩, by decide, rfl⟩
theorem fl_B_194 : Cond.fieldLink "TokenBus" 194 "TokenBus" "sentInUse" "I" ∈ xGW := xGW_in (List.mem_of_getElem? (i := 224) (by decide +kernel)) (by decide +kernel)
theorem fg_B_194 : x_fgI "TokenBus" 194 0 7 := ⟨⟨"TokenBus", xT_B, rfl, by decide, xw_B, fl_B_194, rfl⟩, by decide, rfl⟩
theorem f_B_194 : x_fI "TokenBus" 194 0 7 false (.int) := ⟨⟨"TokenBus", xT_B, rfl, by decide, xw_B, fl_B_194, rfl, ⟨xy_B, xyok_B, xnm_B⟩, rfl, xyok_B 7 (by decide), (fun h => by cases h)⟩, by decide, rfl⟩
theorem fl_B_243 : Cond.fieldLink "TokenBus" 243 "TokenBus" "passesTried" "I" ∈ xGW := xGW_in (List.mem_of_getElem? (i := 225) (by decide +kernel)) (by decide +kernel)
theorem fg_B_243 : x_fgI "TokenBus" 243 0 8 := ⟨⟨"TokenBus", xT_B, rfl, by decide, xw_B, fl_B_243, rfl⟩, by decide, rfl⟩
theorem f_B_243 : x_fI "TokenBus" 243 0 8 false (.int) := ⟨⟨"TokenBus", xT_B, rfl, by decide, xw_B, fl_B_243, rfl, ⟨xy_B, xyok_B, xnm_B⟩, rfl, xyok_B 8 (by decide), (fun h => by cases h)⟩, by decide, rfl⟩
theorem fl_B_161 : Cond.fieldLink "TokenBus" 161 "TokenBus" "silence" "I" ∈ xGW := xGW_in (List.mem_of_getElem? (i := 226) (by decide +kernel)) (by decide +kernel)
theorem fg_B_161 : x_fgI "TokenBus" 161 0 9 := ⟨⟨"TokenBus", xT_B, rfl, by decide, xw_B, fl_B_161, rfl⟩, by decide, rfl⟩
theorem f_B_161 : x_fI "TokenBus" 161 0 9 false (.int) := ⟨⟨"TokenBus", xT_B, rfl, by decide, xw_B, fl_B_161, rfl, ⟨xy_B, xyok_B, xnm_B⟩, rfl, xyok_B 9 (by decide), (fun h => by cases h)⟩, by decide, rfl⟩
theorem fl_B_155 : Cond.fieldLink "TokenBus" 155 "TokenBus" "stepsMade" "I" ∈ xGW := xGW_in (List.mem_of_getElem? (i := 227) (by decide +kernel)) (by decide +kernel)
theorem fg_B_155 : x_fgI "TokenBus" 155 0 10 := ⟨⟨"TokenBus", xT_B, rfl, by decide, xw_B, fl_B_155, rfl⟩, by decide, rfl⟩
theorem f_B_155 : x_fI "TokenBus" 155 0 10 false (.int) := ⟨⟨"TokenBus", xT_B, rfl, by decide, xw_B, fl_B_155, rfl, ⟨xy_B, xyok_B, xnm_B⟩, rfl, xyok_B 10 (by decide), (fun h => by cases h)⟩, by decide, rfl⟩
theorem fl_B_118 : Cond.fieldLink "TokenBus" 118 "TokenBus" "framesInStep" "I" ∈ xGW := xGW_in (List.mem_of_getElem? (i := 228) (by decide +kernel)) (by decide +kernel)
theorem fg_B_118 : x_fgI "TokenBus" 118 0 11 := ⟨⟨"TokenBus", xT_B, rfl, by decide, xw_B, fl_B_118, rfl⟩, by decide, rfl⟩
theorem f_B_118 : x_fI "TokenBus" 118 0 11 false (.int) := ⟨⟨"TokenBus", xT_B, rfl, by decide, xw_B, fl_B_118, rfl, ⟨xy_B, xyok_B, xnm_B⟩, rfl, xyok_B 11 (by decide), (fun h => by cases h)⟩, by decide, rfl⟩
theorem fl_B_158 : Cond.fieldLink "TokenBus" 158 "TokenBus" "framesSent" "I" ∈ xGW := xGW_in (List.mem_of_getElem? (i := 229) (by decide +kernel)) (by decide +kernel)
theorem fg_B_158 : x_fgI "TokenBus" 158 0 12 := ⟨⟨"TokenBus", xT_B, rfl, by decide, xw_B, fl_B_158, rfl⟩, by decide, rfl⟩
theorem f_B_158 : x_fI "TokenBus" 158 0 12 false (.int) := ⟨⟨"TokenBus", xT_B, rfl, by decide, xw_B, fl_B_158, rfl, ⟨xy_B, xyok_B, xnm_B⟩, rfl, xyok_B 12 (by decide), (fun h => by cases h)⟩, by decide, rfl⟩
theorem fl_R_15 : Cond.fieldLink "TokenBus$Request" 15 "TokenBus$Request" "id" "I" ∈ xGW := xGW_in (List.mem_of_getElem? (i := 300) (by decide +kernel)) (by decide +kernel)
theorem fg_R_15 : x_fgI "TokenBus$Request" 15 2 0 := ⟨⟨"TokenBus$Request", xT_R, rfl, by decide, xw_R, fl_R_15, rfl⟩, by decide, rfl⟩
theorem f_R_15 : x_fI "TokenBus$Request" 15 2 0 true (.int) := ⟨⟨"TokenBus$Request", xT_R, rfl, by decide, xw_R, fl_R_15, rfl, ⟨xy_R, xyok_R, xnm_R⟩, rfl, xyok_R 0 (by decide), (fun _ => rfl)⟩, by decide, rfl⟩
theorem fl_B_293 : Cond.fieldLink "TokenBus" 293 "TokenBus$Request" "id" "I" ∈ xGW := xGW_in (List.mem_of_getElem? (i := 301) (by decide +kernel)) (by decide +kernel)
theorem fg_B_293 : x_fgI "TokenBus" 293 2 0 := ⟨⟨"TokenBus$Request", xT_R, rfl, by decide, xw_R, fl_B_293, rfl⟩, by decide, rfl⟩
theorem fl_R_18 : Cond.fieldLink "TokenBus$Request" 18 "TokenBus$Request" "target" "I" ∈ xGW := xGW_in (List.mem_of_getElem? (i := 302) (by decide +kernel)) (by decide +kernel)
theorem fg_R_18 : x_fgI "TokenBus$Request" 18 2 1 := ⟨⟨"TokenBus$Request", xT_R, rfl, by decide, xw_R, fl_R_18, rfl⟩, by decide, rfl⟩
theorem f_R_18 : x_fI "TokenBus$Request" 18 2 1 true (.int) := ⟨⟨"TokenBus$Request", xT_R, rfl, by decide, xw_R, fl_R_18, rfl, ⟨xy_R, xyok_R, xnm_R⟩, rfl, xyok_R 1 (by decide), (fun _ => rfl)⟩, by decide, rfl⟩
theorem fl_B_271 : Cond.fieldLink "TokenBus" 271 "TokenBus$Request" "target" "I" ∈ xGW := xGW_in (List.mem_of_getElem? (i := 303) (by decide +kernel)) (by decide +kernel)
theorem fg_B_271 : x_fgI "TokenBus" 271 2 1 := ⟨⟨"TokenBus$Request", xT_R, rfl, by decide, xw_R, fl_B_271, rfl⟩, by decide, rfl⟩
theorem fl_R_21 : Cond.fieldLink "TokenBus$Request" 21 "TokenBus$Request" "service" "I" ∈ xGW := xGW_in (List.mem_of_getElem? (i := 304) (by decide +kernel)) (by decide +kernel)
theorem fg_R_21 : x_fgI "TokenBus$Request" 21 2 2 := ⟨⟨"TokenBus$Request", xT_R, rfl, by decide, xw_R, fl_R_21, rfl⟩, by decide, rfl⟩
theorem f_R_21 : x_fI "TokenBus$Request" 21 2 2 true (.int) := ⟨⟨"TokenBus$Request", xT_R, rfl, by decide, xw_R, fl_R_21, rfl, ⟨xy_R, xyok_R, xnm_R⟩, rfl, xyok_R 2 (by decide), (fun _ => rfl)⟩, by decide, rfl⟩
theorem fl_N_80 : Cond.fieldLink "TokenBus$Node" 80 "TokenBus$Request" "service" "I" ∈ xGW := xGW_in (List.mem_of_getElem? (i := 305) (by decide +kernel)) (by decide +kernel)
theorem fg_N_80 : x_fgI "TokenBus$Node" 80 2 2 := ⟨⟨"TokenBus$Request", xT_R, rfl, by decide, xw_R, fl_N_80, rfl⟩, by decide, rfl⟩
theorem fl_B_290 : Cond.fieldLink "TokenBus" 290 "TokenBus$Request" "service" "I" ∈ xGW := xGW_in (List.mem_of_getElem? (i := 306) (by decide +kernel)) (by decide +kernel)
theorem fg_B_290 : x_fgI "TokenBus" 290 2 2 := ⟨⟨"TokenBus$Request", xT_R, rfl, by decide, xw_R, fl_B_290, rfl⟩, by decide, rfl⟩
theorem fl_R_24 : Cond.fieldLink "TokenBus$Request" 24 "TokenBus$Request" "object" "I" ∈ xGW := xGW_in (List.mem_of_getElem? (i := 307) (by decide +kernel)) (by decide +kernel)
theorem fg_R_24 : x_fgI "TokenBus$Request" 24 2 3 := ⟨⟨"TokenBus$Request", xT_R, rfl, by decide, xw_R, fl_R_24, rfl⟩, by decide, rfl⟩
theorem f_R_24 : x_fI "TokenBus$Request" 24 2 3 true (.int) := ⟨⟨"TokenBus$Request", xT_R, rfl, by decide, xw_R, fl_R_24, rfl, ⟨xy_R, xyok_R, xnm_R⟩, rfl, xyok_R 3 (by decide), (fun _ => rfl)⟩, by decide, rfl⟩
theorem fl_N_83 : Cond.fieldLink "TokenBus$Node" 83 "TokenBus$Request" "object" "I" ∈ xGW := xGW_in (List.mem_of_getElem? (i := 308) (by decide +kernel)) (by decide +kernel)
theorem fg_N_83 : x_fgI "TokenBus$Node" 83 2 3 := ⟨⟨"TokenBus$Request", xT_R, rfl, by decide, xw_R, fl_N_83, rfl⟩, by decide, rfl⟩
theorem fl_B_296 : Cond.fieldLink "TokenBus" 296 "TokenBus$Request" "object" "I" ∈ xGW := xGW_in (List.mem_of_getElem? (i := 309) (by decide +kernel)) (by decide +kernel)
theorem fg_B_296 : x_fgI "TokenBus" 296 2 3 := ⟨⟨"TokenBus$Request", xT_R, rfl, by decide, xw_R, fl_B_296, rfl⟩, by decide, rfl⟩
theorem fl_R_27 : Cond.fieldLink "TokenBus$Request" 27 "TokenBus$Request" "level" "I" ∈ xGW := xGW_in (List.mem_of_getElem? (i := 310) (by decide +kernel)) (by decide +kernel)
theorem fg_R_27 : x_fgI "TokenBus$Request" 27 2 4 := ⟨⟨"TokenBus$Request", xT_R, rfl, by decide, xw_R, fl_R_27, rfl⟩, by decide, rfl⟩
theorem f_R_27 : x_fI "TokenBus$Request" 27 2 4 true (.int) := ⟨⟨"TokenBus$Request", xT_R, rfl, by decide, xw_R, fl_R_27, rfl, ⟨xy_R, xyok_R, xnm_R⟩, rfl, xyok_R 4 (by decide), (fun _ => rfl)⟩, by decide, rfl⟩
theorem fl_N_103 : Cond.fieldLink "TokenBus$Node" 103 "TokenBus$Request" "level" "I" ∈ xGW := xGW_in (List.mem_of_getElem? (i := 311) (by decide +kernel)) (by decide +kernel)
theorem fg_N_103 : x_fgI "TokenBus$Node" 103 2 4 := ⟨⟨"TokenBus$Request", xT_R, rfl, by decide, xw_R, fl_N_103, rfl⟩, by decide, rfl⟩
theorem fl_B_297 : Cond.fieldLink "TokenBus" 297 "TokenBus$Request" "level" "I" ∈ xGW := xGW_in (List.mem_of_getElem? (i := 312) (by decide +kernel)) (by decide +kernel)
theorem fg_B_297 : x_fgI "TokenBus" 297 2 4 := ⟨⟨"TokenBus$Request", xT_R, rfl, by decide, xw_R, fl_B_297, rfl⟩, by decide, rfl⟩
theorem fl_R_30 : Cond.fieldLink "TokenBus$Request" 30 "TokenBus$Request" "number" "I" ∈ xGW := xGW_in (List.mem_of_getElem? (i := 313) (by decide +kernel)) (by decide +kernel)
theorem fg_R_30 : x_fgI "TokenBus$Request" 30 2 5 := ⟨⟨"TokenBus$Request", xT_R, rfl, by decide, xw_R, fl_R_30, rfl⟩, by decide, rfl⟩
theorem f_R_30 : x_fI "TokenBus$Request" 30 2 5 true (.int) := ⟨⟨"TokenBus$Request", xT_R, rfl, by decide, xw_R, fl_R_30, rfl, ⟨xy_R, xyok_R, xnm_R⟩, rfl, xyok_R 5 (by decide), (fun _ => rfl)⟩, by decide, rfl⟩
theorem fl_N_102 : Cond.fieldLink "TokenBus$Node" 102 "TokenBus$Request" "number" "I" ∈ xGW := xGW_in (List.mem_of_getElem? (i := 314) (by decide +kernel)) (by decide +kernel)
theorem fg_N_102 : x_fgI "TokenBus$Node" 102 2 5 := ⟨⟨"TokenBus$Request", xT_R, rfl, by decide, xw_R, fl_N_102, rfl⟩, by decide, rfl⟩
theorem fl_B_300 : Cond.fieldLink "TokenBus" 300 "TokenBus$Request" "number" "I" ∈ xGW := xGW_in (List.mem_of_getElem? (i := 315) (by decide +kernel)) (by decide +kernel)
theorem fg_B_300 : x_fgI "TokenBus" 300 2 5 := ⟨⟨"TokenBus$Request", xT_R, rfl, by decide, xw_R, fl_B_300, rfl⟩, by decide, rfl⟩
theorem fl_R_9 : Cond.fieldLink "TokenBus$Request" 9 "TokenBus$Request" "standing" "I" ∈ xGW := xGW_in (List.mem_of_getElem? (i := 316) (by decide +kernel)) (by decide +kernel)
theorem fg_R_9 : x_fgI "TokenBus$Request" 9 2 6 := ⟨⟨"TokenBus$Request", xT_R, rfl, by decide, xw_R, fl_R_9, rfl⟩, by decide, rfl⟩
theorem f_R_9 : x_fI "TokenBus$Request" 9 2 6 false (.int) := ⟨⟨"TokenBus$Request", xT_R, rfl, by decide, xw_R, fl_R_9, rfl, ⟨xy_R, xyok_R, xnm_R⟩, rfl, xyok_R 6 (by decide), (fun h => by cases h)⟩, by decide, rfl⟩
theorem fl_B_143 : Cond.fieldLink "TokenBus" 143 "TokenBus$Request" "standing" "I" ∈ xGW := xGW_in (List.mem_of_getElem? (i := 317) (by decide +kernel)) (by decide +kernel)
theorem fg_B_143 : x_fgI "TokenBus" 143 2 6 := ⟨⟨"TokenBus$Request", xT_R, rfl, by decide, xw_R, fl_B_143, rfl⟩, by decide, rfl⟩
theorem f_B_143 : x_fI "TokenBus" 143 2 6 false (.int) := ⟨⟨"TokenBus$Request", xT_R, rfl, by decide, xw_R, fl_B_143, rfl, ⟨xy_R, xyok_R, xnm_R⟩, rfl, xyok_R 6 (by decide), (fun h => by cases h)⟩, by decide, rfl⟩
theorem fl_R_43 : Cond.fieldLink "TokenBus$Request" 43 "TokenBus$Request" "tries" "I" ∈ xGW := xGW_in (List.mem_of_getElem? (i := 318) (by decide +kernel)) (by decide +kernel)
theorem fg_R_43 : x_fgI "TokenBus$Request" 43 2 7 := ⟨⟨"TokenBus$Request", xT_R, rfl, by decide, xw_R, fl_R_43, rfl⟩, by decide, rfl⟩
theorem f_R_43 : x_fI "TokenBus$Request" 43 2 7 false (.int) := ⟨⟨"TokenBus$Request", xT_R, rfl, by decide, xw_R, fl_R_43, rfl, ⟨xy_R, xyok_R, xnm_R⟩, rfl, xyok_R 7 (by decide), (fun h => by cases h)⟩, by decide, rfl⟩
theorem fl_R_33 : Cond.fieldLink "TokenBus$Request" 33 "TokenBus$Request" "reached" "Z" ∈ xGW := xGW_in (List.mem_of_getElem? (i := 319) (by decide +kernel)) (by decide +kernel)
theorem fg_R_33 : x_fgI "TokenBus$Request" 33 2 8 := ⟨⟨"TokenBus$Request", xT_R, rfl, by decide, xw_R, fl_R_33, rfl⟩, by decide, rfl⟩
theorem f_R_33 : x_fI "TokenBus$Request" 33 2 8 false (.boolean) := ⟨⟨"TokenBus$Request", xT_R, rfl, by decide, xw_R, fl_R_33, rfl, ⟨xy_R, xyok_R, xnm_R⟩, rfl, xyok_R 8 (by decide), (fun h => by cases h)⟩, by decide, rfl⟩
theorem fl_B_268 : Cond.fieldLink "TokenBus" 268 "TokenBus$Request" "reached" "Z" ∈ xGW := xGW_in (List.mem_of_getElem? (i := 320) (by decide +kernel)) (by decide +kernel)
theorem fg_B_268 : x_fgI "TokenBus" 268 2 8 := ⟨⟨"TokenBus$Request", xT_R, rfl, by decide, xw_R, fl_B_268, rfl⟩, by decide, rfl⟩
theorem f_B_268 : x_fI "TokenBus" 268 2 8 false (.boolean) := ⟨⟨"TokenBus$Request", xT_R, rfl, by decide, xw_R, fl_B_268, rfl, ⟨xy_R, xyok_R, xnm_R⟩, rfl, xyok_R 8 (by decide), (fun h => by cases h)⟩, by decide, rfl⟩
theorem fl_R_37 : Cond.fieldLink "TokenBus$Request" 37 "TokenBus$Request" "done" "Z" ∈ xGW := xGW_in (List.mem_of_getElem? (i := 321) (by decide +kernel)) (by decide +kernel)
theorem fg_R_37 : x_fgI "TokenBus$Request" 37 2 9 := ⟨⟨"TokenBus$Request", xT_R, rfl, by decide, xw_R, fl_R_37, rfl⟩, by decide, rfl⟩
theorem f_R_37 : x_fI "TokenBus$Request" 37 2 9 false (.boolean) := ⟨⟨"TokenBus$Request", xT_R, rfl, by decide, xw_R, fl_R_37, rfl, ⟨xy_R, xyok_R, xnm_R⟩, rfl, xyok_R 9 (by decide), (fun h => by cases h)⟩, by decide, rfl⟩
theorem fl_B_281 : Cond.fieldLink "TokenBus" 281 "TokenBus$Request" "done" "Z" ∈ xGW := xGW_in (List.mem_of_getElem? (i := 322) (by decide +kernel)) (by decide +kernel)
theorem fg_B_281 : x_fgI "TokenBus" 281 2 9 := ⟨⟨"TokenBus$Request", xT_R, rfl, by decide, xw_R, fl_B_281, rfl⟩, by decide, rfl⟩
theorem f_B_281 : x_fI "TokenBus" 281 2 9 false (.boolean) := ⟨⟨"TokenBus$Request", xT_R, rfl, by decide, xw_R, fl_B_281, rfl, ⟨xy_R, xyok_R, xnm_R⟩, rfl, xyok_R 9 (by decide), (fun h => by cases h)⟩, by decide, rfl⟩
theorem fl_R_40 : Cond.fieldLink "TokenBus$Request" 40 "TokenBus$Request" "reply" "I" ∈ xGW := xGW_in (List.mem_of_getElem? (i := 323) (by decide +kernel)) (by decide +kernel)
theorem fg_R_40 : x_fgI "TokenBus$Request" 40 2 10 := ⟨⟨"TokenBus$Request", xT_R, rfl, by decide, xw_R, fl_R_40, rfl⟩, by decide, rfl⟩
theorem f_R_40 : x_fI "TokenBus$Request" 40 2 10 false (.int) := ⟨⟨"TokenBus$Request", xT_R, rfl, by decide, xw_R, fl_R_40, rfl, ⟨xy_R, xyok_R, xnm_R⟩, rfl, xyok_R 10 (by decide), (fun h => by cases h)⟩, by decide, rfl⟩
theorem fl_B_146 : Cond.fieldLink "TokenBus" 146 "TokenBus$Request" "reply" "I" ∈ xGW := xGW_in (List.mem_of_getElem? (i := 324) (by decide +kernel)) (by decide +kernel)
theorem fg_B_146 : x_fgI "TokenBus" 146 2 10 := ⟨⟨"TokenBus$Request", xT_R, rfl, by decide, xw_R, fl_B_146, rfl⟩, by decide, rfl⟩
theorem f_B_146 : x_fI "TokenBus" 146 2 10 false (.int) := ⟨⟨"TokenBus$Request", xT_R, rfl, by decide, xw_R, fl_B_146, rfl, ⟨xy_R, xyok_R, xnm_R⟩, rfl, xyok_R 10 (by decide), (fun h => by cases h)⟩, by decide, rfl⟩
theorem fl_M_7 : Cond.fieldLink "TokenBusModel" 7 "TokenBusModel" "powered" "[Z" ∈ xGW := xGW_in (List.mem_of_getElem? (i := 663) (by decide +kernel)) (by decide +kernel)
theorem fg_M_7 : x_fgR "TokenBusModel" 7 7 0 := ⟨⟨"TokenBusModel", xT_M, rfl, by decide, xw_M, fl_M_7, rfl⟩, by decide, rfl⟩
theorem f_M_7 : x_fR "TokenBusModel" 7 7 0 true (.array (.boolean)) := ⟨⟨"TokenBusModel", xT_M, rfl, by decide, xw_M, fl_M_7, rfl, ⟨xy_M, xyok_M, xnm_M⟩, rfl, xyok_M 0 (by decide), (fun _ => rfl)⟩, by decide, rfl⟩
theorem fl_M_13 : Cond.fieldLink "TokenBusModel" 13 "TokenBusModel" "next" "[I" ∈ xGW := xGW_in (List.mem_of_getElem? (i := 664) (by decide +kernel)) (by decide +kernel)
theorem fg_M_13 : x_fgR "TokenBusModel" 13 7 1 := ⟨⟨"TokenBusModel", xT_M, rfl, by decide, xw_M, fl_M_13, rfl⟩, by decide, rfl⟩
theorem f_M_13 : x_fR "TokenBusModel" 13 7 1 true (.array (.int)) := ⟨⟨"TokenBusModel", xT_M, rfl, by decide, xw_M, fl_M_13, rfl, ⟨xy_M, xyok_M, xnm_M⟩, rfl, xyok_M 1 (by decide), (fun _ => rfl)⟩, by decide, rfl⟩
theorem fl_M_17 : Cond.fieldLink "TokenBusModel" 17 "TokenBusModel" "polled" "[I" ∈ xGW := xGW_in (List.mem_of_getElem? (i := 665) (by decide +kernel)) (by decide +kernel)
theorem fg_M_17 : x_fgR "TokenBusModel" 17 7 2 := ⟨⟨"TokenBusModel", xT_M, rfl, by decide, xw_M, fl_M_17, rfl⟩, by decide, rfl⟩
theorem f_M_17 : x_fR "TokenBusModel" 17 7 2 true (.array (.int)) := ⟨⟨"TokenBusModel", xT_M, rfl, by decide, xw_M, fl_M_17, rfl, ⟨xy_M, xyok_M, xnm_M⟩, rfl, xyok_M 2 (by decide), (fun _ => rfl)⟩, by decide, rfl⟩
theorem fl_M_20 : Cond.fieldLink "TokenBusModel" 20 "TokenBusModel" "count" "[I" ∈ xGW := xGW_in (List.mem_of_getElem? (i := 666) (by decide +kernel)) (by decide +kernel)
theorem fg_M_20 : x_fgR "TokenBusModel" 20 7 3 := ⟨⟨"TokenBusModel", xT_M, rfl, by decide, xw_M, fl_M_20, rfl⟩, by decide, rfl⟩
theorem f_M_20 : x_fR "TokenBusModel" 20 7 3 true (.array (.int)) := ⟨⟨"TokenBusModel", xT_M, rfl, by decide, xw_M, fl_M_20, rfl, ⟨xy_M, xyok_M, xnm_M⟩, rfl, xyok_M 3 (by decide), (fun _ => rfl)⟩, by decide, rfl⟩
theorem fl_M_23 : Cond.fieldLink "TokenBusModel" 23 "TokenBusModel" "tokens" "[I" ∈ xGW := xGW_in (List.mem_of_getElem? (i := 667) (by decide +kernel)) (by decide +kernel)
theorem fg_M_23 : x_fgR "TokenBusModel" 23 7 4 := ⟨⟨"TokenBusModel", xT_M, rfl, by decide, xw_M, fl_M_23, rfl⟩, by decide, rfl⟩
theorem f_M_23 : x_fR "TokenBusModel" 23 7 4 true (.array (.int)) := ⟨⟨"TokenBusModel", xT_M, rfl, by decide, xw_M, fl_M_23, rfl, ⟨xy_M, xyok_M, xnm_M⟩, rfl, xyok_M 4 (by decide), (fun _ => rfl)⟩, by decide, rfl⟩
theorem fl_M_26 : Cond.fieldLink "TokenBusModel" 26 "TokenBusModel" "input" "[I" ∈ xGW := xGW_in (List.mem_of_getElem? (i := 668) (by decide +kernel)) (by decide +kernel)
theorem fg_M_26 : x_fgR "TokenBusModel" 26 7 5 := ⟨⟨"TokenBusModel", xT_M, rfl, by decide, xw_M, fl_M_26, rfl⟩, by decide, rfl⟩
theorem f_M_26 : x_fR "TokenBusModel" 26 7 5 true (.array (.int)) := ⟨⟨"TokenBusModel", xT_M, rfl, by decide, xw_M, fl_M_26, rfl, ⟨xy_M, xyok_M, xnm_M⟩, rfl, xyok_M 5 (by decide), (fun _ => rfl)⟩, by decide, rfl⟩
theorem fl_M_29 : Cond.fieldLink "TokenBusModel" 29 "TokenBusModel" "setpoint" "[I" ∈ xGW := xGW_in (List.mem_of_getElem? (i := 669) (by decide +kernel)) (by decide +kernel)
theorem fg_M_29 : x_fgR "TokenBusModel" 29 7 6 := ⟨⟨"TokenBusModel", xT_M, rfl, by decide, xw_M, fl_M_29, rfl⟩, by decide, rfl⟩
theorem f_M_29 : x_fR "TokenBusModel" 29 7 6 true (.array (.int)) := ⟨⟨"TokenBusModel", xT_M, rfl, by decide, xw_M, fl_M_29, rfl, ⟨xy_M, xyok_M, xnm_M⟩, rfl, xyok_M 6 (by decide), (fun _ => rfl)⟩, by decide, rfl⟩
theorem fl_M_32 : Cond.fieldLink "TokenBusModel" 32 "TokenBusModel" "gainP" "[I" ∈ xGW := xGW_in (List.mem_of_getElem? (i := 670) (by decide +kernel)) (by decide +kernel)
theorem fg_M_32 : x_fgR "TokenBusModel" 32 7 7 := ⟨⟨"TokenBusModel", xT_M, rfl, by decide, xw_M, fl_M_32, rfl⟩, by decide, rfl⟩
theorem f_M_32 : x_fR "TokenBusModel" 32 7 7 true (.array (.int)) := ⟨⟨"TokenBusModel", xT_M, rfl, by decide, xw_M, fl_M_32, rfl, ⟨xy_M, xyok_M, xnm_M⟩, rfl, xyok_M 7 (by decide), (fun _ => rfl)⟩, by decide, rfl⟩
theorem fl_M_35 : Cond.fieldLink "TokenBusModel" 35 "TokenBusModel" "gainI" "[I" ∈ xGW := xGW_in (List.mem_of_getElem? (i := 671) (by decide +kernel)) (by decide +kernel)
theorem fg_M_35 : x_fgR "TokenBusModel" 35 7 8 := ⟨⟨"TokenBusModel", xT_M, rfl, by decide, xw_M, fl_M_35, rfl⟩, by decide, rfl⟩
theorem f_M_35 : x_fR "TokenBusModel" 35 7 8 true (.array (.int)) := ⟨⟨"TokenBusModel", xT_M, rfl, by decide, xw_M, fl_M_35, rfl, ⟨xy_M, xyok_M, xnm_M⟩, rfl, xyok_M 8 (by decide), (fun _ => rfl)⟩, by decide, rfl⟩
theorem fl_M_38 : Cond.fieldLink "TokenBusModel" 38 "TokenBusModel" "sum" "[I" ∈ xGW := xGW_in (List.mem_of_getElem? (i := 672) (by decide +kernel)) (by decide +kernel)
theorem fg_M_38 : x_fgR "TokenBusModel" 38 7 9 := ⟨⟨"TokenBusModel", xT_M, rfl, by decide, xw_M, fl_M_38, rfl⟩, by decide, rfl⟩
theorem f_M_38 : x_fR "TokenBusModel" 38 7 9 true (.array (.int)) := ⟨⟨"TokenBusModel", xT_M, rfl, by decide, xw_M, fl_M_38, rfl, ⟨xy_M, xyok_M, xnm_M⟩, rfl, xyok_M 9 (by decide), (fun _ => rfl)⟩, by decide, rfl⟩
theorem fl_M_41 : Cond.fieldLink "TokenBusModel" 41 "TokenBusModel" "level" "[I" ∈ xGW := xGW_in (List.mem_of_getElem? (i := 673) (by decide +kernel)) (by decide +kernel)
theorem fg_M_41 : x_fgR "TokenBusModel" 41 7 10 := ⟨⟨"TokenBusModel", xT_M, rfl, by decide, xw_M, fl_M_41, rfl⟩, by decide, rfl⟩
theorem f_M_41 : x_fR "TokenBusModel" 41 7 10 true (.array (.int)) := ⟨⟨"TokenBusModel", xT_M, rfl, by decide, xw_M, fl_M_41, rfl, ⟨xy_M, xyok_M, xnm_M⟩, rfl, xyok_M 10 (by decide), (fun _ => rfl)⟩, by decide, rfl⟩
theorem fl_M_44 : Cond.fieldLink "TokenBusModel" 44 "TokenBusModel" "taken" "[Z" ∈ xGW := xGW_in (List.mem_of_getElem? (i := 674) (by decide +kernel)) (by decide +kernel)
theorem fg_M_44 : x_fgR "TokenBusModel" 44 7 11 := ⟨⟨"TokenBusModel", xT_M, rfl, by decide, xw_M, fl_M_44, rfl⟩, by decide, rfl⟩
theorem f_M_44 : x_fR "TokenBusModel" 44 7 11 true (.array (.boolean)) := ⟨⟨"TokenBusModel", xT_M, rfl, by decide, xw_M, fl_M_44, rfl, ⟨xy_M, xyok_M, xnm_M⟩, rfl, xyok_M 11 (by decide), (fun _ => rfl)⟩, by decide, rfl⟩
theorem fl_M_125 : Cond.fieldLink "TokenBusModel" 125 "TokenBusModel" "requests" "I" ∈ xGW := xGW_in (List.mem_of_getElem? (i := 675) (by decide +kernel)) (by decide +kernel)
theorem fg_M_125 : x_fgI "TokenBusModel" 125 7 12 := ⟨⟨"TokenBusModel", xT_M, rfl, by decide, xw_M, fl_M_125, rfl⟩, by decide, rfl⟩
theorem f_M_125 : x_fI "TokenBusModel" 125 7 12 false (.int) := ⟨⟨"TokenBusModel", xT_M, rfl, by decide, xw_M, fl_M_125, rfl, ⟨xy_M, xyok_M, xnm_M⟩, rfl, xyok_M 12 (by decide), (fun h => by cases h)⟩, by decide, rfl⟩
theorem fl_M_47 : Cond.fieldLink "TokenBusModel" 47 "TokenBusModel" "from" "[I" ∈ xGW := xGW_in (List.mem_of_getElem? (i := 676) (by decide +kernel)) (by decide +kernel)
theorem fg_M_47 : x_fgR "TokenBusModel" 47 7 13 := ⟨⟨"TokenBusModel", xT_M, rfl, by decide, xw_M, fl_M_47, rfl⟩, by decide, rfl⟩
theorem f_M_47 : x_fR "TokenBusModel" 47 7 13 true (.array (.int)) := ⟨⟨"TokenBusModel", xT_M, rfl, by decide, xw_M, fl_M_47, rfl, ⟨xy_M, xyok_M, xnm_M⟩, rfl, xyok_M 13 (by decide), (fun _ => rfl)⟩, by decide, rfl⟩
theorem fl_M_50 : Cond.fieldLink "TokenBusModel" 50 "TokenBusModel" "target" "[I" ∈ xGW := xGW_in (List.mem_of_getElem? (i := 677) (by decide +kernel)) (by decide +kernel)
theorem fg_M_50 : x_fgR "TokenBusModel" 50 7 14 := ⟨⟨"TokenBusModel", xT_M, rfl, by decide, xw_M, fl_M_50, rfl⟩, by decide, rfl⟩
theorem f_M_50 : x_fR "TokenBusModel" 50 7 14 true (.array (.int)) := ⟨⟨"TokenBusModel", xT_M, rfl, by decide, xw_M, fl_M_50, rfl, ⟨xy_M, xyok_M, xnm_M⟩, rfl, xyok_M 14 (by decide), (fun _ => rfl)⟩, by decide, rfl⟩
theorem fl_M_53 : Cond.fieldLink "TokenBusModel" 53 "TokenBusModel" "what" "[I" ∈ xGW := xGW_in (List.mem_of_getElem? (i := 678) (by decide +kernel)) (by decide +kernel)
theorem fg_M_53 : x_fgR "TokenBusModel" 53 7 15 := ⟨⟨"TokenBusModel", xT_M, rfl, by decide, xw_M, fl_M_53, rfl⟩, by decide, rfl⟩
theorem f_M_53 : x_fR "TokenBusModel" 53 7 15 true (.array (.int)) := ⟨⟨"TokenBusModel", xT_M, rfl, by decide, xw_M, fl_M_53, rfl, ⟨xy_M, xyok_M, xnm_M⟩, rfl, xyok_M 15 (by decide), (fun _ => rfl)⟩, by decide, rfl⟩
theorem fl_M_56 : Cond.fieldLink "TokenBusModel" 56 "TokenBusModel" "given" "[I" ∈ xGW := xGW_in (List.mem_of_getElem? (i := 679) (by decide +kernel)) (by decide +kernel)
theorem fg_M_56 : x_fgR "TokenBusModel" 56 7 16 := ⟨⟨"TokenBusModel", xT_M, rfl, by decide, xw_M, fl_M_56, rfl⟩, by decide, rfl⟩
theorem f_M_56 : x_fR "TokenBusModel" 56 7 16 true (.array (.int)) := ⟨⟨"TokenBusModel", xT_M, rfl, by decide, xw_M, fl_M_56, rfl, ⟨xy_M, xyok_M, xnm_M⟩, rfl, xyok_M 16 (by decide), (fun _ => rfl)⟩, by decide, rfl⟩
theorem fl_M_59 : Cond.fieldLink "TokenBusModel" 59 "TokenBusModel" "state" "[I" ∈ xGW := xGW_in (List.mem_of_getElem? (i := 680) (by decide +kernel)) (by decide +kernel)
theorem fg_M_59 : x_fgR "TokenBusModel" 59 7 17 := ⟨⟨"TokenBusModel", xT_M, rfl, by decide, xw_M, fl_M_59, rfl⟩, by decide, rfl⟩
theorem f_M_59 : x_fR "TokenBusModel" 59 7 17 true (.array (.int)) := ⟨⟨"TokenBusModel", xT_M, rfl, by decide, xw_M, fl_M_59, rfl, ⟨xy_M, xyok_M, xnm_M⟩, rfl, xyok_M 17 (by decide), (fun _ => rfl)⟩, by decide, rfl⟩
theorem fl_M_62 : Cond.fieldLink "TokenBusModel" 62 "TokenBusModel" "tries" "[I" ∈ xGW := xGW_in (List.mem_of_getElem? (i := 681) (by decide +kernel)) (by decide +kernel)
theorem fg_M_62 : x_fgR "TokenBusModel" 62 7 18 := ⟨⟨"TokenBusModel", xT_M, rfl, by decide, xw_M, fl_M_62, rfl⟩, by decide, rfl⟩
theorem f_M_62 : x_fR "TokenBusModel" 62 7 18 true (.array (.int)) := ⟨⟨"TokenBusModel", xT_M, rfl, by decide, xw_M, fl_M_62, rfl, ⟨xy_M, xyok_M, xnm_M⟩, rfl, xyok_M 18 (by decide), (fun _ => rfl)⟩, by decide, rfl⟩
theorem fl_M_65 : Cond.fieldLink "TokenBusModel" 65 "TokenBusModel" "got" "[Z" ∈ xGW := xGW_in (List.mem_of_getElem? (i := 682) (by decide +kernel)) (by decide +kernel)
theorem fg_M_65 : x_fgR "TokenBusModel" 65 7 19 := ⟨⟨"TokenBusModel", xT_M, rfl, by decide, xw_M, fl_M_65, rfl⟩, by decide, rfl⟩
theorem f_M_65 : x_fR "TokenBusModel" 65 7 19 true (.array (.boolean)) := ⟨⟨"TokenBusModel", xT_M, rfl, by decide, xw_M, fl_M_65, rfl, ⟨xy_M, xyok_M, xnm_M⟩, rfl, xyok_M 19 (by decide), (fun _ => rfl)⟩, by decide, rfl⟩
theorem fl_M_68 : Cond.fieldLink "TokenBusModel" 68 "TokenBusModel" "error" "[Z" ∈ xGW := xGW_in (List.mem_of_getElem? (i := 683) (by decide +kernel)) (by decide +kernel)
theorem fg_M_68 : x_fgR "TokenBusModel" 68 7 20 := ⟨⟨"TokenBusModel", xT_M, rfl, by decide, xw_M, fl_M_68, rfl⟩, by decide, rfl⟩
theorem f_M_68 : x_fR "TokenBusModel" 68 7 20 true (.array (.boolean)) := ⟨⟨"TokenBusModel", xT_M, rfl, by decide, xw_M, fl_M_68, rfl, ⟨xy_M, xyok_M, xnm_M⟩, rfl, xyok_M 20 (by decide), (fun _ => rfl)⟩, by decide, rfl⟩
theorem fl_M_71 : Cond.fieldLink "TokenBusModel" 71 "TokenBusModel" "reply" "[I" ∈ xGW := xGW_in (List.mem_of_getElem? (i := 684) (by decide +kernel)) (by decide +kernel)
theorem fg_M_71 : x_fgR "TokenBusModel" 71 7 21 := ⟨⟨"TokenBusModel", xT_M, rfl, by decide, xw_M, fl_M_71, rfl⟩, by decide, rfl⟩
theorem f_M_71 : x_fR "TokenBusModel" 71 7 21 true (.array (.int)) := ⟨⟨"TokenBusModel", xT_M, rfl, by decide, xw_M, fl_M_71, rfl, ⟨xy_M, xyok_M, xnm_M⟩, rfl, xyok_M 21 (by decide), (fun _ => rfl)⟩, by decide, rfl⟩
theorem fl_M_115 : Cond.fieldLink "TokenBusModel" 115 "TokenBusModel" "subscriptions" "I" ∈ xGW := xGW_in (List.mem_of_getElem? (i := 685) (by decide +kernel)) (by decide +kernel)
theorem fg_M_115 : x_fgI "TokenBusModel" 115 7 22 := ⟨⟨"TokenBusModel", xT_M, rfl, by decide, xw_M, fl_M_115, rfl⟩, by decide, rfl⟩
theorem f_M_115 : x_fI "TokenBusModel" 115 7 22 false (.int) := ⟨⟨"TokenBusModel", xT_M, rfl, by decide, xw_M, fl_M_115, rfl, ⟨xy_M, xyok_M, xnm_M⟩, rfl, xyok_M 22 (by decide), (fun h => by cases h)⟩, by decide, rfl⟩
theorem fl_M_74 : Cond.fieldLink "TokenBusModel" 74 "TokenBusModel" "kept" "[I" ∈ xGW := xGW_in (List.mem_of_getElem? (i := 686) (by decide +kernel)) (by decide +kernel)
theorem fg_M_74 : x_fgR "TokenBusModel" 74 7 23 := ⟨⟨"TokenBusModel", xT_M, rfl, by decide, xw_M, fl_M_74, rfl⟩, by decide, rfl⟩
theorem f_M_74 : x_fR "TokenBusModel" 74 7 23 true (.array (.int)) := ⟨⟨"TokenBusModel", xT_M, rfl, by decide, xw_M, fl_M_74, rfl, ⟨xy_M, xyok_M, xnm_M⟩, rfl, xyok_M 23 (by decide), (fun _ => rfl)⟩, by decide, rfl⟩
theorem fl_M_77 : Cond.fieldLink "TokenBusModel" 77 "TokenBusModel" "whose" "[I" ∈ xGW := xGW_in (List.mem_of_getElem? (i := 687) (by decide +kernel)) (by decide +kernel)
theorem fg_M_77 : x_fgR "TokenBusModel" 77 7 24 := ⟨⟨"TokenBusModel", xT_M, rfl, by decide, xw_M, fl_M_77, rfl⟩, by decide, rfl⟩
theorem f_M_77 : x_fR "TokenBusModel" 77 7 24 true (.array (.int)) := ⟨⟨"TokenBusModel", xT_M, rfl, by decide, xw_M, fl_M_77, rfl, ⟨xy_M, xyok_M, xnm_M⟩, rfl, xyok_M 24 (by decide), (fun _ => rfl)⟩, by decide, rfl⟩
theorem fl_M_80 : Cond.fieldLink "TokenBusModel" 80 "TokenBusModel" "object" "[I" ∈ xGW := xGW_in (List.mem_of_getElem? (i := 688) (by decide +kernel)) (by decide +kernel)
theorem fg_M_80 : x_fgR "TokenBusModel" 80 7 25 := ⟨⟨"TokenBusModel", xT_M, rfl, by decide, xw_M, fl_M_80, rfl⟩, by decide, rfl⟩
theorem f_M_80 : x_fR "TokenBusModel" 80 7 25 true (.array (.int)) := ⟨⟨"TokenBusModel", xT_M, rfl, by decide, xw_M, fl_M_80, rfl, ⟨xy_M, xyok_M, xnm_M⟩, rfl, xyok_M 25 (by decide), (fun _ => rfl)⟩, by decide, rfl⟩
theorem fl_M_83 : Cond.fieldLink "TokenBusModel" 83 "TokenBusModel" "seen" "[I" ∈ xGW := xGW_in (List.mem_of_getElem? (i := 689) (by decide +kernel)) (by decide +kernel)
theorem fg_M_83 : x_fgR "TokenBusModel" 83 7 26 := ⟨⟨"TokenBusModel", xT_M, rfl, by decide, xw_M, fl_M_83, rfl⟩, by decide, rfl⟩
theorem f_M_83 : x_fR "TokenBusModel" 83 7 26 true (.array (.int)) := ⟨⟨"TokenBusModel", xT_M, rfl, by decide, xw_M, fl_M_83, rfl, ⟨xy_M, xyok_M, xnm_M⟩, rfl, xyok_M 26 (by decide), (fun _ => rfl)⟩, by decide, rfl⟩
theorem fl_M_86 : Cond.fieldLink "TokenBusModel" 86 "TokenBusModel" "due" "[Z" ∈ xGW := xGW_in (List.mem_of_getElem? (i := 690) (by decide +kernel)) (by decide +kernel)
theorem fg_M_86 : x_fgR "TokenBusModel" 86 7 27 := ⟨⟨"TokenBusModel", xT_M, rfl, by decide, xw_M, fl_M_86, rfl⟩, by decide, rfl⟩
theorem f_M_86 : x_fR "TokenBusModel" 86 7 27 true (.array (.boolean)) := ⟨⟨"TokenBusModel", xT_M, rfl, by decide, xw_M, fl_M_86, rfl, ⟨xy_M, xyok_M, xnm_M⟩, rfl, xyok_M 27 (by decide), (fun _ => rfl)⟩, by decide, rfl⟩
theorem fl_M_89 : Cond.fieldLink "TokenBusModel" 89 "TokenBusModel" "notedNode" "[I" ∈ xGW := xGW_in (List.mem_of_getElem? (i := 691) (by decide +kernel)) (by decide +kernel)
theorem fg_M_89 : x_fgR "TokenBusModel" 89 7 28 := ⟨⟨"TokenBusModel", xT_M, rfl, by decide, xw_M, fl_M_89, rfl⟩, by decide, rfl⟩
theorem f_M_89 : x_fR "TokenBusModel" 89 7 28 true (.array (.int)) := ⟨⟨"TokenBusModel", xT_M, rfl, by decide, xw_M, fl_M_89, rfl, ⟨xy_M, xyok_M, xnm_M⟩, rfl, xyok_M 28 (by decide), (fun _ => rfl)⟩, by decide, rfl⟩
theorem fl_M_92 : Cond.fieldLink "TokenBusModel" 92 "TokenBusModel" "notedObject" "[I" ∈ xGW := xGW_in (List.mem_of_getElem? (i := 692) (by decide +kernel)) (by decide +kernel)
theorem fg_M_92 : x_fgR "TokenBusModel" 92 7 29 := ⟨⟨"TokenBusModel", xT_M, rfl, by decide, xw_M, fl_M_92, rfl⟩, by decide, rfl⟩
theorem f_M_92 : x_fR "TokenBusModel" 92 7 29 true (.array (.int)) := ⟨⟨"TokenBusModel", xT_M, rfl, by decide, xw_M, fl_M_92, rfl, ⟨xy_M, xyok_M, xnm_M⟩, rfl, xyok_M 29 (by decide), (fun _ => rfl)⟩, by decide, rfl⟩
theorem fl_M_95 : Cond.fieldLink "TokenBusModel" 95 "TokenBusModel" "notedValue" "[I" ∈ xGW := xGW_in (List.mem_of_getElem? (i := 693) (by decide +kernel)) (by decide +kernel)
theorem fg_M_95 : x_fgR "TokenBusModel" 95 7 30 := ⟨⟨"TokenBusModel", xT_M, rfl, by decide, xw_M, fl_M_95, rfl⟩, by decide, rfl⟩
theorem f_M_95 : x_fR "TokenBusModel" 95 7 30 true (.array (.int)) := ⟨⟨"TokenBusModel", xT_M, rfl, by decide, xw_M, fl_M_95, rfl, ⟨xy_M, xyok_M, xnm_M⟩, rfl, xyok_M 30 (by decide), (fun _ => rfl)⟩, by decide, rfl⟩
theorem fl_M_98 : Cond.fieldLink "TokenBusModel" 98 "TokenBusModel" "notices" "[I" ∈ xGW := xGW_in (List.mem_of_getElem? (i := 694) (by decide +kernel)) (by decide +kernel)
theorem fg_M_98 : x_fgR "TokenBusModel" 98 7 31 := ⟨⟨"TokenBusModel", xT_M, rfl, by decide, xw_M, fl_M_98, rfl⟩, by decide, rfl⟩
theorem f_M_98 : x_fR "TokenBusModel" 98 7 31 true (.array (.int)) := ⟨⟨"TokenBusModel", xT_M, rfl, by decide, xw_M, fl_M_98, rfl, ⟨xy_M, xyok_M, xnm_M⟩, rfl, xyok_M 31 (by decide), (fun _ => rfl)⟩, by decide, rfl⟩
theorem fl_M_107 : Cond.fieldLink "TokenBusModel" 107 "TokenBusModel" "holder" "I" ∈ xGW := xGW_in (List.mem_of_getElem? (i := 695) (by decide +kernel)) (by decide +kernel)
theorem fg_M_107 : x_fgI "TokenBusModel" 107 7 32 := ⟨⟨"TokenBusModel", xT_M, rfl, by decide, xw_M, fl_M_107, rfl⟩, by decide, rfl⟩
theorem f_M_107 : x_fI "TokenBusModel" 107 7 32 false (.int) := ⟨⟨"TokenBusModel", xT_M, rfl, by decide, xw_M, fl_M_107, rfl, ⟨xy_M, xyok_M, xnm_M⟩, rfl, xyok_M 32 (by decide), (fun h => by cases h)⟩, by decide, rfl⟩
theorem fl_M_190 : Cond.fieldLink "TokenBusModel" 190 "TokenBusModel" "phase" "I" ∈ xGW := xGW_in (List.mem_of_getElem? (i := 696) (by decide +kernel)) (by decide +kernel)
theorem fg_M_190 : x_fgI "TokenBusModel" 190 7 33 := ⟨⟨"TokenBusModel", xT_M, rfl, by decide, xw_M, fl_M_190, rfl⟩, by decide, rfl⟩
theorem f_M_190 : x_fI "TokenBusModel" 190 7 33 false (.int) := ⟨⟨"TokenBusModel", xT_M, rfl, by decide, xw_M, fl_M_190, rfl, ⟨xy_M, xyok_M, xnm_M⟩, rfl, xyok_M 33 (by decide), (fun h => by cases h)⟩, by decide, rfl⟩
theorem fl_M_187 : Cond.fieldLink "TokenBusModel" 187 "TokenBusModel" "sent" "I" ∈ xGW := xGW_in (List.mem_of_getElem? (i := 697) (by decide +kernel)) (by decide +kernel)
theorem fg_M_187 : x_fgI "TokenBusModel" 187 7 34 := ⟨⟨"TokenBusModel", xT_M, rfl, by decide, xw_M, fl_M_187, rfl⟩, by decide, rfl⟩
theorem f_M_187 : x_fI "TokenBusModel" 187 7 34 false (.int) := ⟨⟨"TokenBusModel", xT_M, rfl, by decide, xw_M, fl_M_187, rfl, ⟨xy_M, xyok_M, xnm_M⟩, rfl, xyok_M 34 (by decide), (fun h => by cases h)⟩, by decide, rfl⟩
theorem fl_M_208 : Cond.fieldLink "TokenBusModel" 208 "TokenBusModel" "passes" "I" ∈ xGW := xGW_in (List.mem_of_getElem? (i := 698) (by decide +kernel)) (by decide +kernel)
theorem fg_M_208 : x_fgI "TokenBusModel" 208 7 35 := ⟨⟨"TokenBusModel", xT_M, rfl, by decide, xw_M, fl_M_208, rfl⟩, by decide, rfl⟩
theorem f_M_208 : x_fI "TokenBusModel" 208 7 35 false (.int) := ⟨⟨"TokenBusModel", xT_M, rfl, by decide, xw_M, fl_M_208, rfl, ⟨xy_M, xyok_M, xnm_M⟩, rfl, xyok_M 35 (by decide), (fun h => by cases h)⟩, by decide, rfl⟩
theorem fl_M_118 : Cond.fieldLink "TokenBusModel" 118 "TokenBusModel" "silence" "I" ∈ xGW := xGW_in (List.mem_of_getElem? (i := 699) (by decide +kernel)) (by decide +kernel)
theorem fg_M_118 : x_fgI "TokenBusModel" 118 7 36 := ⟨⟨"TokenBusModel", xT_M, rfl, by decide, xw_M, fl_M_118, rfl⟩, by decide, rfl⟩
theorem f_M_118 : x_fI "TokenBusModel" 118 7 36 false (.int) := ⟨⟨"TokenBusModel", xT_M, rfl, by decide, xw_M, fl_M_118, rfl, ⟨xy_M, xyok_M, xnm_M⟩, rfl, xyok_M 36 (by decide), (fun h => by cases h)⟩, by decide, rfl⟩
theorem fl_M_230 : Cond.fieldLink "TokenBusModel" 230 "TokenBusModel" "steps" "I" ∈ xGW := xGW_in (List.mem_of_getElem? (i := 700) (by decide +kernel)) (by decide +kernel)
theorem fg_M_230 : x_fgI "TokenBusModel" 230 7 37 := ⟨⟨"TokenBusModel", xT_M, rfl, by decide, xw_M, fl_M_230, rfl⟩, by decide, rfl⟩
theorem f_M_230 : x_fI "TokenBusModel" 230 7 37 false (.int) := ⟨⟨"TokenBusModel", xT_M, rfl, by decide, xw_M, fl_M_230, rfl, ⟨xy_M, xyok_M, xnm_M⟩, rfl, xyok_M 37 (by decide), (fun h => by cases h)⟩, by decide, rfl⟩
theorem fl_M_245 : Cond.fieldLink "TokenBusModel" 245 "TokenBusModel" "total" "I" ∈ xGW := xGW_in (List.mem_of_getElem? (i := 701) (by decide +kernel)) (by decide +kernel)
theorem fg_M_245 : x_fgI "TokenBusModel" 245 7 38 := ⟨⟨"TokenBusModel", xT_M, rfl, by decide, xw_M, fl_M_245, rfl⟩, by decide, rfl⟩
theorem f_M_245 : x_fI "TokenBusModel" 245 7 38 false (.int) := ⟨⟨"TokenBusModel", xT_M, rfl, by decide, xw_M, fl_M_245, rfl, ⟨xy_M, xyok_M, xnm_M⟩, rfl, xyok_M 38 (by decide), (fun h => by cases h)⟩, by decide, rfl⟩
theorem fl_M_147 : Cond.fieldLink "TokenBusModel" 147 "TokenBusModel" "frames" "I" ∈ xGW := xGW_in (List.mem_of_getElem? (i := 702) (by decide +kernel)) (by decide +kernel)
theorem fg_M_147 : x_fgI "TokenBusModel" 147 7 39 := ⟨⟨"TokenBusModel", xT_M, rfl, by decide, xw_M, fl_M_147, rfl⟩, by decide, rfl⟩
theorem f_M_147 : x_fI "TokenBusModel" 147 7 39 false (.int) := ⟨⟨"TokenBusModel", xT_M, rfl, by decide, xw_M, fl_M_147, rfl, ⟨xy_M, xyok_M, xnm_M⟩, rfl, xyok_M 39 (by decide), (fun h => by cases h)⟩, by decide, rfl⟩
theorem fl_M_101 : Cond.fieldLink "TokenBusModel" 101 "TokenBusModel" "bytes" "[I" ∈ xGW := xGW_in (List.mem_of_getElem? (i := 703) (by decide +kernel)) (by decide +kernel)
theorem fg_M_101 : x_fgR "TokenBusModel" 101 7 40 := ⟨⟨"TokenBusModel", xT_M, rfl, by decide, xw_M, fl_M_101, rfl⟩, by decide, rfl⟩
theorem f_M_101 : x_fR "TokenBusModel" 101 7 40 true (.array (.int)) := ⟨⟨"TokenBusModel", xT_M, rfl, by decide, xw_M, fl_M_101, rfl, ⟨xy_M, xyok_M, xnm_M⟩, rfl, xyok_M 40 (by decide), (fun _ => rfl)⟩, by decide, rfl⟩
theorem fl_M_104 : Cond.fieldLink "TokenBusModel" 104 "TokenBusModel" "length" "[I" ∈ xGW := xGW_in (List.mem_of_getElem? (i := 704) (by decide +kernel)) (by decide +kernel)
theorem fg_M_104 : x_fgR "TokenBusModel" 104 7 41 := ⟨⟨"TokenBusModel", xT_M, rfl, by decide, xw_M, fl_M_104, rfl⟩, by decide, rfl⟩
theorem f_M_104 : x_fR "TokenBusModel" 104 7 41 true (.array (.int)) := ⟨⟨"TokenBusModel", xT_M, rfl, by decide, xw_M, fl_M_104, rfl, ⟨xy_M, xyok_M, xnm_M⟩, rfl, xyok_M 41 (by decide), (fun _ => rfl)⟩, by decide, rfl⟩
theorem fl_M_132 : Cond.fieldLink "TokenBusModel" 132 "TokenBusModel" "spoilWhich" "I" ∈ xGW := xGW_in (List.mem_of_getElem? (i := 705) (by decide +kernel)) (by decide +kernel)
theorem fg_M_132 : x_fgI "TokenBusModel" 132 7 42 := ⟨⟨"TokenBusModel", xT_M, rfl, by decide, xw_M, fl_M_132, rfl⟩, by decide, rfl⟩
theorem f_M_132 : x_fI "TokenBusModel" 132 7 42 false (.int) := ⟨⟨"TokenBusModel", xT_M, rfl, by decide, xw_M, fl_M_132, rfl, ⟨xy_M, xyok_M, xnm_M⟩, rfl, xyok_M 42 (by decide), (fun h => by cases h)⟩, by decide, rfl⟩
theorem fl_M_135 : Cond.fieldLink "TokenBusModel" 135 "TokenBusModel" "spoilAt" "I" ∈ xGW := xGW_in (List.mem_of_getElem? (i := 706) (by decide +kernel)) (by decide +kernel)
theorem fg_M_135 : x_fgI "TokenBusModel" 135 7 43 := ⟨⟨"TokenBusModel", xT_M, rfl, by decide, xw_M, fl_M_135, rfl⟩, by decide, rfl⟩
theorem f_M_135 : x_fI "TokenBusModel" 135 7 43 false (.int) := ⟨⟨"TokenBusModel", xT_M, rfl, by decide, xw_M, fl_M_135, rfl, ⟨xy_M, xyok_M, xnm_M⟩, rfl, xyok_M 43 (by decide), (fun h => by cases h)⟩, by decide, rfl⟩
theorem fl_M_138 : Cond.fieldLink "TokenBusModel" 138 "TokenBusModel" "spoilMask" "I" ∈ xGW := xGW_in (List.mem_of_getElem? (i := 707) (by decide +kernel)) (by decide +kernel)
theorem fg_M_138 : x_fgI "TokenBusModel" 138 7 44 := ⟨⟨"TokenBusModel", xT_M, rfl, by decide, xw_M, fl_M_138, rfl⟩, by decide, rfl⟩
theorem f_M_138 : x_fI "TokenBusModel" 138 7 44 false (.int) := ⟨⟨"TokenBusModel", xT_M, rfl, by decide, xw_M, fl_M_138, rfl, ⟨xy_M, xyok_M, xnm_M⟩, rfl, xyok_M 44 (by decide), (fun h => by cases h)⟩, by decide, rfl⟩
theorem ml_W_9 : Cond.methodLink "TokenBusLaw" 9 ⟨"TokenBus", "<init>", "()V"⟩ ∈ xGW := xGW_in (List.mem_of_getElem? (i := 59) (by decide +kernel)) (by decide +kernel)
theorem ml_B_1 : Cond.methodLink "TokenBus" 1 ⟨"java/lang/Object", "<init>", "()V"⟩ ∈ xGW := xGW_in (List.mem_of_getElem? (i := 62) (by decide +kernel)) (by decide +kernel)
theorem ml_F_5 : Cond.methodLink "TokenBus$Frame" 5 ⟨"java/lang/Object", "<init>", "()V"⟩ ∈ xGW := xGW_in (List.mem_of_getElem? (i := 74) (by decide +kernel)) (by decide +kernel)
theorem ml_B_35 : Cond.methodLink "TokenBus" 35 ⟨"TokenBus$Node", "<init>", "(I)V"⟩ ∈ xGW := xGW_in (List.mem_of_getElem? (i := 90) (by decide +kernel)) (by decide +kernel)
theorem ml_N_3 : Cond.methodLink "TokenBus$Node" 3 ⟨"java/lang/Object", "<init>", "()V"⟩ ∈ xGW := xGW_in (List.mem_of_getElem? (i := 93) (by decide +kernel)) (by decide +kernel)
theorem ml_O_3 : Cond.methodLink "TokenBus$Output" 3 ⟨"java/lang/Object", "<init>", "()V"⟩ ∈ xGW := xGW_in (List.mem_of_getElem? (i := 99) (by decide +kernel)) (by decide +kernel)
theorem ml_L_3 : Cond.methodLink "TokenBus$Loop" 3 ⟨"java/lang/Object", "<init>", "()V"⟩ ∈ xGW := xGW_in (List.mem_of_getElem? (i := 113) (by decide +kernel)) (by decide +kernel)
theorem ml_S_3 : Cond.methodLink "TokenBus$Subscription" 3 ⟨"java/lang/Object", "<init>", "()V"⟩ ∈ xGW := xGW_in (List.mem_of_getElem? (i := 136) (by decide +kernel)) (by decide +kernel)
theorem ml_W_13 : Cond.methodLink "TokenBusLaw" 13 ⟨"TokenBus", "power", "(IZ)Z"⟩ ∈ xGW := xGW_in (List.mem_of_getElem? (i := 257) (by decide +kernel)) (by decide +kernel)
theorem ml_B_38 : Cond.methodLink "TokenBus" 38 ⟨"TokenBus", "isNode", "(I)Z"⟩ ∈ xGW := xGW_in (List.mem_of_getElem? (i := 261) (by decide +kernel)) (by decide +kernel)
theorem ml_B_52 : Cond.methodLink "TokenBus" 52 ⟨"TokenBus", "isWithin", "(III)Z"⟩ ∈ xGW := xGW_in (List.mem_of_getElem? (i := 264) (by decide +kernel)) (by decide +kernel)
theorem ml_B_46 : Cond.methodLink "TokenBus" 46 ⟨"TokenBus$Node", "getPower", "()V"⟩ ∈ xGW := xGW_in (List.mem_of_getElem? (i := 267) (by decide +kernel)) (by decide +kernel)
theorem ml_N_52 : Cond.methodLink "TokenBus$Node" 52 ⟨"TokenBus$Node", "forgetOthers", "()V"⟩ ∈ xGW := xGW_in (List.mem_of_getElem? (i := 271) (by decide +kernel)) (by decide +kernel)
theorem ml_B_49 : Cond.methodLink "TokenBus" 49 ⟨"TokenBus", "loseTokenOf", "(I)V"⟩ ∈ xGW := xGW_in (List.mem_of_getElem? (i := 275) (by decide +kernel)) (by decide +kernel)
theorem ml_W_18 : Cond.methodLink "TokenBusLaw" 18 ⟨"TokenBus", "sense", "(II)Z"⟩ ∈ xGW := xGW_in (List.mem_of_getElem? (i := 279) (by decide +kernel)) (by decide +kernel)
theorem ml_W_23 : Cond.methodLink "TokenBusLaw" 23 ⟨"TokenBus", "gains", "(III)Z"⟩ ∈ xGW := xGW_in (List.mem_of_getElem? (i := 283) (by decide +kernel)) (by decide +kernel)
theorem ml_B_63 : Cond.methodLink "TokenBus" 63 ⟨"TokenBus$Loop", "tune", "(II)V"⟩ ∈ xGW := xGW_in (List.mem_of_getElem? (i := 287) (by decide +kernel)) (by decide +kernel)
theorem ml_W_28 : Cond.methodLink "TokenBusLaw" 28 ⟨"TokenBus", "request", "(IIII)I"⟩ ∈ xGW := xGW_in (List.mem_of_getElem? (i := 291) (by decide +kernel)) (by decide +kernel)
theorem ml_B_75 : Cond.methodLink "TokenBus" 75 ⟨"TokenBus$Request", "<init>", "(IIII)V"⟩ ∈ xGW := xGW_in (List.mem_of_getElem? (i := 296) (by decide +kernel)) (by decide +kernel)
theorem ml_R_3 : Cond.methodLink "TokenBus$Request" 3 ⟨"java/lang/Object", "<init>", "()V"⟩ ∈ xGW := xGW_in (List.mem_of_getElem? (i := 299) (by decide +kernel)) (by decide +kernel)
theorem ml_B_78 : Cond.methodLink "TokenBus" 78 ⟨"TokenBus$Node", "enqueue", "(LTokenBus$Request;)V"⟩ ∈ xGW := xGW_in (List.mem_of_getElem? (i := 348) (by decide +kernel)) (by decide +kernel)
theorem ml_W_33 : Cond.methodLink "TokenBusLaw" 33 ⟨"TokenBus", "spoil", "(III)Z"⟩ ∈ xGW := xGW_in (List.mem_of_getElem? (i := 352) (by decide +kernel)) (by decide +kernel)
theorem ml_B_82 : Cond.methodLink "TokenBus" 82 ⟨"TokenBus", "forgetSpoiling", "()V"⟩ ∈ xGW := xGW_in (List.mem_of_getElem? (i := 356) (by decide +kernel)) (by decide +kernel)
theorem ml_B_173 : Cond.methodLink "TokenBus" 173 ⟨"TokenBus$Frame", "forgetSpoiling", "()V"⟩ ∈ xGW := xGW_in (List.mem_of_getElem? (i := 360) (by decide +kernel)) (by decide +kernel)
theorem ml_B_85 : Cond.methodLink "TokenBus" 85 ⟨"TokenBus", "numbered", "(I)LTokenBus$Frame;"⟩ ∈ xGW := xGW_in (List.mem_of_getElem? (i := 364) (by decide +kernel)) (by decide +kernel)
theorem ml_B_89 : Cond.methodLink "TokenBus" 89 ⟨"TokenBus$Frame", "planSpoiling", "(II)V"⟩ ∈ xGW := xGW_in (List.mem_of_getElem? (i := 368) (by decide +kernel)) (by decide +kernel)
theorem ml_W_37 : Cond.methodLink "TokenBusLaw" 37 ⟨"TokenBus", "step", "()I"⟩ ∈ xGW := xGW_in (List.mem_of_getElem? (i := 372) (by decide +kernel)) (by decide +kernel)
theorem ml_B_92 : Cond.methodLink "TokenBus" 92 ⟨"TokenBus", "beginStep", "()V"⟩ ∈ xGW := xGW_in (List.mem_of_getElem? (i := 376) (by decide +kernel)) (by decide +kernel)
theorem ml_B_174 : Cond.methodLink "TokenBus" 174 ⟨"TokenBus$Frame", "empty", "()V"⟩ ∈ xGW := xGW_in (List.mem_of_getElem? (i := 380) (by decide +kernel)) (by decide +kernel)
theorem ml_B_95 : Cond.methodLink "TokenBus" 95 ⟨"TokenBus", "waitInSilence", "()V"⟩ ∈ xGW := xGW_in (List.mem_of_getElem? (i := 384) (by decide +kernel)) (by decide +kernel)
theorem ml_B_183 : Cond.methodLink "TokenBus" 183 ⟨"TokenBus", "leastPowered", "()I"⟩ ∈ xGW := xGW_in (List.mem_of_getElem? (i := 388) (by decide +kernel)) (by decide +kernel)
theorem ml_B_187 : Cond.methodLink "TokenBus" 187 ⟨"TokenBus$Node", "forgetOthers", "()V"⟩ ∈ xGW := xGW_in (List.mem_of_getElem? (i := 392) (by decide +kernel)) (by decide +kernel)
theorem ml_B_101 : Cond.methodLink "TokenBus" 101 ⟨"TokenBus", "search", "(LTokenBus$Node;)V"⟩ ∈ xGW := xGW_in (List.mem_of_getElem? (i := 393) (by decide +kernel)) (by decide +kernel)
theorem ml_B_223 : Cond.methodLink "TokenBus" 223 ⟨"TokenBus", "behind", "(I)I"⟩ ∈ xGW := xGW_in (List.mem_of_getElem? (i := 397) (by decide +kernel)) (by decide +kernel)
theorem ml_B_230 : Cond.methodLink "TokenBus" 230 ⟨"TokenBus", "enterUse", "()V"⟩ ∈ xGW := xGW_in (List.mem_of_getElem? (i := 400) (by decide +kernel)) (by decide +kernel)
theorem ml_B_226 : Cond.methodLink "TokenBus" 226 ⟨"TokenBus", "askToJoin", "(LTokenBus$Node;I)V"⟩ ∈ xGW := xGW_in (List.mem_of_getElem? (i := 404) (by decide +kernel)) (by decide +kernel)
theorem ml_B_233 : Cond.methodLink "TokenBus" 233 ⟨"TokenBus$Frame", "writeHeader", "(IIII)V"⟩ ∈ xGW := xGW_in (List.mem_of_getElem? (i := 408) (by decide +kernel)) (by decide +kernel)
theorem ml_F_25 : Cond.methodLink "TokenBus$Frame" 25 ⟨"TokenBus$Frame", "headerCheck", "()I"⟩ ∈ xGW := xGW_in (List.mem_of_getElem? (i := 412) (by decide +kernel)) (by decide +kernel)
theorem ml_F_32 : Cond.methodLink "TokenBus$Frame" 32 ⟨"TokenBus$Frame", "checkOf", "(IIII)I"⟩ ∈ xGW := xGW_in (List.mem_of_getElem? (i := 416) (by decide +kernel)) (by decide +kernel)
theorem ml_B_236 : Cond.methodLink "TokenBus" 236 ⟨"TokenBus", "arrives", "(LTokenBus$Frame;)Z"⟩ ∈ xGW := xGW_in (List.mem_of_getElem? (i := 420) (by decide +kernel)) (by decide +kernel)
theorem ml_B_301 : Cond.methodLink "TokenBus" 301 ⟨"TokenBus$Frame", "spoilAsPlanned", "()V"⟩ ∈ xGW := xGW_in (List.mem_of_getElem? (i := 424) (by decide +kernel)) (by decide +kernel)
theorem ml_B_304 : Cond.methodLink "TokenBus" 304 ⟨"TokenBus$Frame", "destination", "()I"⟩ ∈ xGW := xGW_in (List.mem_of_getElem? (i := 428) (by decide +kernel)) (by decide +kernel)
theorem ml_B_307 : Cond.methodLink "TokenBus" 307 ⟨"TokenBus$Frame", "isRight", "()Z"⟩ ∈ xGW := xGW_in (List.mem_of_getElem? (i := 432) (by decide +kernel)) (by decide +kernel)
theorem ml_F_29 : Cond.methodLink "TokenBus$Frame" 29 ⟨"TokenBus$Frame", "dataCheck", "()I"⟩ ∈ xGW := xGW_in (List.mem_of_getElem? (i := 436) (by decide +kernel)) (by decide +kernel)
theorem ml_B_217 : Cond.methodLink "TokenBus" 217 ⟨"TokenBus", "enterPass", "()V"⟩ ∈ xGW := xGW_in (List.mem_of_getElem? (i := 442) (by decide +kernel)) (by decide +kernel)
theorem ml_B_105 : Cond.methodLink "TokenBus" 105 ⟨"TokenBus", "use", "(LTokenBus$Node;)Z"⟩ ∈ xGW := xGW_in (List.mem_of_getElem? (i := 446) (by decide +kernel)) (by decide +kernel)
theorem ml_B_190 : Cond.methodLink "TokenBus" 190 ⟨"TokenBus$Node", "firstDue", "()LTokenBus$Subscription;"⟩ ∈ xGW := xGW_in (List.mem_of_getElem? (i := 450) (by decide +kernel)) (by decide +kernel)
theorem ml_B_197 : Cond.methodLink "TokenBus" 197 ⟨"TokenBus", "sendNotice", "(LTokenBus$Node;LTokenBus$Subscription;)V"⟩ ∈ xGW := xGW_in (List.mem_of_getElem? (i := 454) (by decide +kernel)) (by decide +kernel)
theorem ml_B_125 : Cond.methodLink "TokenBus" 125 ⟨"TokenBus$Node", "objectValue", "(I)I"⟩ ∈ xGW := xGW_in (List.mem_of_getElem? (i := 458) (by decide +kernel)) (by decide +kernel)
theorem ml_N_73 : Cond.methodLink "TokenBus$Node" 73 ⟨"TokenBus$Output", "current", "()I"⟩ ∈ xGW := xGW_in (List.mem_of_getElem? (i := 462) (by decide +kernel)) (by decide +kernel)
theorem ml_B_251 : Cond.methodLink "TokenBus" 251 ⟨"TokenBus$Subscription", "renew", "(I)V"⟩ ∈ xGW := xGW_in (List.mem_of_getElem? (i := 466) (by decide +kernel)) (by decide +kernel)
theorem ml_B_257 : Cond.methodLink "TokenBus" 257 ⟨"TokenBus$Frame", "writeData", "(IIIII)V"⟩ ∈ xGW := xGW_in (List.mem_of_getElem? (i := 470) (by decide +kernel)) (by decide +kernel)
theorem ml_B_261 : Cond.methodLink "TokenBus" 261 ⟨"TokenBus$Node", "note", "(III)V"⟩ ∈ xGW := xGW_in (List.mem_of_getElem? (i := 474) (by decide +kernel)) (by decide +kernel)
theorem ml_B_204 : Cond.methodLink "TokenBus" 204 ⟨"TokenBus", "sendRequest", "(LTokenBus$Node;LTokenBus$Request;)V"⟩ ∈ xGW := xGW_in (List.mem_of_getElem? (i := 478) (by decide +kernel)) (by decide +kernel)
theorem ml_B_265 : Cond.methodLink "TokenBus" 265 ⟨"TokenBus", "writeAsk", "(LTokenBus$Node;LTokenBus$Request;)V"⟩ ∈ xGW := xGW_in (List.mem_of_getElem? (i := 482) (by decide +kernel)) (by decide +kernel)
theorem ml_B_274 : Cond.methodLink "TokenBus" 274 ⟨"TokenBus$Node", "carryOut", "(LTokenBus$Request;I)V"⟩ ∈ xGW := xGW_in (List.mem_of_getElem? (i := 486) (by decide +kernel)) (by decide +kernel)
theorem ml_N_90 : Cond.methodLink "TokenBus$Node" 90 ⟨"TokenBus$Node", "objectValue", "(I)I"⟩ ∈ xGW := xGW_in (List.mem_of_getElem? (i := 491) (by decide +kernel)) (by decide +kernel)
theorem ml_N_94 : Cond.methodLink "TokenBus$Node" 94 ⟨"TokenBus$Request", "settle", "(ZI)V"⟩ ∈ xGW := xGW_in (List.mem_of_getElem? (i := 492) (by decide +kernel)) (by decide +kernel)
theorem ml_N_98 : Cond.methodLink "TokenBus$Node" 98 ⟨"TokenBus$Node", "write", "(LTokenBus$Request;)Z"⟩ ∈ xGW := xGW_in (List.mem_of_getElem? (i := 496) (by decide +kernel)) (by decide +kernel)
theorem ml_N_114 : Cond.methodLink "TokenBus$Node" 114 ⟨"TokenBus$Output", "fill", "(II)Z"⟩ ∈ xGW := xGW_in (List.mem_of_getElem? (i := 500) (by decide +kernel)) (by decide +kernel)
theorem ml_N_117 : Cond.methodLink "TokenBus$Node" 117 ⟨"TokenBus$Loop", "aim", "(I)Z"⟩ ∈ xGW := xGW_in (List.mem_of_getElem? (i := 505) (by decide +kernel)) (by decide +kernel)
theorem ml_N_106 : Cond.methodLink "TokenBus$Node" 106 ⟨"TokenBus$Output", "release", "(I)Z"⟩ ∈ xGW := xGW_in (List.mem_of_getElem? (i := 510) (by decide +kernel)) (by decide +kernel)
theorem ml_N_110 : Cond.methodLink "TokenBus$Node" 110 ⟨"TokenBus$Node", "subscribe", "(II)Z"⟩ ∈ xGW := xGW_in (List.mem_of_getElem? (i := 514) (by decide +kernel)) (by decide +kernel)
theorem ml_N_124 : Cond.methodLink "TokenBus$Node" 124 ⟨"TokenBus$Subscription", "renew", "(I)V"⟩ ∈ xGW := xGW_in (List.mem_of_getElem? (i := 518) (by decide +kernel)) (by decide +kernel)
theorem ml_N_128 : Cond.methodLink "TokenBus$Node" 128 ⟨"TokenBus$Subscription", "begin", "(III)V"⟩ ∈ xGW := xGW_in (List.mem_of_getElem? (i := 519) (by decide +kernel)) (by decide +kernel)
theorem ml_S_18 : Cond.methodLink "TokenBus$Subscription" 18 ⟨"TokenBus$Subscription", "renew", "(I)V"⟩ ∈ xGW := xGW_in (List.mem_of_getElem? (i := 523) (by decide +kernel)) (by decide +kernel)
theorem ml_B_278 : Cond.methodLink "TokenBus" 278 ⟨"TokenBus", "writeAnswer", "(LTokenBus$Node;LTokenBus$Request;)V"⟩ ∈ xGW := xGW_in (List.mem_of_getElem? (i := 524) (by decide +kernel)) (by decide +kernel)
theorem ml_B_284 : Cond.methodLink "TokenBus" 284 ⟨"TokenBus$Request", "countTry", "()V"⟩ ∈ xGW := xGW_in (List.mem_of_getElem? (i := 528) (by decide +kernel)) (by decide +kernel)
theorem ml_B_287 : Cond.methodLink "TokenBus" 287 ⟨"TokenBus$Node", "dequeue", "()V"⟩ ∈ xGW := xGW_in (List.mem_of_getElem? (i := 532) (by decide +kernel)) (by decide +kernel)
theorem ml_B_109 : Cond.methodLink "TokenBus" 109 ⟨"TokenBus", "poll", "(LTokenBus$Node;)Z"⟩ ∈ xGW := xGW_in (List.mem_of_getElem? (i := 536) (by decide +kernel)) (by decide +kernel)
theorem ml_B_112 : Cond.methodLink "TokenBus" 112 ⟨"TokenBus", "pass", "(LTokenBus$Node;)V"⟩ ∈ xGW := xGW_in (List.mem_of_getElem? (i := 540) (by decide +kernel)) (by decide +kernel)
theorem ml_B_240 : Cond.methodLink "TokenBus" 240 ⟨"TokenBus$Node", "getToken", "()V"⟩ ∈ xGW := xGW_in (List.mem_of_getElem? (i := 544) (by decide +kernel)) (by decide +kernel)
theorem ml_B_115 : Cond.methodLink "TokenBus" 115 ⟨"TokenBus", "endStep", "()V"⟩ ∈ xGW := xGW_in (List.mem_of_getElem? (i := 548) (by decide +kernel)) (by decide +kernel)
theorem ml_B_177 : Cond.methodLink "TokenBus" 177 ⟨"TokenBus$Node", "runLoop", "()V"⟩ ∈ xGW := xGW_in (List.mem_of_getElem? (i := 552) (by decide +kernel)) (by decide +kernel)
theorem ml_N_147 : Cond.methodLink "TokenBus$Node" 147 ⟨"TokenBus$Loop", "isOff", "()Z"⟩ ∈ xGW := xGW_in (List.mem_of_getElem? (i := 556) (by decide +kernel)) (by decide +kernel)
theorem ml_N_151 : Cond.methodLink "TokenBus$Node" 151 ⟨"TokenBus$Loop", "control", "(I)I"⟩ ∈ xGW := xGW_in (List.mem_of_getElem? (i := 560) (by decide +kernel)) (by decide +kernel)
theorem ml_B_164 : Cond.methodLink "TokenBus" 164 ⟨"java/lang/Math", "min", "(II)I"⟩ ∈ xGW := xGW_in (List.mem_of_getElem? (i := 567) (by decide +kernel)) (by decide +kernel)
theorem ml_B_170 : Cond.methodLink "TokenBus" 170 ⟨"java/lang/Math", "max", "(II)I"⟩ ∈ xGW := xGW_in (List.mem_of_getElem? (i := 570) (by decide +kernel)) (by decide +kernel)
theorem ml_L_32 : Cond.methodLink "TokenBus$Loop" 32 ⟨"java/lang/Math", "floorDiv", "(II)I"⟩ ∈ xGW := xGW_in (List.mem_of_getElem? (i := 573) (by decide +kernel)) (by decide +kernel)
theorem ml_B_180 : Cond.methodLink "TokenBus" 180 ⟨"TokenBus$Node", "findDue", "()V"⟩ ∈ xGW := xGW_in (List.mem_of_getElem? (i := 576) (by decide +kernel)) (by decide +kernel)
theorem ml_N_154 : Cond.methodLink "TokenBus$Node" 154 ⟨"TokenBus$Subscription", "compare", "(I)V"⟩ ∈ xGW := xGW_in (List.mem_of_getElem? (i := 580) (by decide +kernel)) (by decide +kernel)
theorem ml_S_29 : Cond.methodLink "TokenBus$Subscription" 29 ⟨"java/lang/Math", "abs", "(J)J"⟩ ∈ xGW := xGW_in (List.mem_of_getElem? (i := 584) (by decide +kernel)) (by decide +kernel)
theorem ml_W_42 : Cond.methodLink "TokenBusLaw" 42 ⟨"TokenBus", "holder", "()I"⟩ ∈ xGW := xGW_in (List.mem_of_getElem? (i := 588) (by decide +kernel)) (by decide +kernel)
theorem ml_W_46 : Cond.methodLink "TokenBusLaw" 46 ⟨"TokenBus", "phase", "()I"⟩ ∈ xGW := xGW_in (List.mem_of_getElem? (i := 592) (by decide +kernel)) (by decide +kernel)
theorem ml_W_50 : Cond.methodLink "TokenBusLaw" 50 ⟨"TokenBus", "node", "(II)I"⟩ ∈ xGW := xGW_in (List.mem_of_getElem? (i := 596) (by decide +kernel)) (by decide +kernel)
theorem ml_B_121 : Cond.methodLink "TokenBus" 121 ⟨"TokenBus$Node", "fact", "(I)I"⟩ ∈ xGW := xGW_in (List.mem_of_getElem? (i := 600) (by decide +kernel)) (by decide +kernel)
theorem ml_W_55 : Cond.methodLink "TokenBusLaw" 55 ⟨"TokenBus", "value", "(II)I"⟩ ∈ xGW := xGW_in (List.mem_of_getElem? (i := 604) (by decide +kernel)) (by decide +kernel)
theorem ml_W_59 : Cond.methodLink "TokenBusLaw" 59 ⟨"TokenBus", "level", "(II)I"⟩ ∈ xGW := xGW_in (List.mem_of_getElem? (i := 608) (by decide +kernel)) (by decide +kernel)
theorem ml_B_132 : Cond.methodLink "TokenBus" 132 ⟨"TokenBus$Output", "numberAt", "(I)I"⟩ ∈ xGW := xGW_in (List.mem_of_getElem? (i := 612) (by decide +kernel)) (by decide +kernel)
theorem ml_O_23 : Cond.methodLink "TokenBus$Output" 23 ⟨"TokenBus$Output", "isFilled", "(I)Z"⟩ ∈ xGW := xGW_in (List.mem_of_getElem? (i := 616) (by decide +kernel)) (by decide +kernel)
theorem ml_W_63 : Cond.methodLink "TokenBusLaw" 63 ⟨"TokenBus", "set", "(II)Z"⟩ ∈ xGW := xGW_in (List.mem_of_getElem? (i := 620) (by decide +kernel)) (by decide +kernel)
theorem ml_B_137 : Cond.methodLink "TokenBus" 137 ⟨"TokenBus$Output", "isFilled", "(I)Z"⟩ ∈ xGW := xGW_in (List.mem_of_getElem? (i := 624) (by decide +kernel)) (by decide +kernel)
theorem ml_W_67 : Cond.methodLink "TokenBusLaw" 67 ⟨"TokenBus", "state", "(I)I"⟩ ∈ xGW := xGW_in (List.mem_of_getElem? (i := 625) (by decide +kernel)) (by decide +kernel)
theorem ml_B_140 : Cond.methodLink "TokenBus" 140 ⟨"TokenBus", "isRequest", "(I)Z"⟩ ∈ xGW := xGW_in (List.mem_of_getElem? (i := 629) (by decide +kernel)) (by decide +kernel)
theorem ml_W_72 : Cond.methodLink "TokenBusLaw" 72 ⟨"TokenBus", "answer", "(I)I"⟩ ∈ xGW := xGW_in (List.mem_of_getElem? (i := 633) (by decide +kernel)) (by decide +kernel)
theorem ml_W_76 : Cond.methodLink "TokenBusLaw" 76 ⟨"TokenBus", "noted", "(II)I"⟩ ∈ xGW := xGW_in (List.mem_of_getElem? (i := 637) (by decide +kernel)) (by decide +kernel)
theorem ml_B_149 : Cond.methodLink "TokenBus" 149 ⟨"TokenBus$Node", "notedFact", "(I)I"⟩ ∈ xGW := xGW_in (List.mem_of_getElem? (i := 641) (by decide +kernel)) (by decide +kernel)
theorem ml_W_80 : Cond.methodLink "TokenBusLaw" 80 ⟨"TokenBus", "frame", "(II)I"⟩ ∈ xGW := xGW_in (List.mem_of_getElem? (i := 645) (by decide +kernel)) (by decide +kernel)
theorem ml_B_152 : Cond.methodLink "TokenBus" 152 ⟨"TokenBus$Frame", "byteOrSize", "(I)I"⟩ ∈ xGW := xGW_in (List.mem_of_getElem? (i := 649) (by decide +kernel)) (by decide +kernel)
theorem ml_W_84 : Cond.methodLink "TokenBusLaw" 84 ⟨"TokenBus", "total", "(I)I"⟩ ∈ xGW := xGW_in (List.mem_of_getElem? (i := 653) (by decide +kernel)) (by decide +kernel)
theorem ml_W_12 : Cond.methodLink "TokenBusLaw" 12 ⟨"TokenBusModel", "<init>", "()V"⟩ ∈ xGW := xGW_in (List.mem_of_getElem? (i := 659) (by decide +kernel)) (by decide +kernel)
theorem ml_M_1 : Cond.methodLink "TokenBusModel" 1 ⟨"java/lang/Object", "<init>", "()V"⟩ ∈ xGW := xGW_in (List.mem_of_getElem? (i := 662) (by decide +kernel)) (by decide +kernel)
theorem ml_W_17 : Cond.methodLink "TokenBusLaw" 17 ⟨"TokenBusModel", "power", "(IZ)Z"⟩ ∈ xGW := xGW_in (List.mem_of_getElem? (i := 799) (by decide +kernel)) (by decide +kernel)
theorem ml_M_111 : Cond.methodLink "TokenBusModel" 111 ⟨"TokenBusModel", "isNode", "(I)Z"⟩ ∈ xGW := xGW_in (List.mem_of_getElem? (i := 803) (by decide +kernel)) (by decide +kernel)
theorem ml_W_22 : Cond.methodLink "TokenBusLaw" 22 ⟨"TokenBusModel", "sense", "(II)Z"⟩ ∈ xGW := xGW_in (List.mem_of_getElem? (i := 806) (by decide +kernel)) (by decide +kernel)
theorem ml_M_121 : Cond.methodLink "TokenBusModel" 121 ⟨"TokenBusModel", "outside", "(III)Z"⟩ ∈ xGW := xGW_in (List.mem_of_getElem? (i := 810) (by decide +kernel)) (by decide +kernel)
theorem ml_W_27 : Cond.methodLink "TokenBusLaw" 27 ⟨"TokenBusModel", "gains", "(III)Z"⟩ ∈ xGW := xGW_in (List.mem_of_getElem? (i := 813) (by decide +kernel)) (by decide +kernel)
theorem ml_W_32 : Cond.methodLink "TokenBusLaw" 32 ⟨"TokenBusModel", "request", "(IIII)I"⟩ ∈ xGW := xGW_in (List.mem_of_getElem? (i := 817) (by decide +kernel)) (by decide +kernel)
theorem ml_M_128 : Cond.methodLink "TokenBusModel" 128 ⟨"TokenBusModel", "waiting", "(I)I"⟩ ∈ xGW := xGW_in (List.mem_of_getElem? (i := 821) (by decide +kernel)) (by decide +kernel)
theorem ml_W_36 : Cond.methodLink "TokenBusLaw" 36 ⟨"TokenBusModel", "spoil", "(III)Z"⟩ ∈ xGW := xGW_in (List.mem_of_getElem? (i := 825) (by decide +kernel)) (by decide +kernel)
theorem ml_W_58 : Cond.methodLink "TokenBusLaw" 58 ⟨"TokenBusModel", "value", "(II)I"⟩ ∈ xGW := xGW_in (List.mem_of_getElem? (i := 829) (by decide +kernel)) (by decide +kernel)
theorem ml_M_156 : Cond.methodLink "TokenBusModel" 156 ⟨"TokenBusModel", "outputOf", "(I)I"⟩ ∈ xGW := xGW_in (List.mem_of_getElem? (i := 833) (by decide +kernel)) (by decide +kernel)
theorem ml_W_41 : Cond.methodLink "TokenBusLaw" 41 ⟨"TokenBusModel", "step", "()I"⟩ ∈ xGW := xGW_in (List.mem_of_getElem? (i := 837) (by decide +kernel)) (by decide +kernel)
theorem ml_M_233 : Cond.methodLink "TokenBusModel" 233 ⟨"TokenBusModel", "listen", "()V"⟩ ∈ xGW := xGW_in (List.mem_of_getElem? (i := 841) (by decide +kernel)) (by decide +kernel)
theorem ml_M_236 : Cond.methodLink "TokenBusModel" 236 ⟨"TokenBusModel", "use", "()V"⟩ ∈ xGW := xGW_in (List.mem_of_getElem? (i := 845) (by decide +kernel)) (by decide +kernel)
theorem ml_M_181 : Cond.methodLink "TokenBusModel" 181 ⟨"TokenBusModel", "dueOf", "(I)I"⟩ ∈ xGW := xGW_in (List.mem_of_getElem? (i := 849) (by decide +kernel)) (by decide +kernel)
theorem ml_M_184 : Cond.methodLink "TokenBusModel" 184 ⟨"TokenBusModel", "firstOf", "(I)I"⟩ ∈ xGW := xGW_in (List.mem_of_getElem? (i := 853) (by decide +kernel)) (by decide +kernel)
theorem ml_M_193 : Cond.methodLink "TokenBusModel" 193 ⟨"TokenBusModel", "poll", "()V"⟩ ∈ xGW := xGW_in (List.mem_of_getElem? (i := 857) (by decide +kernel)) (by decide +kernel)
theorem ml_M_211 : Cond.methodLink "TokenBusModel" 211 ⟨"TokenBusModel", "behind", "(I)I"⟩ ∈ xGW := xGW_in (List.mem_of_getElem? (i := 861) (by decide +kernel)) (by decide +kernel)
theorem ml_M_196 : Cond.methodLink "TokenBusModel" 196 ⟨"TokenBusModel", "toPass", "()V"⟩ ∈ xGW := xGW_in (List.mem_of_getElem? (i := 864) (by decide +kernel)) (by decide +kernel)
theorem ml_M_199 : Cond.methodLink "TokenBusModel" 199 ⟨"TokenBusModel", "pass", "()V"⟩ ∈ xGW := xGW_in (List.mem_of_getElem? (i := 868) (by decide +kernel)) (by decide +kernel)
theorem ml_M_173 : Cond.methodLink "TokenBusModel" 173 ⟨"TokenBusModel", "carry", "(IIIZ)Z"⟩ ∈ xGW := xGW_in (List.mem_of_getElem? (i := 872) (by decide +kernel)) (by decide +kernel)
theorem ml_M_150 : Cond.methodLink "TokenBusModel" 150 ⟨"TokenBusModel", "headCheck", "(I)I"⟩ ∈ xGW := xGW_in (List.mem_of_getElem? (i := 876) (by decide +kernel)) (by decide +kernel)
theorem ml_M_141 : Cond.methodLink "TokenBusModel" 141 ⟨"TokenBusModel", "grown", "(III)I"⟩ ∈ xGW := xGW_in (List.mem_of_getElem? (i := 880) (by decide +kernel)) (by decide +kernel)
theorem ml_M_153 : Cond.methodLink "TokenBusModel" 153 ⟨"TokenBusModel", "dataCheck", "(I)I"⟩ ∈ xGW := xGW_in (List.mem_of_getElem? (i := 883) (by decide +kernel)) (by decide +kernel)
theorem ml_M_217 : Cond.methodLink "TokenBusModel" 217 ⟨"TokenBusModel", "toUse", "()V"⟩ ∈ xGW := xGW_in (List.mem_of_getElem? (i := 889) (by decide +kernel)) (by decide +kernel)
theorem ml_M_214 : Cond.methodLink "TokenBusModel" 214 ⟨"TokenBusModel", "join", "(I)V"⟩ ∈ xGW := xGW_in (List.mem_of_getElem? (i := 893) (by decide +kernel)) (by decide +kernel)
theorem ml_M_202 : Cond.methodLink "TokenBusModel" 202 ⟨"TokenBusModel", "tell", "(I)V"⟩ ∈ xGW := xGW_in (List.mem_of_getElem? (i := 897) (by decide +kernel)) (by decide +kernel)
theorem ml_M_162 : Cond.methodLink "TokenBusModel" 162 ⟨"TokenBusModel", "value", "(II)I"⟩ ∈ xGW := xGW_in (List.mem_of_getElem? (i := 901) (by decide +kernel)) (by decide +kernel)
theorem ml_M_169 : Cond.methodLink "TokenBusModel" 169 ⟨"TokenBusModel", "lay", "(IIIII)V"⟩ ∈ xGW := xGW_in (List.mem_of_getElem? (i := 902) (by decide +kernel)) (by decide +kernel)
theorem ml_M_205 : Cond.methodLink "TokenBusModel" 205 ⟨"TokenBusModel", "ask", "(I)V"⟩ ∈ xGW := xGW_in (List.mem_of_getElem? (i := 906) (by decide +kernel)) (by decide +kernel)
theorem ml_M_177 : Cond.methodLink "TokenBusModel" 177 ⟨"TokenBusModel", "work", "(I)V"⟩ ∈ xGW := xGW_in (List.mem_of_getElem? (i := 910) (by decide +kernel)) (by decide +kernel)
theorem ml_M_166 : Cond.methodLink "TokenBusModel" 166 ⟨"TokenBusModel", "subscribe", "(III)Z"⟩ ∈ xGW := xGW_in (List.mem_of_getElem? (i := 914) (by decide +kernel)) (by decide +kernel)
theorem ml_M_159 : Cond.methodLink "TokenBusModel" 159 ⟨"TokenBusModel", "subscriptionsOf", "(I)I"⟩ ∈ xGW := xGW_in (List.mem_of_getElem? (i := 918) (by decide +kernel)) (by decide +kernel)
theorem ml_M_239 : Cond.methodLink "TokenBusModel" 239 ⟨"TokenBusModel", "search", "()V"⟩ ∈ xGW := xGW_in (List.mem_of_getElem? (i := 922) (by decide +kernel)) (by decide +kernel)
theorem ml_M_242 : Cond.methodLink "TokenBusModel" 242 ⟨"TokenBusModel", "settle", "()V"⟩ ∈ xGW := xGW_in (List.mem_of_getElem? (i := 926) (by decide +kernel)) (by decide +kernel)
theorem ml_M_220 : Cond.methodLink "TokenBusModel" 220 ⟨"TokenBusModel", "held", "(II)I"⟩ ∈ xGW := xGW_in (List.mem_of_getElem? (i := 930) (by decide +kernel)) (by decide +kernel)
theorem ml_M_223 : Cond.methodLink "TokenBusModel" 223 ⟨"TokenBusModel", "quotient", "(II)I"⟩ ∈ xGW := xGW_in (List.mem_of_getElem? (i := 933) (by decide +kernel)) (by decide +kernel)
theorem ml_W_45 : Cond.methodLink "TokenBusLaw" 45 ⟨"TokenBusModel", "holder", "()I"⟩ ∈ xGW := xGW_in (List.mem_of_getElem? (i := 938) (by decide +kernel)) (by decide +kernel)
theorem ml_W_49 : Cond.methodLink "TokenBusLaw" 49 ⟨"TokenBusModel", "phase", "()I"⟩ ∈ xGW := xGW_in (List.mem_of_getElem? (i := 942) (by decide +kernel)) (by decide +kernel)
theorem ml_W_54 : Cond.methodLink "TokenBusLaw" 54 ⟨"TokenBusModel", "node", "(II)I"⟩ ∈ xGW := xGW_in (List.mem_of_getElem? (i := 946) (by decide +kernel)) (by decide +kernel)
theorem ml_W_62 : Cond.methodLink "TokenBusLaw" 62 ⟨"TokenBusModel", "level", "(II)I"⟩ ∈ xGW := xGW_in (List.mem_of_getElem? (i := 950) (by decide +kernel)) (by decide +kernel)
theorem ml_M_248 : Cond.methodLink "TokenBusModel" 248 ⟨"TokenBusModel", "set", "(II)Z"⟩ ∈ xGW := xGW_in (List.mem_of_getElem? (i := 954) (by decide +kernel)) (by decide +kernel)
theorem ml_W_66 : Cond.methodLink "TokenBusLaw" 66 ⟨"TokenBusModel", "set", "(II)Z"⟩ ∈ xGW := xGW_in (List.mem_of_getElem? (i := 958) (by decide +kernel)) (by decide +kernel)
theorem ml_W_71 : Cond.methodLink "TokenBusLaw" 71 ⟨"TokenBusModel", "state", "(I)I"⟩ ∈ xGW := xGW_in (List.mem_of_getElem? (i := 959) (by decide +kernel)) (by decide +kernel)
theorem ml_W_75 : Cond.methodLink "TokenBusLaw" 75 ⟨"TokenBusModel", "answer", "(I)I"⟩ ∈ xGW := xGW_in (List.mem_of_getElem? (i := 963) (by decide +kernel)) (by decide +kernel)
theorem ml_W_79 : Cond.methodLink "TokenBusLaw" 79 ⟨"TokenBusModel", "noted", "(II)I"⟩ ∈ xGW := xGW_in (List.mem_of_getElem? (i := 967) (by decide +kernel)) (by decide +kernel)
theorem ml_W_83 : Cond.methodLink "TokenBusLaw" 83 ⟨"TokenBusModel", "frame", "(II)I"⟩ ∈ xGW := xGW_in (List.mem_of_getElem? (i := 971) (by decide +kernel)) (by decide +kernel)
theorem ml_W_87 : Cond.methodLink "TokenBusLaw" 87 ⟨"TokenBusModel", "total", "(I)I"⟩ ∈ xGW := xGW_in (List.mem_of_getElem? (i := 975) (by decide +kernel)) (by decide +kernel)
theorem im_B_init : Cond.instanceMethod ⟨"TokenBus", "<init>", "()V"⟩ ∈ xGW := xGW_in (List.mem_of_getElem? (i := 60) (by decide +kernel)) (by decide +kernel)
theorem co_B_init : Cond.code ⟨"TokenBus", "<init>", "()V"⟩ prog_1_method_1_code 2 none ∈ xGW := xGW_in (List.mem_of_getElem? (i := 61) (by decide +kernel)) (by decide +kernel)
theorem nm_B_init : ("TokenBus" ≠ "java/lang/invoke/MethodHandle" ∧ "TokenBus" ≠ "java/lang/invoke/VarHandle" ∧ (parseMethodDescriptor "()V").map (fun d => d.parameters.length) = some 0) ∧ plainFor ⟨"TokenBus", "<init>", "()V"⟩ = true := ⟨by decide +kernel, plainFor_of_name (by decide +kernel)⟩
theorem im_B_power : Cond.instanceMethod ⟨"TokenBus", "power", "(IZ)Z"⟩ ∈ xGW := xGW_in (List.mem_of_getElem? (i := 258) (by decide +kernel)) (by decide +kernel)
theorem se_B_power : Cond.selects "TokenBus" ⟨"TokenBus", "power", "(IZ)Z"⟩ ⟨"TokenBus", "power", "(IZ)Z"⟩ ∈ xGW := xGW_in (List.mem_of_getElem? (i := 259) (by decide +kernel)) (by decide +kernel)
theorem co_B_power : Cond.code ⟨"TokenBus", "power", "(IZ)Z"⟩ prog_1_method_2_code 3 (some .boolean) ∈ xGW := xGW_in (List.mem_of_getElem? (i := 260) (by decide +kernel)) (by decide +kernel)
theorem nm_B_power : ("TokenBus" ≠ "java/lang/invoke/MethodHandle" ∧ "TokenBus" ≠ "java/lang/invoke/VarHandle" ∧ (parseMethodDescriptor "(IZ)Z").map (fun d => d.parameters.length) = some 2) ∧ plainFor ⟨"TokenBus", "power", "(IZ)Z"⟩ = true := ⟨by decide +kernel, plainFor_of_name (by decide +kernel)⟩
theorem im_B_sense : Cond.instanceMethod ⟨"TokenBus", "sense", "(II)Z"⟩ ∈ xGW := xGW_in (List.mem_of_getElem? (i := 280) (by decide +kernel)) (by decide +kernel)
theorem se_B_sense : Cond.selects "TokenBus" ⟨"TokenBus", "sense", "(II)Z"⟩ ⟨"TokenBus", "sense", "(II)Z"⟩ ∈ xGW := xGW_in (List.mem_of_getElem? (i := 281) (by decide +kernel)) (by decide +kernel)
theorem co_B_sense : Cond.code ⟨"TokenBus", "sense", "(II)Z"⟩ prog_1_method_3_code 3 (some .boolean) ∈ xGW := xGW_in (List.mem_of_getElem? (i := 282) (by decide +kernel)) (by decide +kernel)
theorem nm_B_sense : ("TokenBus" ≠ "java/lang/invoke/MethodHandle" ∧ "TokenBus" ≠ "java/lang/invoke/VarHandle" ∧ (parseMethodDescriptor "(II)Z").map (fun d => d.parameters.length) = some 2) ∧ plainFor ⟨"TokenBus", "sense", "(II)Z"⟩ = true := ⟨by decide +kernel, plainFor_of_name (by decide +kernel)⟩
theorem im_B_gains : Cond.instanceMethod ⟨"TokenBus", "gains", "(III)Z"⟩ ∈ xGW := xGW_in (List.mem_of_getElem? (i := 284) (by decide +kernel)) (by decide +kernel)
theorem se_B_gains : Cond.selects "TokenBus" ⟨"TokenBus", "gains", "(III)Z"⟩ ⟨"TokenBus", "gains", "(III)Z"⟩ ∈ xGW := xGW_in (List.mem_of_getElem? (i := 285) (by decide +kernel)) (by decide +kernel)
theorem co_B_gains : Cond.code ⟨"TokenBus", "gains", "(III)Z"⟩ prog_1_method_4_code 4 (some .boolean) ∈ xGW := xGW_in (List.mem_of_getElem? (i := 286) (by decide +kernel)) (by decide +kernel)
theorem nm_B_gains : ("TokenBus" ≠ "java/lang/invoke/MethodHandle" ∧ "TokenBus" ≠ "java/lang/invoke/VarHandle" ∧ (parseMethodDescriptor "(III)Z").map (fun d => d.parameters.length) = some 3) ∧ plainFor ⟨"TokenBus", "gains", "(III)Z"⟩ = true := ⟨by decide +kernel, plainFor_of_name (by decide +kernel)⟩
theorem im_B_request : Cond.instanceMethod ⟨"TokenBus", "request", "(IIII)I"⟩ ∈ xGW := xGW_in (List.mem_of_getElem? (i := 292) (by decide +kernel)) (by decide +kernel)
theorem se_B_request : Cond.selects "TokenBus" ⟨"TokenBus", "request", "(IIII)I"⟩ ⟨"TokenBus", "request", "(IIII)I"⟩ ∈ xGW := xGW_in (List.mem_of_getElem? (i := 293) (by decide +kernel)) (by decide +kernel)
theorem co_B_request : Cond.code ⟨"TokenBus", "request", "(IIII)I"⟩ prog_1_method_5_code 6 (some .int) ∈ xGW := xGW_in (List.mem_of_getElem? (i := 294) (by decide +kernel)) (by decide +kernel)
theorem nm_B_request : ("TokenBus" ≠ "java/lang/invoke/MethodHandle" ∧ "TokenBus" ≠ "java/lang/invoke/VarHandle" ∧ (parseMethodDescriptor "(IIII)I").map (fun d => d.parameters.length) = some 4) ∧ plainFor ⟨"TokenBus", "request", "(IIII)I"⟩ = true := ⟨by decide +kernel, plainFor_of_name (by decide +kernel)⟩
theorem im_B_spoil : Cond.instanceMethod ⟨"TokenBus", "spoil", "(III)Z"⟩ ∈ xGW := xGW_in (List.mem_of_getElem? (i := 353) (by decide +kernel)) (by decide +kernel)
theorem se_B_spoil : Cond.selects "TokenBus" ⟨"TokenBus", "spoil", "(III)Z"⟩ ⟨"TokenBus", "spoil", "(III)Z"⟩ ∈ xGW := xGW_in (List.mem_of_getElem? (i := 354) (by decide +kernel)) (by decide +kernel)
theorem co_B_spoil : Cond.code ⟨"TokenBus", "spoil", "(III)Z"⟩ prog_1_method_6_code 4 (some .boolean) ∈ xGW := xGW_in (List.mem_of_getElem? (i := 355) (by decide +kernel)) (by decide +kernel)
theorem nm_B_spoil : ("TokenBus" ≠ "java/lang/invoke/MethodHandle" ∧ "TokenBus" ≠ "java/lang/invoke/VarHandle" ∧ (parseMethodDescriptor "(III)Z").map (fun d => d.parameters.length) = some 3) ∧ plainFor ⟨"TokenBus", "spoil", "(III)Z"⟩ = true := ⟨by decide +kernel, plainFor_of_name (by decide +kernel)⟩
theorem im_B_step : Cond.instanceMethod ⟨"TokenBus", "step", "()I"⟩ ∈ xGW := xGW_in (List.mem_of_getElem? (i := 373) (by decide +kernel)) (by decide +kernel)
theorem se_B_step : Cond.selects "TokenBus" ⟨"TokenBus", "step", "()I"⟩ ⟨"TokenBus", "step", "()I"⟩ ∈ xGW := xGW_in (List.mem_of_getElem? (i := 374) (by decide +kernel)) (by decide +kernel)
theorem co_B_step : Cond.code ⟨"TokenBus", "step", "()I"⟩ prog_1_method_7_code 3 (some .int) ∈ xGW := xGW_in (List.mem_of_getElem? (i := 375) (by decide +kernel)) (by decide +kernel)
theorem nm_B_step : ("TokenBus" ≠ "java/lang/invoke/MethodHandle" ∧ "TokenBus" ≠ "java/lang/invoke/VarHandle" ∧ (parseMethodDescriptor "()I").map (fun d => d.parameters.length) = some 0) ∧ plainFor ⟨"TokenBus", "step", "()I"⟩ = true := ⟨by decide +kernel, plainFor_of_name (by decide +kernel)⟩
theorem im_B_holder : Cond.instanceMethod ⟨"TokenBus", "holder", "()I"⟩ ∈ xGW := xGW_in (List.mem_of_getElem? (i := 589) (by decide +kernel)) (by decide +kernel)
theorem se_B_holder : Cond.selects "TokenBus" ⟨"TokenBus", "holder", "()I"⟩ ⟨"TokenBus", "holder", "()I"⟩ ∈ xGW := xGW_in (List.mem_of_getElem? (i := 590) (by decide +kernel)) (by decide +kernel)
theorem co_B_holder : Cond.code ⟨"TokenBus", "holder", "()I"⟩ prog_1_method_8_code 1 (some .int) ∈ xGW := xGW_in (List.mem_of_getElem? (i := 591) (by decide +kernel)) (by decide +kernel)
theorem nm_B_holder : ("TokenBus" ≠ "java/lang/invoke/MethodHandle" ∧ "TokenBus" ≠ "java/lang/invoke/VarHandle" ∧ (parseMethodDescriptor "()I").map (fun d => d.parameters.length) = some 0) ∧ plainFor ⟨"TokenBus", "holder", "()I"⟩ = true := ⟨by decide +kernel, plainFor_of_name (by decide +kernel)⟩
theorem im_B_phase : Cond.instanceMethod ⟨"TokenBus", "phase", "()I"⟩ ∈ xGW := xGW_in (List.mem_of_getElem? (i := 593) (by decide +kernel)) (by decide +kernel)
theorem se_B_phase : Cond.selects "TokenBus" ⟨"TokenBus", "phase", "()I"⟩ ⟨"TokenBus", "phase", "()I"⟩ ∈ xGW := xGW_in (List.mem_of_getElem? (i := 594) (by decide +kernel)) (by decide +kernel)
theorem co_B_phase : Cond.code ⟨"TokenBus", "phase", "()I"⟩ prog_1_method_9_code 1 (some .int) ∈ xGW := xGW_in (List.mem_of_getElem? (i := 595) (by decide +kernel)) (by decide +kernel)
theorem nm_B_phase : ("TokenBus" ≠ "java/lang/invoke/MethodHandle" ∧ "TokenBus" ≠ "java/lang/invoke/VarHandle" ∧ (parseMethodDescriptor "()I").map (fun d => d.parameters.length) = some 0) ∧ plainFor ⟨"TokenBus", "phase", "()I"⟩ = true := ⟨by decide +kernel, plainFor_of_name (by decide +kernel)⟩
theorem im_B_node : Cond.instanceMethod ⟨"TokenBus", "node", "(II)I"⟩ ∈ xGW := xGW_in (List.mem_of_getElem? (i := 597) (by decide +kernel)) (by decide +kernel)
theorem se_B_node : Cond.selects "TokenBus" ⟨"TokenBus", "node", "(II)I"⟩ ⟨"TokenBus", "node", "(II)I"⟩ ∈ xGW := xGW_in (List.mem_of_getElem? (i := 598) (by decide +kernel)) (by decide +kernel)
theorem co_B_node : Cond.code ⟨"TokenBus", "node", "(II)I"⟩ prog_1_method_10_code 3 (some .int) ∈ xGW := xGW_in (List.mem_of_getElem? (i := 599) (by decide +kernel)) (by decide +kernel)
theorem nm_B_node : ("TokenBus" ≠ "java/lang/invoke/MethodHandle" ∧ "TokenBus" ≠ "java/lang/invoke/VarHandle" ∧ (parseMethodDescriptor "(II)I").map (fun d => d.parameters.length) = some 2) ∧ plainFor ⟨"TokenBus", "node", "(II)I"⟩ = true := ⟨by decide +kernel, plainFor_of_name (by decide +kernel)⟩
theorem im_B_value : Cond.instanceMethod ⟨"TokenBus", "value", "(II)I"⟩ ∈ xGW := xGW_in (List.mem_of_getElem? (i := 605) (by decide +kernel)) (by decide +kernel)
theorem se_B_value : Cond.selects "TokenBus" ⟨"TokenBus", "value", "(II)I"⟩ ⟨"TokenBus", "value", "(II)I"⟩ ∈ xGW := xGW_in (List.mem_of_getElem? (i := 606) (by decide +kernel)) (by decide +kernel)
theorem co_B_value : Cond.code ⟨"TokenBus", "value", "(II)I"⟩ prog_1_method_11_code 3 (some .int) ∈ xGW := xGW_in (List.mem_of_getElem? (i := 607) (by decide +kernel)) (by decide +kernel)
theorem nm_B_value : ("TokenBus" ≠ "java/lang/invoke/MethodHandle" ∧ "TokenBus" ≠ "java/lang/invoke/VarHandle" ∧ (parseMethodDescriptor "(II)I").map (fun d => d.parameters.length) = some 2) ∧ plainFor ⟨"TokenBus", "value", "(II)I"⟩ = true := ⟨by decide +kernel, plainFor_of_name (by decide +kernel)⟩
theorem im_B_level : Cond.instanceMethod ⟨"TokenBus", "level", "(II)I"⟩ ∈ xGW := xGW_in (List.mem_of_getElem? (i := 609) (by decide +kernel)) (by decide +kernel)
theorem se_B_level : Cond.selects "TokenBus" ⟨"TokenBus", "level", "(II)I"⟩ ⟨"TokenBus", "level", "(II)I"⟩ ∈ xGW := xGW_in (List.mem_of_getElem? (i := 610) (by decide +kernel)) (by decide +kernel)
theorem co_B_level : Cond.code ⟨"TokenBus", "level", "(II)I"⟩ prog_1_method_12_code 3 (some .int) ∈ xGW := xGW_in (List.mem_of_getElem? (i := 611) (by decide +kernel)) (by decide +kernel)
theorem nm_B_level : ("TokenBus" ≠ "java/lang/invoke/MethodHandle" ∧ "TokenBus" ≠ "java/lang/invoke/VarHandle" ∧ (parseMethodDescriptor "(II)I").map (fun d => d.parameters.length) = some 2) ∧ plainFor ⟨"TokenBus", "level", "(II)I"⟩ = true := ⟨by decide +kernel, plainFor_of_name (by decide +kernel)⟩
theorem im_B_set : Cond.instanceMethod ⟨"TokenBus", "set", "(II)Z"⟩ ∈ xGW := xGW_in (List.mem_of_getElem? (i := 621) (by decide +kernel)) (by decide +kernel)
theorem se_B_set : Cond.selects "TokenBus" ⟨"TokenBus", "set", "(II)Z"⟩ ⟨"TokenBus", "set", "(II)Z"⟩ ∈ xGW := xGW_in (List.mem_of_getElem? (i := 622) (by decide +kernel)) (by decide +kernel)
theorem co_B_set : Cond.code ⟨"TokenBus", "set", "(II)Z"⟩ prog_1_method_13_code 3 (some .boolean) ∈ xGW := xGW_in (List.mem_of_getElem? (i := 623) (by decide +kernel)) (by decide +kernel)
theorem nm_B_set : ("TokenBus" ≠ "java/lang/invoke/MethodHandle" ∧ "TokenBus" ≠ "java/lang/invoke/VarHandle" ∧ (parseMethodDescriptor "(II)Z").map (fun d => d.parameters.length) = some 2) ∧ plainFor ⟨"TokenBus", "set", "(II)Z"⟩ = true := ⟨by decide +kernel, plainFor_of_name (by decide +kernel)⟩
theorem im_B_state : Cond.instanceMethod ⟨"TokenBus", "state", "(I)I"⟩ ∈ xGW := xGW_in (List.mem_of_getElem? (i := 626) (by decide +kernel)) (by decide +kernel)
theorem se_B_state : Cond.selects "TokenBus" ⟨"TokenBus", "state", "(I)I"⟩ ⟨"TokenBus", "state", "(I)I"⟩ ∈ xGW := xGW_in (List.mem_of_getElem? (i := 627) (by decide +kernel)) (by decide +kernel)
theorem co_B_state : Cond.code ⟨"TokenBus", "state", "(I)I"⟩ prog_1_method_14_code 2 (some .int) ∈ xGW := xGW_in (List.mem_of_getElem? (i := 628) (by decide +kernel)) (by decide +kernel)
theorem nm_B_state : ("TokenBus" ≠ "java/lang/invoke/MethodHandle" ∧ "TokenBus" ≠ "java/lang/invoke/VarHandle" ∧ (parseMethodDescriptor "(I)I").map (fun d => d.parameters.length) = some 1) ∧ plainFor ⟨"TokenBus", "state", "(I)I"⟩ = true := ⟨by decide +kernel, plainFor_of_name (by decide +kernel)⟩
theorem im_B_answer : Cond.instanceMethod ⟨"TokenBus", "answer", "(I)I"⟩ ∈ xGW := xGW_in (List.mem_of_getElem? (i := 634) (by decide +kernel)) (by decide +kernel)
theorem se_B_answer : Cond.selects "TokenBus" ⟨"TokenBus", "answer", "(I)I"⟩ ⟨"TokenBus", "answer", "(I)I"⟩ ∈ xGW := xGW_in (List.mem_of_getElem? (i := 635) (by decide +kernel)) (by decide +kernel)
theorem co_B_answer : Cond.code ⟨"TokenBus", "answer", "(I)I"⟩ prog_1_method_15_code 2 (some .int) ∈ xGW := xGW_in (List.mem_of_getElem? (i := 636) (by decide +kernel)) (by decide +kernel)
theorem nm_B_answer : ("TokenBus" ≠ "java/lang/invoke/MethodHandle" ∧ "TokenBus" ≠ "java/lang/invoke/VarHandle" ∧ (parseMethodDescriptor "(I)I").map (fun d => d.parameters.length) = some 1) ∧ plainFor ⟨"TokenBus", "answer", "(I)I"⟩ = true := ⟨by decide +kernel, plainFor_of_name (by decide +kernel)⟩
theorem im_B_noted : Cond.instanceMethod ⟨"TokenBus", "noted", "(II)I"⟩ ∈ xGW := xGW_in (List.mem_of_getElem? (i := 638) (by decide +kernel)) (by decide +kernel)
theorem se_B_noted : Cond.selects "TokenBus" ⟨"TokenBus", "noted", "(II)I"⟩ ⟨"TokenBus", "noted", "(II)I"⟩ ∈ xGW := xGW_in (List.mem_of_getElem? (i := 639) (by decide +kernel)) (by decide +kernel)
theorem co_B_noted : Cond.code ⟨"TokenBus", "noted", "(II)I"⟩ prog_1_method_16_code 3 (some .int) ∈ xGW := xGW_in (List.mem_of_getElem? (i := 640) (by decide +kernel)) (by decide +kernel)
theorem nm_B_noted : ("TokenBus" ≠ "java/lang/invoke/MethodHandle" ∧ "TokenBus" ≠ "java/lang/invoke/VarHandle" ∧ (parseMethodDescriptor "(II)I").map (fun d => d.parameters.length) = some 2) ∧ plainFor ⟨"TokenBus", "noted", "(II)I"⟩ = true := ⟨by decide +kernel, plainFor_of_name (by decide +kernel)⟩
theorem im_B_frame : Cond.instanceMethod ⟨"TokenBus", "frame", "(II)I"⟩ ∈ xGW := xGW_in (List.mem_of_getElem? (i := 646) (by decide +kernel)) (by decide +kernel)
theorem se_B_frame : Cond.selects "TokenBus" ⟨"TokenBus", "frame", "(II)I"⟩ ⟨"TokenBus", "frame", "(II)I"⟩ ∈ xGW := xGW_in (List.mem_of_getElem? (i := 647) (by decide +kernel)) (by decide +kernel)
theorem co_B_frame : Cond.code ⟨"TokenBus", "frame", "(II)I"⟩ prog_1_method_17_code 3 (some .int) ∈ xGW := xGW_in (List.mem_of_getElem? (i := 648) (by decide +kernel)) (by decide +kernel)
theorem nm_B_frame : ("TokenBus" ≠ "java/lang/invoke/MethodHandle" ∧ "TokenBus" ≠ "java/lang/invoke/VarHandle" ∧ (parseMethodDescriptor "(II)I").map (fun d => d.parameters.length) = some 2) ∧ plainFor ⟨"TokenBus", "frame", "(II)I"⟩ = true := ⟨by decide +kernel, plainFor_of_name (by decide +kernel)⟩
theorem im_B_total : Cond.instanceMethod ⟨"TokenBus", "total", "(I)I"⟩ ∈ xGW := xGW_in (List.mem_of_getElem? (i := 654) (by decide +kernel)) (by decide +kernel)
theorem se_B_total : Cond.selects "TokenBus" ⟨"TokenBus", "total", "(I)I"⟩ ⟨"TokenBus", "total", "(I)I"⟩ ∈ xGW := xGW_in (List.mem_of_getElem? (i := 655) (by decide +kernel)) (by decide +kernel)
theorem co_B_total : Cond.code ⟨"TokenBus", "total", "(I)I"⟩ prog_1_method_18_code 2 (some .int) ∈ xGW := xGW_in (List.mem_of_getElem? (i := 656) (by decide +kernel)) (by decide +kernel)
theorem nm_B_total : ("TokenBus" ≠ "java/lang/invoke/MethodHandle" ∧ "TokenBus" ≠ "java/lang/invoke/VarHandle" ∧ (parseMethodDescriptor "(I)I").map (fun d => d.parameters.length) = some 1) ∧ plainFor ⟨"TokenBus", "total", "(I)I"⟩ = true := ⟨by decide +kernel, plainFor_of_name (by decide +kernel)⟩
theorem st_B_isWithin : Cond.static ⟨"TokenBus", "isWithin", "(III)Z"⟩ ∈ xGW := xGW_in (List.mem_of_getElem? (i := 265) (by decide +kernel)) (by decide +kernel)
theorem co_B_isWithin : Cond.code ⟨"TokenBus", "isWithin", "(III)Z"⟩ prog_1_method_19_code 3 (some .boolean) ∈ xGW := xGW_in (List.mem_of_getElem? (i := 266) (by decide +kernel)) (by decide +kernel)
theorem nm_B_isWithin : ("TokenBus" ≠ "java/lang/invoke/MethodHandle" ∧ "TokenBus" ≠ "java/lang/invoke/VarHandle" ∧ (parseMethodDescriptor "(III)Z").map (fun d => d.parameters.length) = some 3) ∧ plainFor ⟨"TokenBus", "isWithin", "(III)Z"⟩ = true := ⟨by decide +kernel, plainFor_of_name (by decide +kernel)⟩
theorem st_B_held : Cond.static ⟨"TokenBus", "held", "(II)I"⟩ ∈ xGW := xGW_in (List.mem_of_getElem? (i := 565) (by decide +kernel)) (by decide +kernel)
theorem co_B_held : Cond.code ⟨"TokenBus", "held", "(II)I"⟩ prog_1_method_20_code 2 (some .int) ∈ xGW := xGW_in (List.mem_of_getElem? (i := 566) (by decide +kernel)) (by decide +kernel)
theorem nm_B_held : ("TokenBus" ≠ "java/lang/invoke/MethodHandle" ∧ "TokenBus" ≠ "java/lang/invoke/VarHandle" ∧ (parseMethodDescriptor "(II)I").map (fun d => d.parameters.length) = some 2) ∧ plainFor ⟨"TokenBus", "held", "(II)I"⟩ = true := ⟨by decide +kernel, plainFor_of_name (by decide +kernel)⟩
theorem st_B_isNode : Cond.static ⟨"TokenBus", "isNode", "(I)Z"⟩ ∈ xGW := xGW_in (List.mem_of_getElem? (i := 262) (by decide +kernel)) (by decide +kernel)
theorem co_B_isNode : Cond.code ⟨"TokenBus", "isNode", "(I)Z"⟩ prog_1_method_21_code 1 (some .boolean) ∈ xGW := xGW_in (List.mem_of_getElem? (i := 263) (by decide +kernel)) (by decide +kernel)
theorem nm_B_isNode : ("TokenBus" ≠ "java/lang/invoke/MethodHandle" ∧ "TokenBus" ≠ "java/lang/invoke/VarHandle" ∧ (parseMethodDescriptor "(I)Z").map (fun d => d.parameters.length) = some 1) ∧ plainFor ⟨"TokenBus", "isNode", "(I)Z"⟩ = true := ⟨by decide +kernel, plainFor_of_name (by decide +kernel)⟩
theorem st_B_behind : Cond.static ⟨"TokenBus", "behind", "(I)I"⟩ ∈ xGW := xGW_in (List.mem_of_getElem? (i := 398) (by decide +kernel)) (by decide +kernel)
theorem co_B_behind : Cond.code ⟨"TokenBus", "behind", "(I)I"⟩ prog_1_method_22_code 1 (some .int) ∈ xGW := xGW_in (List.mem_of_getElem? (i := 399) (by decide +kernel)) (by decide +kernel)
theorem nm_B_behind : ("TokenBus" ≠ "java/lang/invoke/MethodHandle" ∧ "TokenBus" ≠ "java/lang/invoke/VarHandle" ∧ (parseMethodDescriptor "(I)I").map (fun d => d.parameters.length) = some 1) ∧ plainFor ⟨"TokenBus", "behind", "(I)I"⟩ = true := ⟨by decide +kernel, plainFor_of_name (by decide +kernel)⟩
theorem im_B_isRequest : Cond.instanceMethod ⟨"TokenBus", "isRequest", "(I)Z"⟩ ∈ xGW := xGW_in (List.mem_of_getElem? (i := 631) (by decide +kernel)) (by decide +kernel)
theorem se_B_isRequest : Cond.selects "TokenBus" ⟨"TokenBus", "isRequest", "(I)Z"⟩ ⟨"TokenBus", "isRequest", "(I)Z"⟩ ∈ xGW := xGW_in (List.mem_of_getElem? (i := 24) (by decide +kernel)) (by decide +kernel)
theorem co_B_isRequest : Cond.code ⟨"TokenBus", "isRequest", "(I)Z"⟩ prog_1_method_23_code 2 (some .boolean) ∈ xGW := xGW_in (List.mem_of_getElem? (i := 632) (by decide +kernel)) (by decide +kernel)
theorem nm_B_isRequest : ("TokenBus" ≠ "java/lang/invoke/MethodHandle" ∧ "TokenBus" ≠ "java/lang/invoke/VarHandle" ∧ (parseMethodDescriptor "(I)Z").map (fun d => d.parameters.length) = some 1) ∧ plainFor ⟨"TokenBus", "isRequest", "(I)Z"⟩ = true := ⟨by decide +kernel, plainFor_of_name (by decide +kernel)⟩
theorem im_B_numbered : Cond.instanceMethod ⟨"TokenBus", "numbered", "(I)LTokenBus$Frame;"⟩ ∈ xGW := xGW_in (List.mem_of_getElem? (i := 366) (by decide +kernel)) (by decide +kernel)
theorem se_B_numbered : Cond.selects "TokenBus" ⟨"TokenBus", "numbered", "(I)LTokenBus$Frame;"⟩ ⟨"TokenBus", "numbered", "(I)LTokenBus$Frame;"⟩ ∈ xGW := xGW_in (List.mem_of_getElem? (i := 2) (by decide +kernel)) (by decide +kernel)
theorem co_B_numbered : Cond.code ⟨"TokenBus", "numbered", "(I)LTokenBus$Frame;"⟩ prog_1_method_24_code 2 (some (.object "TokenBus$Frame")) ∈ xGW := xGW_in (List.mem_of_getElem? (i := 367) (by decide +kernel)) (by decide +kernel)
theorem nm_B_numbered : ("TokenBus" ≠ "java/lang/invoke/MethodHandle" ∧ "TokenBus" ≠ "java/lang/invoke/VarHandle" ∧ (parseMethodDescriptor "(I)LTokenBus$Frame;").map (fun d => d.parameters.length) = some 1) ∧ plainFor ⟨"TokenBus", "numbered", "(I)LTokenBus$Frame;"⟩ = true := ⟨by decide +kernel, plainFor_of_name (by decide +kernel)⟩
theorem im_B_forgetSpoiling : Cond.instanceMethod ⟨"TokenBus", "forgetSpoiling", "()V"⟩ ∈ xGW := xGW_in (List.mem_of_getElem? (i := 358) (by decide +kernel)) (by decide +kernel)
theorem se_B_forgetSpoiling : Cond.selects "TokenBus" ⟨"TokenBus", "forgetSpoiling", "()V"⟩ ⟨"TokenBus", "forgetSpoiling", "()V"⟩ ∈ xGW := xGW_in (List.mem_of_getElem? (i := 1) (by decide +kernel)) (by decide +kernel)
theorem co_B_forgetSpoiling : Cond.code ⟨"TokenBus", "forgetSpoiling", "()V"⟩ prog_1_method_25_code 1 none ∈ xGW := xGW_in (List.mem_of_getElem? (i := 359) (by decide +kernel)) (by decide +kernel)
theorem nm_B_forgetSpoiling : ("TokenBus" ≠ "java/lang/invoke/MethodHandle" ∧ "TokenBus" ≠ "java/lang/invoke/VarHandle" ∧ (parseMethodDescriptor "()V").map (fun d => d.parameters.length) = some 0) ∧ plainFor ⟨"TokenBus", "forgetSpoiling", "()V"⟩ = true := ⟨by decide +kernel, plainFor_of_name (by decide +kernel)⟩
theorem im_B_beginStep : Cond.instanceMethod ⟨"TokenBus", "beginStep", "()V"⟩ ∈ xGW := xGW_in (List.mem_of_getElem? (i := 378) (by decide +kernel)) (by decide +kernel)
theorem se_B_beginStep : Cond.selects "TokenBus" ⟨"TokenBus", "beginStep", "()V"⟩ ⟨"TokenBus", "beginStep", "()V"⟩ ∈ xGW := xGW_in (List.mem_of_getElem? (i := 3) (by decide +kernel)) (by decide +kernel)
theorem co_B_beginStep : Cond.code ⟨"TokenBus", "beginStep", "()V"⟩ prog_1_method_26_code 1 none ∈ xGW := xGW_in (List.mem_of_getElem? (i := 379) (by decide +kernel)) (by decide +kernel)
theorem nm_B_beginStep : ("TokenBus" ≠ "java/lang/invoke/MethodHandle" ∧ "TokenBus" ≠ "java/lang/invoke/VarHandle" ∧ (parseMethodDescriptor "()V").map (fun d => d.parameters.length) = some 0) ∧ plainFor ⟨"TokenBus", "beginStep", "()V"⟩ = true := ⟨by decide +kernel, plainFor_of_name (by decide +kernel)⟩
theorem im_B_endStep : Cond.instanceMethod ⟨"TokenBus", "endStep", "()V"⟩ ∈ xGW := xGW_in (List.mem_of_getElem? (i := 550) (by decide +kernel)) (by decide +kernel)
theorem se_B_endStep : Cond.selects "TokenBus" ⟨"TokenBus", "endStep", "()V"⟩ ⟨"TokenBus", "endStep", "()V"⟩ ∈ xGW := xGW_in (List.mem_of_getElem? (i := 23) (by decide +kernel)) (by decide +kernel)
theorem co_B_endStep : Cond.code ⟨"TokenBus", "endStep", "()V"⟩ prog_1_method_27_code 5 none ∈ xGW := xGW_in (List.mem_of_getElem? (i := 551) (by decide +kernel)) (by decide +kernel)
theorem nm_B_endStep : ("TokenBus" ≠ "java/lang/invoke/MethodHandle" ∧ "TokenBus" ≠ "java/lang/invoke/VarHandle" ∧ (parseMethodDescriptor "()V").map (fun d => d.parameters.length) = some 0) ∧ plainFor ⟨"TokenBus", "endStep", "()V"⟩ = true := ⟨by decide +kernel, plainFor_of_name (by decide +kernel)⟩
theorem im_B_loseTokenOf : Cond.instanceMethod ⟨"TokenBus", "loseTokenOf", "(I)V"⟩ ∈ xGW := xGW_in (List.mem_of_getElem? (i := 277) (by decide +kernel)) (by decide +kernel)
theorem se_B_loseTokenOf : Cond.selects "TokenBus" ⟨"TokenBus", "loseTokenOf", "(I)V"⟩ ⟨"TokenBus", "loseTokenOf", "(I)V"⟩ ∈ xGW := xGW_in (List.mem_of_getElem? (i := 0) (by decide +kernel)) (by decide +kernel)
theorem co_B_loseTokenOf : Cond.code ⟨"TokenBus", "loseTokenOf", "(I)V"⟩ prog_1_method_28_code 2 none ∈ xGW := xGW_in (List.mem_of_getElem? (i := 278) (by decide +kernel)) (by decide +kernel)
theorem nm_B_loseTokenOf : ("TokenBus" ≠ "java/lang/invoke/MethodHandle" ∧ "TokenBus" ≠ "java/lang/invoke/VarHandle" ∧ (parseMethodDescriptor "(I)V").map (fun d => d.parameters.length) = some 1) ∧ plainFor ⟨"TokenBus", "loseTokenOf", "(I)V"⟩ = true := ⟨by decide +kernel, plainFor_of_name (by decide +kernel)⟩
theorem im_B_waitInSilence : Cond.instanceMethod ⟨"TokenBus", "waitInSilence", "()V"⟩ ∈ xGW := xGW_in (List.mem_of_getElem? (i := 386) (by decide +kernel)) (by decide +kernel)
theorem se_B_waitInSilence : Cond.selects "TokenBus" ⟨"TokenBus", "waitInSilence", "()V"⟩ ⟨"TokenBus", "waitInSilence", "()V"⟩ ∈ xGW := xGW_in (List.mem_of_getElem? (i := 4) (by decide +kernel)) (by decide +kernel)
theorem co_B_waitInSilence : Cond.code ⟨"TokenBus", "waitInSilence", "()V"⟩ prog_1_method_29_code 2 none ∈ xGW := xGW_in (List.mem_of_getElem? (i := 387) (by decide +kernel)) (by decide +kernel)
theorem nm_B_waitInSilence : ("TokenBus" ≠ "java/lang/invoke/MethodHandle" ∧ "TokenBus" ≠ "java/lang/invoke/VarHandle" ∧ (parseMethodDescriptor "()V").map (fun d => d.parameters.length) = some 0) ∧ plainFor ⟨"TokenBus", "waitInSilence", "()V"⟩ = true := ⟨by decide +kernel, plainFor_of_name (by decide +kernel)⟩
theorem im_B_leastPowered : Cond.instanceMethod ⟨"TokenBus", "leastPowered", "()I"⟩ ∈ xGW := xGW_in (List.mem_of_getElem? (i := 390) (by decide +kernel)) (by decide +kernel)
theorem se_B_leastPowered : Cond.selects "TokenBus" ⟨"TokenBus", "leastPowered", "()I"⟩ ⟨"TokenBus", "leastPowered", "()I"⟩ ∈ xGW := xGW_in (List.mem_of_getElem? (i := 5) (by decide +kernel)) (by decide +kernel)
theorem co_B_leastPowered : Cond.code ⟨"TokenBus", "leastPowered", "()I"⟩ prog_1_method_30_code 2 (some .int) ∈ xGW := xGW_in (List.mem_of_getElem? (i := 391) (by decide +kernel)) (by decide +kernel)
theorem nm_B_leastPowered : ("TokenBus" ≠ "java/lang/invoke/MethodHandle" ∧ "TokenBus" ≠ "java/lang/invoke/VarHandle" ∧ (parseMethodDescriptor "()I").map (fun d => d.parameters.length) = some 0) ∧ plainFor ⟨"TokenBus", "leastPowered", "()I"⟩ = true := ⟨by decide +kernel, plainFor_of_name (by decide +kernel)⟩
theorem im_B_use : Cond.instanceMethod ⟨"TokenBus", "use", "(LTokenBus$Node;)Z"⟩ ∈ xGW := xGW_in (List.mem_of_getElem? (i := 448) (by decide +kernel)) (by decide +kernel)
theorem se_B_use : Cond.selects "TokenBus" ⟨"TokenBus", "use", "(LTokenBus$Node;)Z"⟩ ⟨"TokenBus", "use", "(LTokenBus$Node;)Z"⟩ ∈ xGW := xGW_in (List.mem_of_getElem? (i := 14) (by decide +kernel)) (by decide +kernel)
theorem co_B_use : Cond.code ⟨"TokenBus", "use", "(LTokenBus$Node;)Z"⟩ prog_1_method_31_code 3 (some .boolean) ∈ xGW := xGW_in (List.mem_of_getElem? (i := 449) (by decide +kernel)) (by decide +kernel)
theorem nm_B_use : ("TokenBus" ≠ "java/lang/invoke/MethodHandle" ∧ "TokenBus" ≠ "java/lang/invoke/VarHandle" ∧ (parseMethodDescriptor "(LTokenBus$Node;)Z").map (fun d => d.parameters.length) = some 1) ∧ plainFor ⟨"TokenBus", "use", "(LTokenBus$Node;)Z"⟩ = true := ⟨by decide +kernel, plainFor_of_name (by decide +kernel)⟩
theorem im_B_poll : Cond.instanceMethod ⟨"TokenBus", "poll", "(LTokenBus$Node;)Z"⟩ ∈ xGW := xGW_in (List.mem_of_getElem? (i := 538) (by decide +kernel)) (by decide +kernel)
theorem se_B_poll : Cond.selects "TokenBus" ⟨"TokenBus", "poll", "(LTokenBus$Node;)Z"⟩ ⟨"TokenBus", "poll", "(LTokenBus$Node;)Z"⟩ ∈ xGW := xGW_in (List.mem_of_getElem? (i := 21) (by decide +kernel)) (by decide +kernel)
theorem co_B_poll : Cond.code ⟨"TokenBus", "poll", "(LTokenBus$Node;)Z"⟩ prog_1_method_32_code 3 (some .boolean) ∈ xGW := xGW_in (List.mem_of_getElem? (i := 539) (by decide +kernel)) (by decide +kernel)
theorem nm_B_poll : ("TokenBus" ≠ "java/lang/invoke/MethodHandle" ∧ "TokenBus" ≠ "java/lang/invoke/VarHandle" ∧ (parseMethodDescriptor "(LTokenBus$Node;)Z").map (fun d => d.parameters.length) = some 1) ∧ plainFor ⟨"TokenBus", "poll", "(LTokenBus$Node;)Z"⟩ = true := ⟨by decide +kernel, plainFor_of_name (by decide +kernel)⟩
theorem im_B_pass : Cond.instanceMethod ⟨"TokenBus", "pass", "(LTokenBus$Node;)V"⟩ ∈ xGW := xGW_in (List.mem_of_getElem? (i := 542) (by decide +kernel)) (by decide +kernel)
theorem se_B_pass : Cond.selects "TokenBus" ⟨"TokenBus", "pass", "(LTokenBus$Node;)V"⟩ ⟨"TokenBus", "pass", "(LTokenBus$Node;)V"⟩ ∈ xGW := xGW_in (List.mem_of_getElem? (i := 22) (by decide +kernel)) (by decide +kernel)
theorem co_B_pass : Cond.code ⟨"TokenBus", "pass", "(LTokenBus$Node;)V"⟩ prog_1_method_33_code 2 none ∈ xGW := xGW_in (List.mem_of_getElem? (i := 543) (by decide +kernel)) (by decide +kernel)
theorem nm_B_pass : ("TokenBus" ≠ "java/lang/invoke/MethodHandle" ∧ "TokenBus" ≠ "java/lang/invoke/VarHandle" ∧ (parseMethodDescriptor "(LTokenBus$Node;)V").map (fun d => d.parameters.length) = some 1) ∧ plainFor ⟨"TokenBus", "pass", "(LTokenBus$Node;)V"⟩ = true := ⟨by decide +kernel, plainFor_of_name (by decide +kernel)⟩
theorem im_B_search : Cond.instanceMethod ⟨"TokenBus", "search", "(LTokenBus$Node;)V"⟩ ∈ xGW := xGW_in (List.mem_of_getElem? (i := 395) (by decide +kernel)) (by decide +kernel)
theorem se_B_search : Cond.selects "TokenBus" ⟨"TokenBus", "search", "(LTokenBus$Node;)V"⟩ ⟨"TokenBus", "search", "(LTokenBus$Node;)V"⟩ ∈ xGW := xGW_in (List.mem_of_getElem? (i := 6) (by decide +kernel)) (by decide +kernel)
theorem co_B_search : Cond.code ⟨"TokenBus", "search", "(LTokenBus$Node;)V"⟩ prog_1_method_34_code 3 none ∈ xGW := xGW_in (List.mem_of_getElem? (i := 396) (by decide +kernel)) (by decide +kernel)
theorem nm_B_search : ("TokenBus" ≠ "java/lang/invoke/MethodHandle" ∧ "TokenBus" ≠ "java/lang/invoke/VarHandle" ∧ (parseMethodDescriptor "(LTokenBus$Node;)V").map (fun d => d.parameters.length) = some 1) ∧ plainFor ⟨"TokenBus", "search", "(LTokenBus$Node;)V"⟩ = true := ⟨by decide +kernel, plainFor_of_name (by decide +kernel)⟩
theorem im_B_enterUse : Cond.instanceMethod ⟨"TokenBus", "enterUse", "()V"⟩ ∈ xGW := xGW_in (List.mem_of_getElem? (i := 402) (by decide +kernel)) (by decide +kernel)
theorem se_B_enterUse : Cond.selects "TokenBus" ⟨"TokenBus", "enterUse", "()V"⟩ ⟨"TokenBus", "enterUse", "()V"⟩ ∈ xGW := xGW_in (List.mem_of_getElem? (i := 7) (by decide +kernel)) (by decide +kernel)
theorem co_B_enterUse : Cond.code ⟨"TokenBus", "enterUse", "()V"⟩ prog_1_method_35_code 1 none ∈ xGW := xGW_in (List.mem_of_getElem? (i := 403) (by decide +kernel)) (by decide +kernel)
theorem nm_B_enterUse : ("TokenBus" ≠ "java/lang/invoke/MethodHandle" ∧ "TokenBus" ≠ "java/lang/invoke/VarHandle" ∧ (parseMethodDescriptor "()V").map (fun d => d.parameters.length) = some 0) ∧ plainFor ⟨"TokenBus", "enterUse", "()V"⟩ = true := ⟨by decide +kernel, plainFor_of_name (by decide +kernel)⟩
theorem im_B_enterPass : Cond.instanceMethod ⟨"TokenBus", "enterPass", "()V"⟩ ∈ xGW := xGW_in (List.mem_of_getElem? (i := 444) (by decide +kernel)) (by decide +kernel)
theorem se_B_enterPass : Cond.selects "TokenBus" ⟨"TokenBus", "enterPass", "()V"⟩ ⟨"TokenBus", "enterPass", "()V"⟩ ∈ xGW := xGW_in (List.mem_of_getElem? (i := 13) (by decide +kernel)) (by decide +kernel)
theorem co_B_enterPass : Cond.code ⟨"TokenBus", "enterPass", "()V"⟩ prog_1_method_36_code 1 none ∈ xGW := xGW_in (List.mem_of_getElem? (i := 445) (by decide +kernel)) (by decide +kernel)
theorem nm_B_enterPass : ("TokenBus" ≠ "java/lang/invoke/MethodHandle" ∧ "TokenBus" ≠ "java/lang/invoke/VarHandle" ∧ (parseMethodDescriptor "()V").map (fun d => d.parameters.length) = some 0) ∧ plainFor ⟨"TokenBus", "enterPass", "()V"⟩ = true := ⟨by decide +kernel, plainFor_of_name (by decide +kernel)⟩
theorem im_B_askToJoin : Cond.instanceMethod ⟨"TokenBus", "askToJoin", "(LTokenBus$Node;I)V"⟩ ∈ xGW := xGW_in (List.mem_of_getElem? (i := 406) (by decide +kernel)) (by decide +kernel)
theorem se_B_askToJoin : Cond.selects "TokenBus" ⟨"TokenBus", "askToJoin", "(LTokenBus$Node;I)V"⟩ ⟨"TokenBus", "askToJoin", "(LTokenBus$Node;I)V"⟩ ∈ xGW := xGW_in (List.mem_of_getElem? (i := 8) (by decide +kernel)) (by decide +kernel)
theorem co_B_askToJoin : Cond.code ⟨"TokenBus", "askToJoin", "(LTokenBus$Node;I)V"⟩ prog_1_method_37_code 3 none ∈ xGW := xGW_in (List.mem_of_getElem? (i := 407) (by decide +kernel)) (by decide +kernel)
theorem nm_B_askToJoin : ("TokenBus" ≠ "java/lang/invoke/MethodHandle" ∧ "TokenBus" ≠ "java/lang/invoke/VarHandle" ∧ (parseMethodDescriptor "(LTokenBus$Node;I)V").map (fun d => d.parameters.length) = some 2) ∧ plainFor ⟨"TokenBus", "askToJoin", "(LTokenBus$Node;I)V"⟩ = true := ⟨by decide +kernel, plainFor_of_name (by decide +kernel)⟩
theorem im_B_sendNotice : Cond.instanceMethod ⟨"TokenBus", "sendNotice", "(LTokenBus$Node;LTokenBus$Subscription;)V"⟩ ∈ xGW := xGW_in (List.mem_of_getElem? (i := 456) (by decide +kernel)) (by decide +kernel)
theorem se_B_sendNotice : Cond.selects "TokenBus" ⟨"TokenBus", "sendNotice", "(LTokenBus$Node;LTokenBus$Subscription;)V"⟩ ⟨"TokenBus", "sendNotice", "(LTokenBus$Node;LTokenBus$Subscription;)V"⟩ ∈ xGW := xGW_in (List.mem_of_getElem? (i := 15) (by decide +kernel)) (by decide +kernel)
theorem co_B_sendNotice : Cond.code ⟨"TokenBus", "sendNotice", "(LTokenBus$Node;LTokenBus$Subscription;)V"⟩ prog_1_method_38_code 4 none ∈ xGW := xGW_in (List.mem_of_getElem? (i := 457) (by decide +kernel)) (by decide +kernel)
theorem nm_B_sendNotice : ("TokenBus" ≠ "java/lang/invoke/MethodHandle" ∧ "TokenBus" ≠ "java/lang/invoke/VarHandle" ∧ (parseMethodDescriptor "(LTokenBus$Node;LTokenBus$Subscription;)V").map (fun d => d.parameters.length) = some 2) ∧ plainFor ⟨"TokenBus", "sendNotice", "(LTokenBus$Node;LTokenBus$Subscription;)V"⟩ = true := ⟨by decide +kernel, plainFor_of_name (by decide +kernel)⟩
theorem im_B_sendRequest : Cond.instanceMethod ⟨"TokenBus", "sendRequest", "(LTokenBus$Node;LTokenBus$Request;)V"⟩ ∈ xGW := xGW_in (List.mem_of_getElem? (i := 480) (by decide +kernel)) (by decide +kernel)
theorem se_B_sendRequest : Cond.selects "TokenBus" ⟨"TokenBus", "sendRequest", "(LTokenBus$Node;LTokenBus$Request;)V"⟩ ⟨"TokenBus", "sendRequest", "(LTokenBus$Node;LTokenBus$Request;)V"⟩ ∈ xGW := xGW_in (List.mem_of_getElem? (i := 16) (by decide +kernel)) (by decide +kernel)
theorem co_B_sendRequest : Cond.code ⟨"TokenBus", "sendRequest", "(LTokenBus$Node;LTokenBus$Request;)V"⟩ prog_1_method_39_code 4 none ∈ xGW := xGW_in (List.mem_of_getElem? (i := 481) (by decide +kernel)) (by decide +kernel)
theorem nm_B_sendRequest : ("TokenBus" ≠ "java/lang/invoke/MethodHandle" ∧ "TokenBus" ≠ "java/lang/invoke/VarHandle" ∧ (parseMethodDescriptor "(LTokenBus$Node;LTokenBus$Request;)V").map (fun d => d.parameters.length) = some 2) ∧ plainFor ⟨"TokenBus", "sendRequest", "(LTokenBus$Node;LTokenBus$Request;)V"⟩ = true := ⟨by decide +kernel, plainFor_of_name (by decide +kernel)⟩
theorem im_B_writeAsk : Cond.instanceMethod ⟨"TokenBus", "writeAsk", "(LTokenBus$Node;LTokenBus$Request;)V"⟩ ∈ xGW := xGW_in (List.mem_of_getElem? (i := 484) (by decide +kernel)) (by decide +kernel)
theorem se_B_writeAsk : Cond.selects "TokenBus" ⟨"TokenBus", "writeAsk", "(LTokenBus$Node;LTokenBus$Request;)V"⟩ ⟨"TokenBus", "writeAsk", "(LTokenBus$Node;LTokenBus$Request;)V"⟩ ∈ xGW := xGW_in (List.mem_of_getElem? (i := 17) (by decide +kernel)) (by decide +kernel)
theorem co_B_writeAsk : Cond.code ⟨"TokenBus", "writeAsk", "(LTokenBus$Node;LTokenBus$Request;)V"⟩ prog_1_method_40_code 3 none ∈ xGW := xGW_in (List.mem_of_getElem? (i := 485) (by decide +kernel)) (by decide +kernel)
theorem nm_B_writeAsk : ("TokenBus" ≠ "java/lang/invoke/MethodHandle" ∧ "TokenBus" ≠ "java/lang/invoke/VarHandle" ∧ (parseMethodDescriptor "(LTokenBus$Node;LTokenBus$Request;)V").map (fun d => d.parameters.length) = some 2) ∧ plainFor ⟨"TokenBus", "writeAsk", "(LTokenBus$Node;LTokenBus$Request;)V"⟩ = true := ⟨by decide +kernel, plainFor_of_name (by decide +kernel)⟩
theorem im_B_writeAnswer : Cond.instanceMethod ⟨"TokenBus", "writeAnswer", "(LTokenBus$Node;LTokenBus$Request;)V"⟩ ∈ xGW := xGW_in (List.mem_of_getElem? (i := 526) (by decide +kernel)) (by decide +kernel)
theorem se_B_writeAnswer : Cond.selects "TokenBus" ⟨"TokenBus", "writeAnswer", "(LTokenBus$Node;LTokenBus$Request;)V"⟩ ⟨"TokenBus", "writeAnswer", "(LTokenBus$Node;LTokenBus$Request;)V"⟩ ∈ xGW := xGW_in (List.mem_of_getElem? (i := 20) (by decide +kernel)) (by decide +kernel)
theorem co_B_writeAnswer : Cond.code ⟨"TokenBus", "writeAnswer", "(LTokenBus$Node;LTokenBus$Request;)V"⟩ prog_1_method_41_code 4 none ∈ xGW := xGW_in (List.mem_of_getElem? (i := 527) (by decide +kernel)) (by decide +kernel)
theorem nm_B_writeAnswer : ("TokenBus" ≠ "java/lang/invoke/MethodHandle" ∧ "TokenBus" ≠ "java/lang/invoke/VarHandle" ∧ (parseMethodDescriptor "(LTokenBus$Node;LTokenBus$Request;)V").map (fun d => d.parameters.length) = some 2) ∧ plainFor ⟨"TokenBus", "writeAnswer", "(LTokenBus$Node;LTokenBus$Request;)V"⟩ = true := ⟨by decide +kernel, plainFor_of_name (by decide +kernel)⟩
theorem im_B_arrives : Cond.instanceMethod ⟨"TokenBus", "arrives", "(LTokenBus$Frame;)Z"⟩ ∈ xGW := xGW_in (List.mem_of_getElem? (i := 422) (by decide +kernel)) (by decide +kernel)
theorem se_B_arrives : Cond.selects "TokenBus" ⟨"TokenBus", "arrives", "(LTokenBus$Frame;)Z"⟩ ⟨"TokenBus", "arrives", "(LTokenBus$Frame;)Z"⟩ ∈ xGW := xGW_in (List.mem_of_getElem? (i := 11) (by decide +kernel)) (by decide +kernel)
theorem co_B_arrives : Cond.code ⟨"TokenBus", "arrives", "(LTokenBus$Frame;)Z"⟩ prog_1_method_42_code 3 (some .boolean) ∈ xGW := xGW_in (List.mem_of_getElem? (i := 423) (by decide +kernel)) (by decide +kernel)
theorem nm_B_arrives : ("TokenBus" ≠ "java/lang/invoke/MethodHandle" ∧ "TokenBus" ≠ "java/lang/invoke/VarHandle" ∧ (parseMethodDescriptor "(LTokenBus$Frame;)Z").map (fun d => d.parameters.length) = some 1) ∧ plainFor ⟨"TokenBus", "arrives", "(LTokenBus$Frame;)Z"⟩ = true := ⟨by decide +kernel, plainFor_of_name (by decide +kernel)⟩
theorem im_M_init : Cond.instanceMethod ⟨"TokenBusModel", "<init>", "()V"⟩ ∈ xGW := xGW_in (List.mem_of_getElem? (i := 660) (by decide +kernel)) (by decide +kernel)
theorem co_M_init : Cond.code ⟨"TokenBusModel", "<init>", "()V"⟩ prog_9_method_1_code 2 none ∈ xGW := xGW_in (List.mem_of_getElem? (i := 661) (by decide +kernel)) (by decide +kernel)
theorem nm_M_init : ("TokenBusModel" ≠ "java/lang/invoke/MethodHandle" ∧ "TokenBusModel" ≠ "java/lang/invoke/VarHandle" ∧ (parseMethodDescriptor "()V").map (fun d => d.parameters.length) = some 0) ∧ plainFor ⟨"TokenBusModel", "<init>", "()V"⟩ = true := ⟨by decide +kernel, plainFor_of_name (by decide +kernel)⟩
theorem st_M_isNode : Cond.static ⟨"TokenBusModel", "isNode", "(I)Z"⟩ ∈ xGW := xGW_in (List.mem_of_getElem? (i := 804) (by decide +kernel)) (by decide +kernel)
theorem co_M_isNode : Cond.code ⟨"TokenBusModel", "isNode", "(I)Z"⟩ prog_9_method_2_code 1 (some .boolean) ∈ xGW := xGW_in (List.mem_of_getElem? (i := 805) (by decide +kernel)) (by decide +kernel)
theorem nm_M_isNode : ("TokenBusModel" ≠ "java/lang/invoke/MethodHandle" ∧ "TokenBusModel" ≠ "java/lang/invoke/VarHandle" ∧ (parseMethodDescriptor "(I)Z").map (fun d => d.parameters.length) = some 1) ∧ plainFor ⟨"TokenBusModel", "isNode", "(I)Z"⟩ = true := ⟨by decide +kernel, plainFor_of_name (by decide +kernel)⟩
theorem st_M_outside : Cond.static ⟨"TokenBusModel", "outside", "(III)Z"⟩ ∈ xGW := xGW_in (List.mem_of_getElem? (i := 811) (by decide +kernel)) (by decide +kernel)
theorem co_M_outside : Cond.code ⟨"TokenBusModel", "outside", "(III)Z"⟩ prog_9_method_3_code 3 (some .boolean) ∈ xGW := xGW_in (List.mem_of_getElem? (i := 812) (by decide +kernel)) (by decide +kernel)
theorem nm_M_outside : ("TokenBusModel" ≠ "java/lang/invoke/MethodHandle" ∧ "TokenBusModel" ≠ "java/lang/invoke/VarHandle" ∧ (parseMethodDescriptor "(III)Z").map (fun d => d.parameters.length) = some 3) ∧ plainFor ⟨"TokenBusModel", "outside", "(III)Z"⟩ = true := ⟨by decide +kernel, plainFor_of_name (by decide +kernel)⟩
theorem st_M_held : Cond.static ⟨"TokenBusModel", "held", "(II)I"⟩ ∈ xGW := xGW_in (List.mem_of_getElem? (i := 931) (by decide +kernel)) (by decide +kernel)
theorem co_M_held : Cond.code ⟨"TokenBusModel", "held", "(II)I"⟩ prog_9_method_4_code 2 (some .int) ∈ xGW := xGW_in (List.mem_of_getElem? (i := 932) (by decide +kernel)) (by decide +kernel)
theorem nm_M_held : ("TokenBusModel" ≠ "java/lang/invoke/MethodHandle" ∧ "TokenBusModel" ≠ "java/lang/invoke/VarHandle" ∧ (parseMethodDescriptor "(II)I").map (fun d => d.parameters.length) = some 2) ∧ plainFor ⟨"TokenBusModel", "held", "(II)I"⟩ = true := ⟨by decide +kernel, plainFor_of_name (by decide +kernel)⟩
theorem im_M_power : Cond.instanceMethod ⟨"TokenBusModel", "power", "(IZ)Z"⟩ ∈ xGW := xGW_in (List.mem_of_getElem? (i := 800) (by decide +kernel)) (by decide +kernel)
theorem se_M_power : Cond.selects "TokenBusModel" ⟨"TokenBusModel", "power", "(IZ)Z"⟩ ⟨"TokenBusModel", "power", "(IZ)Z"⟩ ∈ xGW := xGW_in (List.mem_of_getElem? (i := 801) (by decide +kernel)) (by decide +kernel)
theorem co_M_power : Cond.code ⟨"TokenBusModel", "power", "(IZ)Z"⟩ prog_9_method_5_code 5 (some .boolean) ∈ xGW := xGW_in (List.mem_of_getElem? (i := 802) (by decide +kernel)) (by decide +kernel)
theorem nm_M_power : ("TokenBusModel" ≠ "java/lang/invoke/MethodHandle" ∧ "TokenBusModel" ≠ "java/lang/invoke/VarHandle" ∧ (parseMethodDescriptor "(IZ)Z").map (fun d => d.parameters.length) = some 2) ∧ plainFor ⟨"TokenBusModel", "power", "(IZ)Z"⟩ = true := ⟨by decide +kernel, plainFor_of_name (by decide +kernel)⟩
theorem im_M_sense : Cond.instanceMethod ⟨"TokenBusModel", "sense", "(II)Z"⟩ ∈ xGW := xGW_in (List.mem_of_getElem? (i := 807) (by decide +kernel)) (by decide +kernel)
theorem se_M_sense : Cond.selects "TokenBusModel" ⟨"TokenBusModel", "sense", "(II)Z"⟩ ⟨"TokenBusModel", "sense", "(II)Z"⟩ ∈ xGW := xGW_in (List.mem_of_getElem? (i := 808) (by decide +kernel)) (by decide +kernel)
theorem co_M_sense : Cond.code ⟨"TokenBusModel", "sense", "(II)Z"⟩ prog_9_method_6_code 3 (some .boolean) ∈ xGW := xGW_in (List.mem_of_getElem? (i := 809) (by decide +kernel)) (by decide +kernel)
theorem nm_M_sense : ("TokenBusModel" ≠ "java/lang/invoke/MethodHandle" ∧ "TokenBusModel" ≠ "java/lang/invoke/VarHandle" ∧ (parseMethodDescriptor "(II)Z").map (fun d => d.parameters.length) = some 2) ∧ plainFor ⟨"TokenBusModel", "sense", "(II)Z"⟩ = true := ⟨by decide +kernel, plainFor_of_name (by decide +kernel)⟩
theorem im_M_gains : Cond.instanceMethod ⟨"TokenBusModel", "gains", "(III)Z"⟩ ∈ xGW := xGW_in (List.mem_of_getElem? (i := 814) (by decide +kernel)) (by decide +kernel)
theorem se_M_gains : Cond.selects "TokenBusModel" ⟨"TokenBusModel", "gains", "(III)Z"⟩ ⟨"TokenBusModel", "gains", "(III)Z"⟩ ∈ xGW := xGW_in (List.mem_of_getElem? (i := 815) (by decide +kernel)) (by decide +kernel)
theorem co_M_gains : Cond.code ⟨"TokenBusModel", "gains", "(III)Z"⟩ prog_9_method_7_code 4 (some .boolean) ∈ xGW := xGW_in (List.mem_of_getElem? (i := 816) (by decide +kernel)) (by decide +kernel)
theorem nm_M_gains : ("TokenBusModel" ≠ "java/lang/invoke/MethodHandle" ∧ "TokenBusModel" ≠ "java/lang/invoke/VarHandle" ∧ (parseMethodDescriptor "(III)Z").map (fun d => d.parameters.length) = some 3) ∧ plainFor ⟨"TokenBusModel", "gains", "(III)Z"⟩ = true := ⟨by decide +kernel, plainFor_of_name (by decide +kernel)⟩
theorem im_M_waiting : Cond.instanceMethod ⟨"TokenBusModel", "waiting", "(I)I"⟩ ∈ xGW := xGW_in (List.mem_of_getElem? (i := 823) (by decide +kernel)) (by decide +kernel)
theorem se_M_waiting : Cond.selects "TokenBusModel" ⟨"TokenBusModel", "waiting", "(I)I"⟩ ⟨"TokenBusModel", "waiting", "(I)I"⟩ ∈ xGW := xGW_in (List.mem_of_getElem? (i := 25) (by decide +kernel)) (by decide +kernel)
theorem co_M_waiting : Cond.code ⟨"TokenBusModel", "waiting", "(I)I"⟩ prog_9_method_8_code 4 (some .int) ∈ xGW := xGW_in (List.mem_of_getElem? (i := 824) (by decide +kernel)) (by decide +kernel)
theorem nm_M_waiting : ("TokenBusModel" ≠ "java/lang/invoke/MethodHandle" ∧ "TokenBusModel" ≠ "java/lang/invoke/VarHandle" ∧ (parseMethodDescriptor "(I)I").map (fun d => d.parameters.length) = some 1) ∧ plainFor ⟨"TokenBusModel", "waiting", "(I)I"⟩ = true := ⟨by decide +kernel, plainFor_of_name (by decide +kernel)⟩
theorem im_M_request : Cond.instanceMethod ⟨"TokenBusModel", "request", "(IIII)I"⟩ ∈ xGW := xGW_in (List.mem_of_getElem? (i := 818) (by decide +kernel)) (by decide +kernel)
theorem se_M_request : Cond.selects "TokenBusModel" ⟨"TokenBusModel", "request", "(IIII)I"⟩ ⟨"TokenBusModel", "request", "(IIII)I"⟩ ∈ xGW := xGW_in (List.mem_of_getElem? (i := 819) (by decide +kernel)) (by decide +kernel)
theorem co_M_request : Cond.code ⟨"TokenBusModel", "request", "(IIII)I"⟩ prog_9_method_9_code 5 (some .int) ∈ xGW := xGW_in (List.mem_of_getElem? (i := 820) (by decide +kernel)) (by decide +kernel)
theorem nm_M_request : ("TokenBusModel" ≠ "java/lang/invoke/MethodHandle" ∧ "TokenBusModel" ≠ "java/lang/invoke/VarHandle" ∧ (parseMethodDescriptor "(IIII)I").map (fun d => d.parameters.length) = some 4) ∧ plainFor ⟨"TokenBusModel", "request", "(IIII)I"⟩ = true := ⟨by decide +kernel, plainFor_of_name (by decide +kernel)⟩
theorem im_M_spoil : Cond.instanceMethod ⟨"TokenBusModel", "spoil", "(III)Z"⟩ ∈ xGW := xGW_in (List.mem_of_getElem? (i := 826) (by decide +kernel)) (by decide +kernel)
theorem se_M_spoil : Cond.selects "TokenBusModel" ⟨"TokenBusModel", "spoil", "(III)Z"⟩ ⟨"TokenBusModel", "spoil", "(III)Z"⟩ ∈ xGW := xGW_in (List.mem_of_getElem? (i := 827) (by decide +kernel)) (by decide +kernel)
theorem co_M_spoil : Cond.code ⟨"TokenBusModel", "spoil", "(III)Z"⟩ prog_9_method_10_code 4 (some .boolean) ∈ xGW := xGW_in (List.mem_of_getElem? (i := 828) (by decide +kernel)) (by decide +kernel)
theorem nm_M_spoil : ("TokenBusModel" ≠ "java/lang/invoke/MethodHandle" ∧ "TokenBusModel" ≠ "java/lang/invoke/VarHandle" ∧ (parseMethodDescriptor "(III)Z").map (fun d => d.parameters.length) = some 3) ∧ plainFor ⟨"TokenBusModel", "spoil", "(III)Z"⟩ = true := ⟨by decide +kernel, plainFor_of_name (by decide +kernel)⟩
theorem st_M_grown : Cond.static ⟨"TokenBusModel", "grown", "(III)I"⟩ ∈ xGW := xGW_in (List.mem_of_getElem? (i := 881) (by decide +kernel)) (by decide +kernel)
theorem co_M_grown : Cond.code ⟨"TokenBusModel", "grown", "(III)I"⟩ prog_9_method_11_code 6 (some .int) ∈ xGW := xGW_in (List.mem_of_getElem? (i := 882) (by decide +kernel)) (by decide +kernel)
theorem nm_M_grown : ("TokenBusModel" ≠ "java/lang/invoke/MethodHandle" ∧ "TokenBusModel" ≠ "java/lang/invoke/VarHandle" ∧ (parseMethodDescriptor "(III)I").map (fun d => d.parameters.length) = some 3) ∧ plainFor ⟨"TokenBusModel", "grown", "(III)I"⟩ = true := ⟨by decide +kernel, plainFor_of_name (by decide +kernel)⟩
theorem im_M_headCheck : Cond.instanceMethod ⟨"TokenBusModel", "headCheck", "(I)I"⟩ ∈ xGW := xGW_in (List.mem_of_getElem? (i := 878) (by decide +kernel)) (by decide +kernel)
theorem se_M_headCheck : Cond.selects "TokenBusModel" ⟨"TokenBusModel", "headCheck", "(I)I"⟩ ⟨"TokenBusModel", "headCheck", "(I)I"⟩ ∈ xGW := xGW_in (List.mem_of_getElem? (i := 35) (by decide +kernel)) (by decide +kernel)
theorem co_M_headCheck : Cond.code ⟨"TokenBusModel", "headCheck", "(I)I"⟩ prog_9_method_12_code 4 (some .int) ∈ xGW := xGW_in (List.mem_of_getElem? (i := 879) (by decide +kernel)) (by decide +kernel)
theorem nm_M_headCheck : ("TokenBusModel" ≠ "java/lang/invoke/MethodHandle" ∧ "TokenBusModel" ≠ "java/lang/invoke/VarHandle" ∧ (parseMethodDescriptor "(I)I").map (fun d => d.parameters.length) = some 1) ∧ plainFor ⟨"TokenBusModel", "headCheck", "(I)I"⟩ = true := ⟨by decide +kernel, plainFor_of_name (by decide +kernel)⟩
theorem im_M_dataCheck : Cond.instanceMethod ⟨"TokenBusModel", "dataCheck", "(I)I"⟩ ∈ xGW := xGW_in (List.mem_of_getElem? (i := 885) (by decide +kernel)) (by decide +kernel)
theorem se_M_dataCheck : Cond.selects "TokenBusModel" ⟨"TokenBusModel", "dataCheck", "(I)I"⟩ ⟨"TokenBusModel", "dataCheck", "(I)I"⟩ ∈ xGW := xGW_in (List.mem_of_getElem? (i := 36) (by decide +kernel)) (by decide +kernel)
theorem co_M_dataCheck : Cond.code ⟨"TokenBusModel", "dataCheck", "(I)I"⟩ prog_9_method_13_code 4 (some .int) ∈ xGW := xGW_in (List.mem_of_getElem? (i := 886) (by decide +kernel)) (by decide +kernel)
theorem nm_M_dataCheck : ("TokenBusModel" ≠ "java/lang/invoke/MethodHandle" ∧ "TokenBusModel" ≠ "java/lang/invoke/VarHandle" ∧ (parseMethodDescriptor "(I)I").map (fun d => d.parameters.length) = some 1) ∧ plainFor ⟨"TokenBusModel", "dataCheck", "(I)I"⟩ = true := ⟨by decide +kernel, plainFor_of_name (by decide +kernel)⟩
theorem im_M_carry : Cond.instanceMethod ⟨"TokenBusModel", "carry", "(IIIZ)Z"⟩ ∈ xGW := xGW_in (List.mem_of_getElem? (i := 874) (by decide +kernel)) (by decide +kernel)
theorem se_M_carry : Cond.selects "TokenBusModel" ⟨"TokenBusModel", "carry", "(IIIZ)Z"⟩ ⟨"TokenBusModel", "carry", "(IIIZ)Z"⟩ ∈ xGW := xGW_in (List.mem_of_getElem? (i := 34) (by decide +kernel)) (by decide +kernel)
theorem co_M_carry : Cond.code ⟨"TokenBusModel", "carry", "(IIIZ)Z"⟩ prog_9_method_14_code 9 (some .boolean) ∈ xGW := xGW_in (List.mem_of_getElem? (i := 875) (by decide +kernel)) (by decide +kernel)
theorem nm_M_carry : ("TokenBusModel" ≠ "java/lang/invoke/MethodHandle" ∧ "TokenBusModel" ≠ "java/lang/invoke/VarHandle" ∧ (parseMethodDescriptor "(IIIZ)Z").map (fun d => d.parameters.length) = some 4) ∧ plainFor ⟨"TokenBusModel", "carry", "(IIIZ)Z"⟩ = true := ⟨by decide +kernel, plainFor_of_name (by decide +kernel)⟩
theorem im_M_lay : Cond.instanceMethod ⟨"TokenBusModel", "lay", "(IIIII)V"⟩ ∈ xGW := xGW_in (List.mem_of_getElem? (i := 904) (by decide +kernel)) (by decide +kernel)
theorem se_M_lay : Cond.selects "TokenBusModel" ⟨"TokenBusModel", "lay", "(IIIII)V"⟩ ⟨"TokenBusModel", "lay", "(IIIII)V"⟩ ∈ xGW := xGW_in (List.mem_of_getElem? (i := 40) (by decide +kernel)) (by decide +kernel)
theorem co_M_lay : Cond.code ⟨"TokenBusModel", "lay", "(IIIII)V"⟩ prog_9_method_15_code 8 none ∈ xGW := xGW_in (List.mem_of_getElem? (i := 905) (by decide +kernel)) (by decide +kernel)
theorem nm_M_lay : ("TokenBusModel" ≠ "java/lang/invoke/MethodHandle" ∧ "TokenBusModel" ≠ "java/lang/invoke/VarHandle" ∧ (parseMethodDescriptor "(IIIII)V").map (fun d => d.parameters.length) = some 5) ∧ plainFor ⟨"TokenBusModel", "lay", "(IIIII)V"⟩ = true := ⟨by decide +kernel, plainFor_of_name (by decide +kernel)⟩
theorem im_M_outputOf : Cond.instanceMethod ⟨"TokenBusModel", "outputOf", "(I)I"⟩ ∈ xGW := xGW_in (List.mem_of_getElem? (i := 835) (by decide +kernel)) (by decide +kernel)
theorem se_M_outputOf : Cond.selects "TokenBusModel" ⟨"TokenBusModel", "outputOf", "(I)I"⟩ ⟨"TokenBusModel", "outputOf", "(I)I"⟩ ∈ xGW := xGW_in (List.mem_of_getElem? (i := 26) (by decide +kernel)) (by decide +kernel)
theorem co_M_outputOf : Cond.code ⟨"TokenBusModel", "outputOf", "(I)I"⟩ prog_9_method_16_code 3 (some .int) ∈ xGW := xGW_in (List.mem_of_getElem? (i := 836) (by decide +kernel)) (by decide +kernel)
theorem nm_M_outputOf : ("TokenBusModel" ≠ "java/lang/invoke/MethodHandle" ∧ "TokenBusModel" ≠ "java/lang/invoke/VarHandle" ∧ (parseMethodDescriptor "(I)I").map (fun d => d.parameters.length) = some 1) ∧ plainFor ⟨"TokenBusModel", "outputOf", "(I)I"⟩ = true := ⟨by decide +kernel, plainFor_of_name (by decide +kernel)⟩
theorem im_M_value : Cond.instanceMethod ⟨"TokenBusModel", "value", "(II)I"⟩ ∈ xGW := xGW_in (List.mem_of_getElem? (i := 830) (by decide +kernel)) (by decide +kernel)
theorem se_M_value : Cond.selects "TokenBusModel" ⟨"TokenBusModel", "value", "(II)I"⟩ ⟨"TokenBusModel", "value", "(II)I"⟩ ∈ xGW := xGW_in (List.mem_of_getElem? (i := 831) (by decide +kernel)) (by decide +kernel)
theorem co_M_value : Cond.code ⟨"TokenBusModel", "value", "(II)I"⟩ prog_9_method_17_code 3 (some .int) ∈ xGW := xGW_in (List.mem_of_getElem? (i := 832) (by decide +kernel)) (by decide +kernel)
theorem nm_M_value : ("TokenBusModel" ≠ "java/lang/invoke/MethodHandle" ∧ "TokenBusModel" ≠ "java/lang/invoke/VarHandle" ∧ (parseMethodDescriptor "(II)I").map (fun d => d.parameters.length) = some 2) ∧ plainFor ⟨"TokenBusModel", "value", "(II)I"⟩ = true := ⟨by decide +kernel, plainFor_of_name (by decide +kernel)⟩
theorem im_M_subscriptionsOf : Cond.instanceMethod ⟨"TokenBusModel", "subscriptionsOf", "(I)I"⟩ ∈ xGW := xGW_in (List.mem_of_getElem? (i := 920) (by decide +kernel)) (by decide +kernel)
theorem se_M_subscriptionsOf : Cond.selects "TokenBusModel" ⟨"TokenBusModel", "subscriptionsOf", "(I)I"⟩ ⟨"TokenBusModel", "subscriptionsOf", "(I)I"⟩ ∈ xGW := xGW_in (List.mem_of_getElem? (i := 44) (by decide +kernel)) (by decide +kernel)
theorem co_M_subscriptionsOf : Cond.code ⟨"TokenBusModel", "subscriptionsOf", "(I)I"⟩ prog_9_method_18_code 4 (some .int) ∈ xGW := xGW_in (List.mem_of_getElem? (i := 921) (by decide +kernel)) (by decide +kernel)
theorem nm_M_subscriptionsOf : ("TokenBusModel" ≠ "java/lang/invoke/MethodHandle" ∧ "TokenBusModel" ≠ "java/lang/invoke/VarHandle" ∧ (parseMethodDescriptor "(I)I").map (fun d => d.parameters.length) = some 1) ∧ plainFor ⟨"TokenBusModel", "subscriptionsOf", "(I)I"⟩ = true := ⟨by decide +kernel, plainFor_of_name (by decide +kernel)⟩
theorem im_M_subscribe : Cond.instanceMethod ⟨"TokenBusModel", "subscribe", "(III)Z"⟩ ∈ xGW := xGW_in (List.mem_of_getElem? (i := 916) (by decide +kernel)) (by decide +kernel)
theorem se_M_subscribe : Cond.selects "TokenBusModel" ⟨"TokenBusModel", "subscribe", "(III)Z"⟩ ⟨"TokenBusModel", "subscribe", "(III)Z"⟩ ∈ xGW := xGW_in (List.mem_of_getElem? (i := 43) (by decide +kernel)) (by decide +kernel)
theorem co_M_subscribe : Cond.code ⟨"TokenBusModel", "subscribe", "(III)Z"⟩ prog_9_method_19_code 5 (some .boolean) ∈ xGW := xGW_in (List.mem_of_getElem? (i := 917) (by decide +kernel)) (by decide +kernel)
theorem nm_M_subscribe : ("TokenBusModel" ≠ "java/lang/invoke/MethodHandle" ∧ "TokenBusModel" ≠ "java/lang/invoke/VarHandle" ∧ (parseMethodDescriptor "(III)Z").map (fun d => d.parameters.length) = some 3) ∧ plainFor ⟨"TokenBusModel", "subscribe", "(III)Z"⟩ = true := ⟨by decide +kernel, plainFor_of_name (by decide +kernel)⟩
theorem im_M_work : Cond.instanceMethod ⟨"TokenBusModel", "work", "(I)V"⟩ ∈ xGW := xGW_in (List.mem_of_getElem? (i := 912) (by decide +kernel)) (by decide +kernel)
theorem se_M_work : Cond.selects "TokenBusModel" ⟨"TokenBusModel", "work", "(I)V"⟩ ⟨"TokenBusModel", "work", "(I)V"⟩ ∈ xGW := xGW_in (List.mem_of_getElem? (i := 42) (by decide +kernel)) (by decide +kernel)
theorem co_M_work : Cond.code ⟨"TokenBusModel", "work", "(I)V"⟩ prog_9_method_20_code 9 none ∈ xGW := xGW_in (List.mem_of_getElem? (i := 913) (by decide +kernel)) (by decide +kernel)
theorem nm_M_work : ("TokenBusModel" ≠ "java/lang/invoke/MethodHandle" ∧ "TokenBusModel" ≠ "java/lang/invoke/VarHandle" ∧ (parseMethodDescriptor "(I)V").map (fun d => d.parameters.length) = some 1) ∧ plainFor ⟨"TokenBusModel", "work", "(I)V"⟩ = true := ⟨by decide +kernel, plainFor_of_name (by decide +kernel)⟩
theorem im_M_dueOf : Cond.instanceMethod ⟨"TokenBusModel", "dueOf", "(I)I"⟩ ∈ xGW := xGW_in (List.mem_of_getElem? (i := 851) (by decide +kernel)) (by decide +kernel)
theorem se_M_dueOf : Cond.selects "TokenBusModel" ⟨"TokenBusModel", "dueOf", "(I)I"⟩ ⟨"TokenBusModel", "dueOf", "(I)I"⟩ ∈ xGW := xGW_in (List.mem_of_getElem? (i := 29) (by decide +kernel)) (by decide +kernel)
theorem co_M_dueOf : Cond.code ⟨"TokenBusModel", "dueOf", "(I)I"⟩ prog_9_method_21_code 3 (some .int) ∈ xGW := xGW_in (List.mem_of_getElem? (i := 852) (by decide +kernel)) (by decide +kernel)
theorem nm_M_dueOf : ("TokenBusModel" ≠ "java/lang/invoke/MethodHandle" ∧ "TokenBusModel" ≠ "java/lang/invoke/VarHandle" ∧ (parseMethodDescriptor "(I)I").map (fun d => d.parameters.length) = some 1) ∧ plainFor ⟨"TokenBusModel", "dueOf", "(I)I"⟩ = true := ⟨by decide +kernel, plainFor_of_name (by decide +kernel)⟩
theorem im_M_firstOf : Cond.instanceMethod ⟨"TokenBusModel", "firstOf", "(I)I"⟩ ∈ xGW := xGW_in (List.mem_of_getElem? (i := 855) (by decide +kernel)) (by decide +kernel)
theorem se_M_firstOf : Cond.selects "TokenBusModel" ⟨"TokenBusModel", "firstOf", "(I)I"⟩ ⟨"TokenBusModel", "firstOf", "(I)I"⟩ ∈ xGW := xGW_in (List.mem_of_getElem? (i := 30) (by decide +kernel)) (by decide +kernel)
theorem co_M_firstOf : Cond.code ⟨"TokenBusModel", "firstOf", "(I)I"⟩ prog_9_method_22_code 3 (some .int) ∈ xGW := xGW_in (List.mem_of_getElem? (i := 856) (by decide +kernel)) (by decide +kernel)
theorem nm_M_firstOf : ("TokenBusModel" ≠ "java/lang/invoke/MethodHandle" ∧ "TokenBusModel" ≠ "java/lang/invoke/VarHandle" ∧ (parseMethodDescriptor "(I)I").map (fun d => d.parameters.length) = some 1) ∧ plainFor ⟨"TokenBusModel", "firstOf", "(I)I"⟩ = true := ⟨by decide +kernel, plainFor_of_name (by decide +kernel)⟩
theorem im_M_tell : Cond.instanceMethod ⟨"TokenBusModel", "tell", "(I)V"⟩ ∈ xGW := xGW_in (List.mem_of_getElem? (i := 899) (by decide +kernel)) (by decide +kernel)
theorem se_M_tell : Cond.selects "TokenBusModel" ⟨"TokenBusModel", "tell", "(I)V"⟩ ⟨"TokenBusModel", "tell", "(I)V"⟩ ∈ xGW := xGW_in (List.mem_of_getElem? (i := 39) (by decide +kernel)) (by decide +kernel)
theorem co_M_tell : Cond.code ⟨"TokenBusModel", "tell", "(I)V"⟩ prog_9_method_23_code 4 none ∈ xGW := xGW_in (List.mem_of_getElem? (i := 900) (by decide +kernel)) (by decide +kernel)
theorem nm_M_tell : ("TokenBusModel" ≠ "java/lang/invoke/MethodHandle" ∧ "TokenBusModel" ≠ "java/lang/invoke/VarHandle" ∧ (parseMethodDescriptor "(I)V").map (fun d => d.parameters.length) = some 1) ∧ plainFor ⟨"TokenBusModel", "tell", "(I)V"⟩ = true := ⟨by decide +kernel, plainFor_of_name (by decide +kernel)⟩
theorem im_M_ask : Cond.instanceMethod ⟨"TokenBusModel", "ask", "(I)V"⟩ ∈ xGW := xGW_in (List.mem_of_getElem? (i := 908) (by decide +kernel)) (by decide +kernel)
theorem se_M_ask : Cond.selects "TokenBusModel" ⟨"TokenBusModel", "ask", "(I)V"⟩ ⟨"TokenBusModel", "ask", "(I)V"⟩ ∈ xGW := xGW_in (List.mem_of_getElem? (i := 41) (by decide +kernel)) (by decide +kernel)
theorem co_M_ask : Cond.code ⟨"TokenBusModel", "ask", "(I)V"⟩ prog_9_method_24_code 6 none ∈ xGW := xGW_in (List.mem_of_getElem? (i := 909) (by decide +kernel)) (by decide +kernel)
theorem nm_M_ask : ("TokenBusModel" ≠ "java/lang/invoke/MethodHandle" ∧ "TokenBusModel" ≠ "java/lang/invoke/VarHandle" ∧ (parseMethodDescriptor "(I)V").map (fun d => d.parameters.length) = some 1) ∧ plainFor ⟨"TokenBusModel", "ask", "(I)V"⟩ = true := ⟨by decide +kernel, plainFor_of_name (by decide +kernel)⟩
theorem im_M_use : Cond.instanceMethod ⟨"TokenBusModel", "use", "()V"⟩ ∈ xGW := xGW_in (List.mem_of_getElem? (i := 847) (by decide +kernel)) (by decide +kernel)
theorem se_M_use : Cond.selects "TokenBusModel" ⟨"TokenBusModel", "use", "()V"⟩ ⟨"TokenBusModel", "use", "()V"⟩ ∈ xGW := xGW_in (List.mem_of_getElem? (i := 28) (by decide +kernel)) (by decide +kernel)
theorem co_M_use : Cond.code ⟨"TokenBusModel", "use", "()V"⟩ prog_9_method_25_code 3 none ∈ xGW := xGW_in (List.mem_of_getElem? (i := 848) (by decide +kernel)) (by decide +kernel)
theorem nm_M_use : ("TokenBusModel" ≠ "java/lang/invoke/MethodHandle" ∧ "TokenBusModel" ≠ "java/lang/invoke/VarHandle" ∧ (parseMethodDescriptor "()V").map (fun d => d.parameters.length) = some 0) ∧ plainFor ⟨"TokenBusModel", "use", "()V"⟩ = true := ⟨by decide +kernel, plainFor_of_name (by decide +kernel)⟩
theorem im_M_toUse : Cond.instanceMethod ⟨"TokenBusModel", "toUse", "()V"⟩ ∈ xGW := xGW_in (List.mem_of_getElem? (i := 891) (by decide +kernel)) (by decide +kernel)
theorem se_M_toUse : Cond.selects "TokenBusModel" ⟨"TokenBusModel", "toUse", "()V"⟩ ⟨"TokenBusModel", "toUse", "()V"⟩ ∈ xGW := xGW_in (List.mem_of_getElem? (i := 37) (by decide +kernel)) (by decide +kernel)
theorem co_M_toUse : Cond.code ⟨"TokenBusModel", "toUse", "()V"⟩ prog_9_method_26_code 1 none ∈ xGW := xGW_in (List.mem_of_getElem? (i := 892) (by decide +kernel)) (by decide +kernel)
theorem nm_M_toUse : ("TokenBusModel" ≠ "java/lang/invoke/MethodHandle" ∧ "TokenBusModel" ≠ "java/lang/invoke/VarHandle" ∧ (parseMethodDescriptor "()V").map (fun d => d.parameters.length) = some 0) ∧ plainFor ⟨"TokenBusModel", "toUse", "()V"⟩ = true := ⟨by decide +kernel, plainFor_of_name (by decide +kernel)⟩
theorem im_M_toPass : Cond.instanceMethod ⟨"TokenBusModel", "toPass", "()V"⟩ ∈ xGW := xGW_in (List.mem_of_getElem? (i := 866) (by decide +kernel)) (by decide +kernel)
theorem se_M_toPass : Cond.selects "TokenBusModel" ⟨"TokenBusModel", "toPass", "()V"⟩ ⟨"TokenBusModel", "toPass", "()V"⟩ ∈ xGW := xGW_in (List.mem_of_getElem? (i := 32) (by decide +kernel)) (by decide +kernel)
theorem co_M_toPass : Cond.code ⟨"TokenBusModel", "toPass", "()V"⟩ prog_9_method_27_code 1 none ∈ xGW := xGW_in (List.mem_of_getElem? (i := 867) (by decide +kernel)) (by decide +kernel)
theorem nm_M_toPass : ("TokenBusModel" ≠ "java/lang/invoke/MethodHandle" ∧ "TokenBusModel" ≠ "java/lang/invoke/VarHandle" ∧ (parseMethodDescriptor "()V").map (fun d => d.parameters.length) = some 0) ∧ plainFor ⟨"TokenBusModel", "toPass", "()V"⟩ = true := ⟨by decide +kernel, plainFor_of_name (by decide +kernel)⟩
theorem st_M_behind : Cond.static ⟨"TokenBusModel", "behind", "(I)I"⟩ ∈ xGW := xGW_in (List.mem_of_getElem? (i := 862) (by decide +kernel)) (by decide +kernel)
theorem co_M_behind : Cond.code ⟨"TokenBusModel", "behind", "(I)I"⟩ prog_9_method_28_code 1 (some .int) ∈ xGW := xGW_in (List.mem_of_getElem? (i := 863) (by decide +kernel)) (by decide +kernel)
theorem nm_M_behind : ("TokenBusModel" ≠ "java/lang/invoke/MethodHandle" ∧ "TokenBusModel" ≠ "java/lang/invoke/VarHandle" ∧ (parseMethodDescriptor "(I)I").map (fun d => d.parameters.length) = some 1) ∧ plainFor ⟨"TokenBusModel", "behind", "(I)I"⟩ = true := ⟨by decide +kernel, plainFor_of_name (by decide +kernel)⟩
theorem im_M_join : Cond.instanceMethod ⟨"TokenBusModel", "join", "(I)V"⟩ ∈ xGW := xGW_in (List.mem_of_getElem? (i := 895) (by decide +kernel)) (by decide +kernel)
theorem se_M_join : Cond.selects "TokenBusModel" ⟨"TokenBusModel", "join", "(I)V"⟩ ⟨"TokenBusModel", "join", "(I)V"⟩ ∈ xGW := xGW_in (List.mem_of_getElem? (i := 38) (by decide +kernel)) (by decide +kernel)
theorem co_M_join : Cond.code ⟨"TokenBusModel", "join", "(I)V"⟩ prog_9_method_29_code 2 none ∈ xGW := xGW_in (List.mem_of_getElem? (i := 896) (by decide +kernel)) (by decide +kernel)
theorem nm_M_join : ("TokenBusModel" ≠ "java/lang/invoke/MethodHandle" ∧ "TokenBusModel" ≠ "java/lang/invoke/VarHandle" ∧ (parseMethodDescriptor "(I)V").map (fun d => d.parameters.length) = some 1) ∧ plainFor ⟨"TokenBusModel", "join", "(I)V"⟩ = true := ⟨by decide +kernel, plainFor_of_name (by decide +kernel)⟩
theorem im_M_poll : Cond.instanceMethod ⟨"TokenBusModel", "poll", "()V"⟩ ∈ xGW := xGW_in (List.mem_of_getElem? (i := 859) (by decide +kernel)) (by decide +kernel)
theorem se_M_poll : Cond.selects "TokenBusModel" ⟨"TokenBusModel", "poll", "()V"⟩ ⟨"TokenBusModel", "poll", "()V"⟩ ∈ xGW := xGW_in (List.mem_of_getElem? (i := 31) (by decide +kernel)) (by decide +kernel)
theorem co_M_poll : Cond.code ⟨"TokenBusModel", "poll", "()V"⟩ prog_9_method_30_code 3 none ∈ xGW := xGW_in (List.mem_of_getElem? (i := 860) (by decide +kernel)) (by decide +kernel)
theorem nm_M_poll : ("TokenBusModel" ≠ "java/lang/invoke/MethodHandle" ∧ "TokenBusModel" ≠ "java/lang/invoke/VarHandle" ∧ (parseMethodDescriptor "()V").map (fun d => d.parameters.length) = some 0) ∧ plainFor ⟨"TokenBusModel", "poll", "()V"⟩ = true := ⟨by decide +kernel, plainFor_of_name (by decide +kernel)⟩
theorem im_M_pass : Cond.instanceMethod ⟨"TokenBusModel", "pass", "()V"⟩ ∈ xGW := xGW_in (List.mem_of_getElem? (i := 870) (by decide +kernel)) (by decide +kernel)
theorem se_M_pass : Cond.selects "TokenBusModel" ⟨"TokenBusModel", "pass", "()V"⟩ ⟨"TokenBusModel", "pass", "()V"⟩ ∈ xGW := xGW_in (List.mem_of_getElem? (i := 33) (by decide +kernel)) (by decide +kernel)
theorem co_M_pass : Cond.code ⟨"TokenBusModel", "pass", "()V"⟩ prog_9_method_31_code 2 none ∈ xGW := xGW_in (List.mem_of_getElem? (i := 871) (by decide +kernel)) (by decide +kernel)
theorem nm_M_pass : ("TokenBusModel" ≠ "java/lang/invoke/MethodHandle" ∧ "TokenBusModel" ≠ "java/lang/invoke/VarHandle" ∧ (parseMethodDescriptor "()V").map (fun d => d.parameters.length) = some 0) ∧ plainFor ⟨"TokenBusModel", "pass", "()V"⟩ = true := ⟨by decide +kernel, plainFor_of_name (by decide +kernel)⟩
theorem im_M_search : Cond.instanceMethod ⟨"TokenBusModel", "search", "()V"⟩ ∈ xGW := xGW_in (List.mem_of_getElem? (i := 924) (by decide +kernel)) (by decide +kernel)
theorem se_M_search : Cond.selects "TokenBusModel" ⟨"TokenBusModel", "search", "()V"⟩ ⟨"TokenBusModel", "search", "()V"⟩ ∈ xGW := xGW_in (List.mem_of_getElem? (i := 45) (by decide +kernel)) (by decide +kernel)
theorem co_M_search : Cond.code ⟨"TokenBusModel", "search", "()V"⟩ prog_9_method_32_code 3 none ∈ xGW := xGW_in (List.mem_of_getElem? (i := 925) (by decide +kernel)) (by decide +kernel)
theorem nm_M_search : ("TokenBusModel" ≠ "java/lang/invoke/MethodHandle" ∧ "TokenBusModel" ≠ "java/lang/invoke/VarHandle" ∧ (parseMethodDescriptor "()V").map (fun d => d.parameters.length) = some 0) ∧ plainFor ⟨"TokenBusModel", "search", "()V"⟩ = true := ⟨by decide +kernel, plainFor_of_name (by decide +kernel)⟩
theorem im_M_listen : Cond.instanceMethod ⟨"TokenBusModel", "listen", "()V"⟩ ∈ xGW := xGW_in (List.mem_of_getElem? (i := 843) (by decide +kernel)) (by decide +kernel)
theorem se_M_listen : Cond.selects "TokenBusModel" ⟨"TokenBusModel", "listen", "()V"⟩ ⟨"TokenBusModel", "listen", "()V"⟩ ∈ xGW := xGW_in (List.mem_of_getElem? (i := 27) (by decide +kernel)) (by decide +kernel)
theorem co_M_listen : Cond.code ⟨"TokenBusModel", "listen", "()V"⟩ prog_9_method_33_code 2 none ∈ xGW := xGW_in (List.mem_of_getElem? (i := 844) (by decide +kernel)) (by decide +kernel)
theorem nm_M_listen : ("TokenBusModel" ≠ "java/lang/invoke/MethodHandle" ∧ "TokenBusModel" ≠ "java/lang/invoke/VarHandle" ∧ (parseMethodDescriptor "()V").map (fun d => d.parameters.length) = some 0) ∧ plainFor ⟨"TokenBusModel", "listen", "()V"⟩ = true := ⟨by decide +kernel, plainFor_of_name (by decide +kernel)⟩
theorem st_M_quotient : Cond.static ⟨"TokenBusModel", "quotient", "(II)I"⟩ ∈ xGW := xGW_in (List.mem_of_getElem? (i := 934) (by decide +kernel)) (by decide +kernel)
theorem co_M_quotient : Cond.code ⟨"TokenBusModel", "quotient", "(II)I"⟩ prog_9_method_34_code 2 (some .int) ∈ xGW := xGW_in (List.mem_of_getElem? (i := 935) (by decide +kernel)) (by decide +kernel)
theorem nm_M_quotient : ("TokenBusModel" ≠ "java/lang/invoke/MethodHandle" ∧ "TokenBusModel" ≠ "java/lang/invoke/VarHandle" ∧ (parseMethodDescriptor "(II)I").map (fun d => d.parameters.length) = some 2) ∧ plainFor ⟨"TokenBusModel", "quotient", "(II)I"⟩ = true := ⟨by decide +kernel, plainFor_of_name (by decide +kernel)⟩
theorem im_M_settle : Cond.instanceMethod ⟨"TokenBusModel", "settle", "()V"⟩ ∈ xGW := xGW_in (List.mem_of_getElem? (i := 928) (by decide +kernel)) (by decide +kernel)
theorem se_M_settle : Cond.selects "TokenBusModel" ⟨"TokenBusModel", "settle", "()V"⟩ ⟨"TokenBusModel", "settle", "()V"⟩ ∈ xGW := xGW_in (List.mem_of_getElem? (i := 46) (by decide +kernel)) (by decide +kernel)
theorem co_M_settle : Cond.code ⟨"TokenBusModel", "settle", "()V"⟩ prog_9_method_35_code 4 none ∈ xGW := xGW_in (List.mem_of_getElem? (i := 929) (by decide +kernel)) (by decide +kernel)
theorem nm_M_settle : ("TokenBusModel" ≠ "java/lang/invoke/MethodHandle" ∧ "TokenBusModel" ≠ "java/lang/invoke/VarHandle" ∧ (parseMethodDescriptor "()V").map (fun d => d.parameters.length) = some 0) ∧ plainFor ⟨"TokenBusModel", "settle", "()V"⟩ = true := ⟨by decide +kernel, plainFor_of_name (by decide +kernel)⟩
theorem im_M_step : Cond.instanceMethod ⟨"TokenBusModel", "step", "()I"⟩ ∈ xGW := xGW_in (List.mem_of_getElem? (i := 838) (by decide +kernel)) (by decide +kernel)
theorem se_M_step : Cond.selects "TokenBusModel" ⟨"TokenBusModel", "step", "()I"⟩ ⟨"TokenBusModel", "step", "()I"⟩ ∈ xGW := xGW_in (List.mem_of_getElem? (i := 839) (by decide +kernel)) (by decide +kernel)
theorem co_M_step : Cond.code ⟨"TokenBusModel", "step", "()I"⟩ prog_9_method_36_code 1 (some .int) ∈ xGW := xGW_in (List.mem_of_getElem? (i := 840) (by decide +kernel)) (by decide +kernel)
theorem nm_M_step : ("TokenBusModel" ≠ "java/lang/invoke/MethodHandle" ∧ "TokenBusModel" ≠ "java/lang/invoke/VarHandle" ∧ (parseMethodDescriptor "()I").map (fun d => d.parameters.length) = some 0) ∧ plainFor ⟨"TokenBusModel", "step", "()I"⟩ = true := ⟨by decide +kernel, plainFor_of_name (by decide +kernel)⟩
theorem im_M_holder : Cond.instanceMethod ⟨"TokenBusModel", "holder", "()I"⟩ ∈ xGW := xGW_in (List.mem_of_getElem? (i := 939) (by decide +kernel)) (by decide +kernel)
theorem se_M_holder : Cond.selects "TokenBusModel" ⟨"TokenBusModel", "holder", "()I"⟩ ⟨"TokenBusModel", "holder", "()I"⟩ ∈ xGW := xGW_in (List.mem_of_getElem? (i := 940) (by decide +kernel)) (by decide +kernel)
theorem co_M_holder : Cond.code ⟨"TokenBusModel", "holder", "()I"⟩ prog_9_method_37_code 1 (some .int) ∈ xGW := xGW_in (List.mem_of_getElem? (i := 941) (by decide +kernel)) (by decide +kernel)
theorem nm_M_holder : ("TokenBusModel" ≠ "java/lang/invoke/MethodHandle" ∧ "TokenBusModel" ≠ "java/lang/invoke/VarHandle" ∧ (parseMethodDescriptor "()I").map (fun d => d.parameters.length) = some 0) ∧ plainFor ⟨"TokenBusModel", "holder", "()I"⟩ = true := ⟨by decide +kernel, plainFor_of_name (by decide +kernel)⟩
theorem im_M_phase : Cond.instanceMethod ⟨"TokenBusModel", "phase", "()I"⟩ ∈ xGW := xGW_in (List.mem_of_getElem? (i := 943) (by decide +kernel)) (by decide +kernel)
theorem se_M_phase : Cond.selects "TokenBusModel" ⟨"TokenBusModel", "phase", "()I"⟩ ⟨"TokenBusModel", "phase", "()I"⟩ ∈ xGW := xGW_in (List.mem_of_getElem? (i := 944) (by decide +kernel)) (by decide +kernel)
theorem co_M_phase : Cond.code ⟨"TokenBusModel", "phase", "()I"⟩ prog_9_method_38_code 1 (some .int) ∈ xGW := xGW_in (List.mem_of_getElem? (i := 945) (by decide +kernel)) (by decide +kernel)
theorem nm_M_phase : ("TokenBusModel" ≠ "java/lang/invoke/MethodHandle" ∧ "TokenBusModel" ≠ "java/lang/invoke/VarHandle" ∧ (parseMethodDescriptor "()I").map (fun d => d.parameters.length) = some 0) ∧ plainFor ⟨"TokenBusModel", "phase", "()I"⟩ = true := ⟨by decide +kernel, plainFor_of_name (by decide +kernel)⟩
theorem im_M_node : Cond.instanceMethod ⟨"TokenBusModel", "node", "(II)I"⟩ ∈ xGW := xGW_in (List.mem_of_getElem? (i := 947) (by decide +kernel)) (by decide +kernel)
theorem se_M_node : Cond.selects "TokenBusModel" ⟨"TokenBusModel", "node", "(II)I"⟩ ⟨"TokenBusModel", "node", "(II)I"⟩ ∈ xGW := xGW_in (List.mem_of_getElem? (i := 948) (by decide +kernel)) (by decide +kernel)
theorem co_M_node : Cond.code ⟨"TokenBusModel", "node", "(II)I"⟩ prog_9_method_39_code 3 (some .int) ∈ xGW := xGW_in (List.mem_of_getElem? (i := 949) (by decide +kernel)) (by decide +kernel)
theorem nm_M_node : ("TokenBusModel" ≠ "java/lang/invoke/MethodHandle" ∧ "TokenBusModel" ≠ "java/lang/invoke/VarHandle" ∧ (parseMethodDescriptor "(II)I").map (fun d => d.parameters.length) = some 2) ∧ plainFor ⟨"TokenBusModel", "node", "(II)I"⟩ = true := ⟨by decide +kernel, plainFor_of_name (by decide +kernel)⟩
theorem im_M_level : Cond.instanceMethod ⟨"TokenBusModel", "level", "(II)I"⟩ ∈ xGW := xGW_in (List.mem_of_getElem? (i := 951) (by decide +kernel)) (by decide +kernel)
theorem se_M_level : Cond.selects "TokenBusModel" ⟨"TokenBusModel", "level", "(II)I"⟩ ⟨"TokenBusModel", "level", "(II)I"⟩ ∈ xGW := xGW_in (List.mem_of_getElem? (i := 952) (by decide +kernel)) (by decide +kernel)
theorem co_M_level : Cond.code ⟨"TokenBusModel", "level", "(II)I"⟩ prog_9_method_40_code 3 (some .int) ∈ xGW := xGW_in (List.mem_of_getElem? (i := 953) (by decide +kernel)) (by decide +kernel)
theorem nm_M_level : ("TokenBusModel" ≠ "java/lang/invoke/MethodHandle" ∧ "TokenBusModel" ≠ "java/lang/invoke/VarHandle" ∧ (parseMethodDescriptor "(II)I").map (fun d => d.parameters.length) = some 2) ∧ plainFor ⟨"TokenBusModel", "level", "(II)I"⟩ = true := ⟨by decide +kernel, plainFor_of_name (by decide +kernel)⟩
theorem im_M_set : Cond.instanceMethod ⟨"TokenBusModel", "set", "(II)Z"⟩ ∈ xGW := xGW_in (List.mem_of_getElem? (i := 955) (by decide +kernel)) (by decide +kernel)
theorem se_M_set : Cond.selects "TokenBusModel" ⟨"TokenBusModel", "set", "(II)Z"⟩ ⟨"TokenBusModel", "set", "(II)Z"⟩ ∈ xGW := xGW_in (List.mem_of_getElem? (i := 956) (by decide +kernel)) (by decide +kernel)
theorem co_M_set : Cond.code ⟨"TokenBusModel", "set", "(II)Z"⟩ prog_9_method_41_code 3 (some .boolean) ∈ xGW := xGW_in (List.mem_of_getElem? (i := 957) (by decide +kernel)) (by decide +kernel)
theorem nm_M_set : ("TokenBusModel" ≠ "java/lang/invoke/MethodHandle" ∧ "TokenBusModel" ≠ "java/lang/invoke/VarHandle" ∧ (parseMethodDescriptor "(II)Z").map (fun d => d.parameters.length) = some 2) ∧ plainFor ⟨"TokenBusModel", "set", "(II)Z"⟩ = true := ⟨by decide +kernel, plainFor_of_name (by decide +kernel)⟩
theorem im_M_state : Cond.instanceMethod ⟨"TokenBusModel", "state", "(I)I"⟩ ∈ xGW := xGW_in (List.mem_of_getElem? (i := 960) (by decide +kernel)) (by decide +kernel)
theorem se_M_state : Cond.selects "TokenBusModel" ⟨"TokenBusModel", "state", "(I)I"⟩ ⟨"TokenBusModel", "state", "(I)I"⟩ ∈ xGW := xGW_in (List.mem_of_getElem? (i := 961) (by decide +kernel)) (by decide +kernel)
theorem co_M_state : Cond.code ⟨"TokenBusModel", "state", "(I)I"⟩ prog_9_method_42_code 2 (some .int) ∈ xGW := xGW_in (List.mem_of_getElem? (i := 962) (by decide +kernel)) (by decide +kernel)
theorem nm_M_state : ("TokenBusModel" ≠ "java/lang/invoke/MethodHandle" ∧ "TokenBusModel" ≠ "java/lang/invoke/VarHandle" ∧ (parseMethodDescriptor "(I)I").map (fun d => d.parameters.length) = some 1) ∧ plainFor ⟨"TokenBusModel", "state", "(I)I"⟩ = true := ⟨by decide +kernel, plainFor_of_name (by decide +kernel)⟩
theorem im_M_answer : Cond.instanceMethod ⟨"TokenBusModel", "answer", "(I)I"⟩ ∈ xGW := xGW_in (List.mem_of_getElem? (i := 964) (by decide +kernel)) (by decide +kernel)
theorem se_M_answer : Cond.selects "TokenBusModel" ⟨"TokenBusModel", "answer", "(I)I"⟩ ⟨"TokenBusModel", "answer", "(I)I"⟩ ∈ xGW := xGW_in (List.mem_of_getElem? (i := 965) (by decide +kernel)) (by decide +kernel)
theorem co_M_answer : Cond.code ⟨"TokenBusModel", "answer", "(I)I"⟩ prog_9_method_43_code 2 (some .int) ∈ xGW := xGW_in (List.mem_of_getElem? (i := 966) (by decide +kernel)) (by decide +kernel)
theorem nm_M_answer : ("TokenBusModel" ≠ "java/lang/invoke/MethodHandle" ∧ "TokenBusModel" ≠ "java/lang/invoke/VarHandle" ∧ (parseMethodDescriptor "(I)I").map (fun d => d.parameters.length) = some 1) ∧ plainFor ⟨"TokenBusModel", "answer", "(I)I"⟩ = true := ⟨by decide +kernel, plainFor_of_name (by decide +kernel)⟩
theorem im_M_noted : Cond.instanceMethod ⟨"TokenBusModel", "noted", "(II)I"⟩ ∈ xGW := xGW_in (List.mem_of_getElem? (i := 968) (by decide +kernel)) (by decide +kernel)
theorem se_M_noted : Cond.selects "TokenBusModel" ⟨"TokenBusModel", "noted", "(II)I"⟩ ⟨"TokenBusModel", "noted", "(II)I"⟩ ∈ xGW := xGW_in (List.mem_of_getElem? (i := 969) (by decide +kernel)) (by decide +kernel)
theorem co_M_noted : Cond.code ⟨"TokenBusModel", "noted", "(II)I"⟩ prog_9_method_44_code 3 (some .int) ∈ xGW := xGW_in (List.mem_of_getElem? (i := 970) (by decide +kernel)) (by decide +kernel)
theorem nm_M_noted : ("TokenBusModel" ≠ "java/lang/invoke/MethodHandle" ∧ "TokenBusModel" ≠ "java/lang/invoke/VarHandle" ∧ (parseMethodDescriptor "(II)I").map (fun d => d.parameters.length) = some 2) ∧ plainFor ⟨"TokenBusModel", "noted", "(II)I"⟩ = true := ⟨by decide +kernel, plainFor_of_name (by decide +kernel)⟩
theorem im_M_frame : Cond.instanceMethod ⟨"TokenBusModel", "frame", "(II)I"⟩ ∈ xGW := xGW_in (List.mem_of_getElem? (i := 972) (by decide +kernel)) (by decide +kernel)
theorem se_M_frame : Cond.selects "TokenBusModel" ⟨"TokenBusModel", "frame", "(II)I"⟩ ⟨"TokenBusModel", "frame", "(II)I"⟩ ∈ xGW := xGW_in (List.mem_of_getElem? (i := 973) (by decide +kernel)) (by decide +kernel)
theorem co_M_frame : Cond.code ⟨"TokenBusModel", "frame", "(II)I"⟩ prog_9_method_45_code 3 (some .int) ∈ xGW := xGW_in (List.mem_of_getElem? (i := 974) (by decide +kernel)) (by decide +kernel)
theorem nm_M_frame : ("TokenBusModel" ≠ "java/lang/invoke/MethodHandle" ∧ "TokenBusModel" ≠ "java/lang/invoke/VarHandle" ∧ (parseMethodDescriptor "(II)I").map (fun d => d.parameters.length) = some 2) ∧ plainFor ⟨"TokenBusModel", "frame", "(II)I"⟩ = true := ⟨by decide +kernel, plainFor_of_name (by decide +kernel)⟩
theorem im_M_total : Cond.instanceMethod ⟨"TokenBusModel", "total", "(I)I"⟩ ∈ xGW := xGW_in (List.mem_of_getElem? (i := 976) (by decide +kernel)) (by decide +kernel)
theorem se_M_total : Cond.selects "TokenBusModel" ⟨"TokenBusModel", "total", "(I)I"⟩ ⟨"TokenBusModel", "total", "(I)I"⟩ ∈ xGW := xGW_in (List.mem_of_getElem? (i := 977) (by decide +kernel)) (by decide +kernel)
theorem co_M_total : Cond.code ⟨"TokenBusModel", "total", "(I)I"⟩ prog_9_method_46_code 2 (some .int) ∈ xGW := xGW_in (List.mem_of_getElem? (i := 978) (by decide +kernel)) (by decide +kernel)
theorem nm_M_total : ("TokenBusModel" ≠ "java/lang/invoke/MethodHandle" ∧ "TokenBusModel" ≠ "java/lang/invoke/VarHandle" ∧ (parseMethodDescriptor "(I)I").map (fun d => d.parameters.length) = some 1) ∧ plainFor ⟨"TokenBusModel", "total", "(I)I"⟩ = true := ⟨by decide +kernel, plainFor_of_name (by decide +kernel)⟩
theorem im_F_init : Cond.instanceMethod ⟨"TokenBus$Frame", "<init>", "()V"⟩ ∈ xGW := xGW_in (List.mem_of_getElem? (i := 72) (by decide +kernel)) (by decide +kernel)
theorem co_F_init : Cond.code ⟨"TokenBus$Frame", "<init>", "()V"⟩ prog_2_method_1_code 1 none ∈ xGW := xGW_in (List.mem_of_getElem? (i := 73) (by decide +kernel)) (by decide +kernel)
theorem nm_F_init : ("TokenBus$Frame" ≠ "java/lang/invoke/MethodHandle" ∧ "TokenBus$Frame" ≠ "java/lang/invoke/VarHandle" ∧ (parseMethodDescriptor "()V").map (fun d => d.parameters.length) = some 0) ∧ plainFor ⟨"TokenBus$Frame", "<init>", "()V"⟩ = true := ⟨by decide +kernel, plainFor_of_name (by decide +kernel)⟩
theorem im_F_empty : Cond.instanceMethod ⟨"TokenBus$Frame", "empty", "()V"⟩ ∈ xGW := xGW_in (List.mem_of_getElem? (i := 381) (by decide +kernel)) (by decide +kernel)
theorem se_F_empty : Cond.selects "TokenBus$Frame" ⟨"TokenBus$Frame", "empty", "()V"⟩ ⟨"TokenBus$Frame", "empty", "()V"⟩ ∈ xGW := xGW_in (List.mem_of_getElem? (i := 382) (by decide +kernel)) (by decide +kernel)
theorem co_F_empty : Cond.code ⟨"TokenBus$Frame", "empty", "()V"⟩ prog_2_method_2_code 1 none ∈ xGW := xGW_in (List.mem_of_getElem? (i := 383) (by decide +kernel)) (by decide +kernel)
theorem nm_F_empty : ("TokenBus$Frame" ≠ "java/lang/invoke/MethodHandle" ∧ "TokenBus$Frame" ≠ "java/lang/invoke/VarHandle" ∧ (parseMethodDescriptor "()V").map (fun d => d.parameters.length) = some 0) ∧ plainFor ⟨"TokenBus$Frame", "empty", "()V"⟩ = true := ⟨by decide +kernel, plainFor_of_name (by decide +kernel)⟩
theorem im_F_planSpoiling : Cond.instanceMethod ⟨"TokenBus$Frame", "planSpoiling", "(II)V"⟩ ∈ xGW := xGW_in (List.mem_of_getElem? (i := 369) (by decide +kernel)) (by decide +kernel)
theorem se_F_planSpoiling : Cond.selects "TokenBus$Frame" ⟨"TokenBus$Frame", "planSpoiling", "(II)V"⟩ ⟨"TokenBus$Frame", "planSpoiling", "(II)V"⟩ ∈ xGW := xGW_in (List.mem_of_getElem? (i := 370) (by decide +kernel)) (by decide +kernel)
theorem co_F_planSpoiling : Cond.code ⟨"TokenBus$Frame", "planSpoiling", "(II)V"⟩ prog_2_method_3_code 3 none ∈ xGW := xGW_in (List.mem_of_getElem? (i := 371) (by decide +kernel)) (by decide +kernel)
theorem nm_F_planSpoiling : ("TokenBus$Frame" ≠ "java/lang/invoke/MethodHandle" ∧ "TokenBus$Frame" ≠ "java/lang/invoke/VarHandle" ∧ (parseMethodDescriptor "(II)V").map (fun d => d.parameters.length) = some 2) ∧ plainFor ⟨"TokenBus$Frame", "planSpoiling", "(II)V"⟩ = true := ⟨by decide +kernel, plainFor_of_name (by decide +kernel)⟩
theorem im_F_forgetSpoiling : Cond.instanceMethod ⟨"TokenBus$Frame", "forgetSpoiling", "()V"⟩ ∈ xGW := xGW_in (List.mem_of_getElem? (i := 361) (by decide +kernel)) (by decide +kernel)
theorem se_F_forgetSpoiling : Cond.selects "TokenBus$Frame" ⟨"TokenBus$Frame", "forgetSpoiling", "()V"⟩ ⟨"TokenBus$Frame", "forgetSpoiling", "()V"⟩ ∈ xGW := xGW_in (List.mem_of_getElem? (i := 362) (by decide +kernel)) (by decide +kernel)
theorem co_F_forgetSpoiling : Cond.code ⟨"TokenBus$Frame", "forgetSpoiling", "()V"⟩ prog_2_method_4_code 1 none ∈ xGW := xGW_in (List.mem_of_getElem? (i := 363) (by decide +kernel)) (by decide +kernel)
theorem nm_F_forgetSpoiling : ("TokenBus$Frame" ≠ "java/lang/invoke/MethodHandle" ∧ "TokenBus$Frame" ≠ "java/lang/invoke/VarHandle" ∧ (parseMethodDescriptor "()V").map (fun d => d.parameters.length) = some 0) ∧ plainFor ⟨"TokenBus$Frame", "forgetSpoiling", "()V"⟩ = true := ⟨by decide +kernel, plainFor_of_name (by decide +kernel)⟩
theorem im_F_writeHeader : Cond.instanceMethod ⟨"TokenBus$Frame", "writeHeader", "(IIII)V"⟩ ∈ xGW := xGW_in (List.mem_of_getElem? (i := 409) (by decide +kernel)) (by decide +kernel)
theorem se_F_writeHeader : Cond.selects "TokenBus$Frame" ⟨"TokenBus$Frame", "writeHeader", "(IIII)V"⟩ ⟨"TokenBus$Frame", "writeHeader", "(IIII)V"⟩ ∈ xGW := xGW_in (List.mem_of_getElem? (i := 410) (by decide +kernel)) (by decide +kernel)
theorem co_F_writeHeader : Cond.code ⟨"TokenBus$Frame", "writeHeader", "(IIII)V"⟩ prog_2_method_5_code 5 none ∈ xGW := xGW_in (List.mem_of_getElem? (i := 411) (by decide +kernel)) (by decide +kernel)
theorem nm_F_writeHeader : ("TokenBus$Frame" ≠ "java/lang/invoke/MethodHandle" ∧ "TokenBus$Frame" ≠ "java/lang/invoke/VarHandle" ∧ (parseMethodDescriptor "(IIII)V").map (fun d => d.parameters.length) = some 4) ∧ plainFor ⟨"TokenBus$Frame", "writeHeader", "(IIII)V"⟩ = true := ⟨by decide +kernel, plainFor_of_name (by decide +kernel)⟩
theorem im_F_writeData : Cond.instanceMethod ⟨"TokenBus$Frame", "writeData", "(IIIII)V"⟩ ∈ xGW := xGW_in (List.mem_of_getElem? (i := 471) (by decide +kernel)) (by decide +kernel)
theorem se_F_writeData : Cond.selects "TokenBus$Frame" ⟨"TokenBus$Frame", "writeData", "(IIIII)V"⟩ ⟨"TokenBus$Frame", "writeData", "(IIIII)V"⟩ ∈ xGW := xGW_in (List.mem_of_getElem? (i := 472) (by decide +kernel)) (by decide +kernel)
theorem co_F_writeData : Cond.code ⟨"TokenBus$Frame", "writeData", "(IIIII)V"⟩ prog_2_method_6_code 7 none ∈ xGW := xGW_in (List.mem_of_getElem? (i := 473) (by decide +kernel)) (by decide +kernel)
theorem nm_F_writeData : ("TokenBus$Frame" ≠ "java/lang/invoke/MethodHandle" ∧ "TokenBus$Frame" ≠ "java/lang/invoke/VarHandle" ∧ (parseMethodDescriptor "(IIIII)V").map (fun d => d.parameters.length) = some 5) ∧ plainFor ⟨"TokenBus$Frame", "writeData", "(IIIII)V"⟩ = true := ⟨by decide +kernel, plainFor_of_name (by decide +kernel)⟩
theorem im_F_spoilAsPlanned : Cond.instanceMethod ⟨"TokenBus$Frame", "spoilAsPlanned", "()V"⟩ ∈ xGW := xGW_in (List.mem_of_getElem? (i := 425) (by decide +kernel)) (by decide +kernel)
theorem se_F_spoilAsPlanned : Cond.selects "TokenBus$Frame" ⟨"TokenBus$Frame", "spoilAsPlanned", "()V"⟩ ⟨"TokenBus$Frame", "spoilAsPlanned", "()V"⟩ ∈ xGW := xGW_in (List.mem_of_getElem? (i := 426) (by decide +kernel)) (by decide +kernel)
theorem co_F_spoilAsPlanned : Cond.code ⟨"TokenBus$Frame", "spoilAsPlanned", "()V"⟩ prog_2_method_7_code 1 none ∈ xGW := xGW_in (List.mem_of_getElem? (i := 427) (by decide +kernel)) (by decide +kernel)
theorem nm_F_spoilAsPlanned : ("TokenBus$Frame" ≠ "java/lang/invoke/MethodHandle" ∧ "TokenBus$Frame" ≠ "java/lang/invoke/VarHandle" ∧ (parseMethodDescriptor "()V").map (fun d => d.parameters.length) = some 0) ∧ plainFor ⟨"TokenBus$Frame", "spoilAsPlanned", "()V"⟩ = true := ⟨by decide +kernel, plainFor_of_name (by decide +kernel)⟩
theorem im_F_isRight : Cond.instanceMethod ⟨"TokenBus$Frame", "isRight", "()Z"⟩ ∈ xGW := xGW_in (List.mem_of_getElem? (i := 433) (by decide +kernel)) (by decide +kernel)
theorem se_F_isRight : Cond.selects "TokenBus$Frame" ⟨"TokenBus$Frame", "isRight", "()Z"⟩ ⟨"TokenBus$Frame", "isRight", "()Z"⟩ ∈ xGW := xGW_in (List.mem_of_getElem? (i := 434) (by decide +kernel)) (by decide +kernel)
theorem co_F_isRight : Cond.code ⟨"TokenBus$Frame", "isRight", "()Z"⟩ prog_2_method_8_code 1 (some .boolean) ∈ xGW := xGW_in (List.mem_of_getElem? (i := 435) (by decide +kernel)) (by decide +kernel)
theorem nm_F_isRight : ("TokenBus$Frame" ≠ "java/lang/invoke/MethodHandle" ∧ "TokenBus$Frame" ≠ "java/lang/invoke/VarHandle" ∧ (parseMethodDescriptor "()Z").map (fun d => d.parameters.length) = some 0) ∧ plainFor ⟨"TokenBus$Frame", "isRight", "()Z"⟩ = true := ⟨by decide +kernel, plainFor_of_name (by decide +kernel)⟩
theorem im_F_destination : Cond.instanceMethod ⟨"TokenBus$Frame", "destination", "()I"⟩ ∈ xGW := xGW_in (List.mem_of_getElem? (i := 429) (by decide +kernel)) (by decide +kernel)
theorem se_F_destination : Cond.selects "TokenBus$Frame" ⟨"TokenBus$Frame", "destination", "()I"⟩ ⟨"TokenBus$Frame", "destination", "()I"⟩ ∈ xGW := xGW_in (List.mem_of_getElem? (i := 430) (by decide +kernel)) (by decide +kernel)
theorem co_F_destination : Cond.code ⟨"TokenBus$Frame", "destination", "()I"⟩ prog_2_method_9_code 1 (some .int) ∈ xGW := xGW_in (List.mem_of_getElem? (i := 431) (by decide +kernel)) (by decide +kernel)
theorem nm_F_destination : ("TokenBus$Frame" ≠ "java/lang/invoke/MethodHandle" ∧ "TokenBus$Frame" ≠ "java/lang/invoke/VarHandle" ∧ (parseMethodDescriptor "()I").map (fun d => d.parameters.length) = some 0) ∧ plainFor ⟨"TokenBus$Frame", "destination", "()I"⟩ = true := ⟨by decide +kernel, plainFor_of_name (by decide +kernel)⟩
theorem im_F_byteOrSize : Cond.instanceMethod ⟨"TokenBus$Frame", "byteOrSize", "(I)I"⟩ ∈ xGW := xGW_in (List.mem_of_getElem? (i := 650) (by decide +kernel)) (by decide +kernel)
theorem se_F_byteOrSize : Cond.selects "TokenBus$Frame" ⟨"TokenBus$Frame", "byteOrSize", "(I)I"⟩ ⟨"TokenBus$Frame", "byteOrSize", "(I)I"⟩ ∈ xGW := xGW_in (List.mem_of_getElem? (i := 651) (by decide +kernel)) (by decide +kernel)
theorem co_F_byteOrSize : Cond.code ⟨"TokenBus$Frame", "byteOrSize", "(I)I"⟩ prog_2_method_10_code 2 (some .int) ∈ xGW := xGW_in (List.mem_of_getElem? (i := 652) (by decide +kernel)) (by decide +kernel)
theorem nm_F_byteOrSize : ("TokenBus$Frame" ≠ "java/lang/invoke/MethodHandle" ∧ "TokenBus$Frame" ≠ "java/lang/invoke/VarHandle" ∧ (parseMethodDescriptor "(I)I").map (fun d => d.parameters.length) = some 1) ∧ plainFor ⟨"TokenBus$Frame", "byteOrSize", "(I)I"⟩ = true := ⟨by decide +kernel, plainFor_of_name (by decide +kernel)⟩
theorem im_F_headerCheck : Cond.instanceMethod ⟨"TokenBus$Frame", "headerCheck", "()I"⟩ ∈ xGW := xGW_in (List.mem_of_getElem? (i := 414) (by decide +kernel)) (by decide +kernel)
theorem se_F_headerCheck : Cond.selects "TokenBus$Frame" ⟨"TokenBus$Frame", "headerCheck", "()I"⟩ ⟨"TokenBus$Frame", "headerCheck", "()I"⟩ ∈ xGW := xGW_in (List.mem_of_getElem? (i := 9) (by decide +kernel)) (by decide +kernel)
theorem co_F_headerCheck : Cond.code ⟨"TokenBus$Frame", "headerCheck", "()I"⟩ prog_2_method_11_code 1 (some .int) ∈ xGW := xGW_in (List.mem_of_getElem? (i := 415) (by decide +kernel)) (by decide +kernel)
theorem nm_F_headerCheck : ("TokenBus$Frame" ≠ "java/lang/invoke/MethodHandle" ∧ "TokenBus$Frame" ≠ "java/lang/invoke/VarHandle" ∧ (parseMethodDescriptor "()I").map (fun d => d.parameters.length) = some 0) ∧ plainFor ⟨"TokenBus$Frame", "headerCheck", "()I"⟩ = true := ⟨by decide +kernel, plainFor_of_name (by decide +kernel)⟩
theorem im_F_dataCheck : Cond.instanceMethod ⟨"TokenBus$Frame", "dataCheck", "()I"⟩ ∈ xGW := xGW_in (List.mem_of_getElem? (i := 438) (by decide +kernel)) (by decide +kernel)
theorem se_F_dataCheck : Cond.selects "TokenBus$Frame" ⟨"TokenBus$Frame", "dataCheck", "()I"⟩ ⟨"TokenBus$Frame", "dataCheck", "()I"⟩ ∈ xGW := xGW_in (List.mem_of_getElem? (i := 12) (by decide +kernel)) (by decide +kernel)
theorem co_F_dataCheck : Cond.code ⟨"TokenBus$Frame", "dataCheck", "()I"⟩ prog_2_method_12_code 1 (some .int) ∈ xGW := xGW_in (List.mem_of_getElem? (i := 439) (by decide +kernel)) (by decide +kernel)
theorem nm_F_dataCheck : ("TokenBus$Frame" ≠ "java/lang/invoke/MethodHandle" ∧ "TokenBus$Frame" ≠ "java/lang/invoke/VarHandle" ∧ (parseMethodDescriptor "()I").map (fun d => d.parameters.length) = some 0) ∧ plainFor ⟨"TokenBus$Frame", "dataCheck", "()I"⟩ = true := ⟨by decide +kernel, plainFor_of_name (by decide +kernel)⟩
theorem im_F_checkOf : Cond.instanceMethod ⟨"TokenBus$Frame", "checkOf", "(IIII)I"⟩ ∈ xGW := xGW_in (List.mem_of_getElem? (i := 418) (by decide +kernel)) (by decide +kernel)
theorem se_F_checkOf : Cond.selects "TokenBus$Frame" ⟨"TokenBus$Frame", "checkOf", "(IIII)I"⟩ ⟨"TokenBus$Frame", "checkOf", "(IIII)I"⟩ ∈ xGW := xGW_in (List.mem_of_getElem? (i := 10) (by decide +kernel)) (by decide +kernel)
theorem co_F_checkOf : Cond.code ⟨"TokenBus$Frame", "checkOf", "(IIII)I"⟩ prog_2_method_13_code 9 (some .int) ∈ xGW := xGW_in (List.mem_of_getElem? (i := 419) (by decide +kernel)) (by decide +kernel)
theorem nm_F_checkOf : ("TokenBus$Frame" ≠ "java/lang/invoke/MethodHandle" ∧ "TokenBus$Frame" ≠ "java/lang/invoke/VarHandle" ∧ (parseMethodDescriptor "(IIII)I").map (fun d => d.parameters.length) = some 4) ∧ plainFor ⟨"TokenBus$Frame", "checkOf", "(IIII)I"⟩ = true := ⟨by decide +kernel, plainFor_of_name (by decide +kernel)⟩
theorem im_L_init : Cond.instanceMethod ⟨"TokenBus$Loop", "<init>", "()V"⟩ ∈ xGW := xGW_in (List.mem_of_getElem? (i := 111) (by decide +kernel)) (by decide +kernel)
theorem co_L_init : Cond.code ⟨"TokenBus$Loop", "<init>", "()V"⟩ prog_3_method_1_code 1 none ∈ xGW := xGW_in (List.mem_of_getElem? (i := 112) (by decide +kernel)) (by decide +kernel)
theorem nm_L_init : ("TokenBus$Loop" ≠ "java/lang/invoke/MethodHandle" ∧ "TokenBus$Loop" ≠ "java/lang/invoke/VarHandle" ∧ (parseMethodDescriptor "()V").map (fun d => d.parameters.length) = some 0) ∧ plainFor ⟨"TokenBus$Loop", "<init>", "()V"⟩ = true := ⟨by decide +kernel, plainFor_of_name (by decide +kernel)⟩
theorem im_L_tune : Cond.instanceMethod ⟨"TokenBus$Loop", "tune", "(II)V"⟩ ∈ xGW := xGW_in (List.mem_of_getElem? (i := 288) (by decide +kernel)) (by decide +kernel)
theorem se_L_tune : Cond.selects "TokenBus$Loop" ⟨"TokenBus$Loop", "tune", "(II)V"⟩ ⟨"TokenBus$Loop", "tune", "(II)V"⟩ ∈ xGW := xGW_in (List.mem_of_getElem? (i := 289) (by decide +kernel)) (by decide +kernel)
theorem co_L_tune : Cond.code ⟨"TokenBus$Loop", "tune", "(II)V"⟩ prog_3_method_2_code 3 none ∈ xGW := xGW_in (List.mem_of_getElem? (i := 290) (by decide +kernel)) (by decide +kernel)
theorem nm_L_tune : ("TokenBus$Loop" ≠ "java/lang/invoke/MethodHandle" ∧ "TokenBus$Loop" ≠ "java/lang/invoke/VarHandle" ∧ (parseMethodDescriptor "(II)V").map (fun d => d.parameters.length) = some 2) ∧ plainFor ⟨"TokenBus$Loop", "tune", "(II)V"⟩ = true := ⟨by decide +kernel, plainFor_of_name (by decide +kernel)⟩
theorem im_L_aim : Cond.instanceMethod ⟨"TokenBus$Loop", "aim", "(I)Z"⟩ ∈ xGW := xGW_in (List.mem_of_getElem? (i := 506) (by decide +kernel)) (by decide +kernel)
theorem se_L_aim : Cond.selects "TokenBus$Loop" ⟨"TokenBus$Loop", "aim", "(I)Z"⟩ ⟨"TokenBus$Loop", "aim", "(I)Z"⟩ ∈ xGW := xGW_in (List.mem_of_getElem? (i := 507) (by decide +kernel)) (by decide +kernel)
theorem co_L_aim : Cond.code ⟨"TokenBus$Loop", "aim", "(I)Z"⟩ prog_3_method_3_code 2 (some .boolean) ∈ xGW := xGW_in (List.mem_of_getElem? (i := 508) (by decide +kernel)) (by decide +kernel)
theorem nm_L_aim : ("TokenBus$Loop" ≠ "java/lang/invoke/MethodHandle" ∧ "TokenBus$Loop" ≠ "java/lang/invoke/VarHandle" ∧ (parseMethodDescriptor "(I)Z").map (fun d => d.parameters.length) = some 1) ∧ plainFor ⟨"TokenBus$Loop", "aim", "(I)Z"⟩ = true := ⟨by decide +kernel, plainFor_of_name (by decide +kernel)⟩
theorem im_L_isOff : Cond.instanceMethod ⟨"TokenBus$Loop", "isOff", "()Z"⟩ ∈ xGW := xGW_in (List.mem_of_getElem? (i := 557) (by decide +kernel)) (by decide +kernel)
theorem se_L_isOff : Cond.selects "TokenBus$Loop" ⟨"TokenBus$Loop", "isOff", "()Z"⟩ ⟨"TokenBus$Loop", "isOff", "()Z"⟩ ∈ xGW := xGW_in (List.mem_of_getElem? (i := 558) (by decide +kernel)) (by decide +kernel)
theorem co_L_isOff : Cond.code ⟨"TokenBus$Loop", "isOff", "()Z"⟩ prog_3_method_4_code 1 (some .boolean) ∈ xGW := xGW_in (List.mem_of_getElem? (i := 559) (by decide +kernel)) (by decide +kernel)
theorem nm_L_isOff : ("TokenBus$Loop" ≠ "java/lang/invoke/MethodHandle" ∧ "TokenBus$Loop" ≠ "java/lang/invoke/VarHandle" ∧ (parseMethodDescriptor "()Z").map (fun d => d.parameters.length) = some 0) ∧ plainFor ⟨"TokenBus$Loop", "isOff", "()Z"⟩ = true := ⟨by decide +kernel, plainFor_of_name (by decide +kernel)⟩
theorem im_L_control : Cond.instanceMethod ⟨"TokenBus$Loop", "control", "(I)I"⟩ ∈ xGW := xGW_in (List.mem_of_getElem? (i := 561) (by decide +kernel)) (by decide +kernel)
theorem se_L_control : Cond.selects "TokenBus$Loop" ⟨"TokenBus$Loop", "control", "(I)I"⟩ ⟨"TokenBus$Loop", "control", "(I)I"⟩ ∈ xGW := xGW_in (List.mem_of_getElem? (i := 562) (by decide +kernel)) (by decide +kernel)
theorem co_L_control : Cond.code ⟨"TokenBus$Loop", "control", "(I)I"⟩ prog_3_method_5_code 3 (some .int) ∈ xGW := xGW_in (List.mem_of_getElem? (i := 563) (by decide +kernel)) (by decide +kernel)
theorem nm_L_control : ("TokenBus$Loop" ≠ "java/lang/invoke/MethodHandle" ∧ "TokenBus$Loop" ≠ "java/lang/invoke/VarHandle" ∧ (parseMethodDescriptor "(I)I").map (fun d => d.parameters.length) = some 1) ∧ plainFor ⟨"TokenBus$Loop", "control", "(I)I"⟩ = true := ⟨by decide +kernel, plainFor_of_name (by decide +kernel)⟩
theorem im_N_init : Cond.instanceMethod ⟨"TokenBus$Node", "<init>", "(I)V"⟩ ∈ xGW := xGW_in (List.mem_of_getElem? (i := 91) (by decide +kernel)) (by decide +kernel)
theorem co_N_init : Cond.code ⟨"TokenBus$Node", "<init>", "(I)V"⟩ prog_4_method_1_code 3 none ∈ xGW := xGW_in (List.mem_of_getElem? (i := 92) (by decide +kernel)) (by decide +kernel)
theorem nm_N_init : ("TokenBus$Node" ≠ "java/lang/invoke/MethodHandle" ∧ "TokenBus$Node" ≠ "java/lang/invoke/VarHandle" ∧ (parseMethodDescriptor "(I)V").map (fun d => d.parameters.length) = some 1) ∧ plainFor ⟨"TokenBus$Node", "<init>", "(I)V"⟩ = true := ⟨by decide +kernel, plainFor_of_name (by decide +kernel)⟩
theorem im_N_getPower : Cond.instanceMethod ⟨"TokenBus$Node", "getPower", "()V"⟩ ∈ xGW := xGW_in (List.mem_of_getElem? (i := 268) (by decide +kernel)) (by decide +kernel)
theorem se_N_getPower : Cond.selects "TokenBus$Node" ⟨"TokenBus$Node", "getPower", "()V"⟩ ⟨"TokenBus$Node", "getPower", "()V"⟩ ∈ xGW := xGW_in (List.mem_of_getElem? (i := 269) (by decide +kernel)) (by decide +kernel)
theorem co_N_getPower : Cond.code ⟨"TokenBus$Node", "getPower", "()V"⟩ prog_4_method_2_code 1 none ∈ xGW := xGW_in (List.mem_of_getElem? (i := 270) (by decide +kernel)) (by decide +kernel)
theorem nm_N_getPower : ("TokenBus$Node" ≠ "java/lang/invoke/MethodHandle" ∧ "TokenBus$Node" ≠ "java/lang/invoke/VarHandle" ∧ (parseMethodDescriptor "()V").map (fun d => d.parameters.length) = some 0) ∧ plainFor ⟨"TokenBus$Node", "getPower", "()V"⟩ = true := ⟨by decide +kernel, plainFor_of_name (by decide +kernel)⟩
theorem im_N_forgetOthers : Cond.instanceMethod ⟨"TokenBus$Node", "forgetOthers", "()V"⟩ ∈ xGW := xGW_in (List.mem_of_getElem? (i := 272) (by decide +kernel)) (by decide +kernel)
theorem se_N_forgetOthers : Cond.selects "TokenBus$Node" ⟨"TokenBus$Node", "forgetOthers", "()V"⟩ ⟨"TokenBus$Node", "forgetOthers", "()V"⟩ ∈ xGW := xGW_in (List.mem_of_getElem? (i := 273) (by decide +kernel)) (by decide +kernel)
theorem co_N_forgetOthers : Cond.code ⟨"TokenBus$Node", "forgetOthers", "()V"⟩ prog_4_method_3_code 1 none ∈ xGW := xGW_in (List.mem_of_getElem? (i := 274) (by decide +kernel)) (by decide +kernel)
theorem nm_N_forgetOthers : ("TokenBus$Node" ≠ "java/lang/invoke/MethodHandle" ∧ "TokenBus$Node" ≠ "java/lang/invoke/VarHandle" ∧ (parseMethodDescriptor "()V").map (fun d => d.parameters.length) = some 0) ∧ plainFor ⟨"TokenBus$Node", "forgetOthers", "()V"⟩ = true := ⟨by decide +kernel, plainFor_of_name (by decide +kernel)⟩
theorem im_N_getToken : Cond.instanceMethod ⟨"TokenBus$Node", "getToken", "()V"⟩ ∈ xGW := xGW_in (List.mem_of_getElem? (i := 545) (by decide +kernel)) (by decide +kernel)
theorem se_N_getToken : Cond.selects "TokenBus$Node" ⟨"TokenBus$Node", "getToken", "()V"⟩ ⟨"TokenBus$Node", "getToken", "()V"⟩ ∈ xGW := xGW_in (List.mem_of_getElem? (i := 546) (by decide +kernel)) (by decide +kernel)
theorem co_N_getToken : Cond.code ⟨"TokenBus$Node", "getToken", "()V"⟩ prog_4_method_4_code 1 none ∈ xGW := xGW_in (List.mem_of_getElem? (i := 547) (by decide +kernel)) (by decide +kernel)
theorem nm_N_getToken : ("TokenBus$Node" ≠ "java/lang/invoke/MethodHandle" ∧ "TokenBus$Node" ≠ "java/lang/invoke/VarHandle" ∧ (parseMethodDescriptor "()V").map (fun d => d.parameters.length) = some 0) ∧ plainFor ⟨"TokenBus$Node", "getToken", "()V"⟩ = true := ⟨by decide +kernel, plainFor_of_name (by decide +kernel)⟩
theorem im_N_enqueue : Cond.instanceMethod ⟨"TokenBus$Node", "enqueue", "(LTokenBus$Request;)V"⟩ ∈ xGW := xGW_in (List.mem_of_getElem? (i := 349) (by decide +kernel)) (by decide +kernel)
theorem se_N_enqueue : Cond.selects "TokenBus$Node" ⟨"TokenBus$Node", "enqueue", "(LTokenBus$Request;)V"⟩ ⟨"TokenBus$Node", "enqueue", "(LTokenBus$Request;)V"⟩ ∈ xGW := xGW_in (List.mem_of_getElem? (i := 350) (by decide +kernel)) (by decide +kernel)
theorem co_N_enqueue : Cond.code ⟨"TokenBus$Node", "enqueue", "(LTokenBus$Request;)V"⟩ prog_4_method_5_code 2 none ∈ xGW := xGW_in (List.mem_of_getElem? (i := 351) (by decide +kernel)) (by decide +kernel)
theorem nm_N_enqueue : ("TokenBus$Node" ≠ "java/lang/invoke/MethodHandle" ∧ "TokenBus$Node" ≠ "java/lang/invoke/VarHandle" ∧ (parseMethodDescriptor "(LTokenBus$Request;)V").map (fun d => d.parameters.length) = some 1) ∧ plainFor ⟨"TokenBus$Node", "enqueue", "(LTokenBus$Request;)V"⟩ = true := ⟨by decide +kernel, plainFor_of_name (by decide +kernel)⟩
theorem im_N_dequeue : Cond.instanceMethod ⟨"TokenBus$Node", "dequeue", "()V"⟩ ∈ xGW := xGW_in (List.mem_of_getElem? (i := 533) (by decide +kernel)) (by decide +kernel)
theorem se_N_dequeue : Cond.selects "TokenBus$Node" ⟨"TokenBus$Node", "dequeue", "()V"⟩ ⟨"TokenBus$Node", "dequeue", "()V"⟩ ∈ xGW := xGW_in (List.mem_of_getElem? (i := 534) (by decide +kernel)) (by decide +kernel)
theorem co_N_dequeue : Cond.code ⟨"TokenBus$Node", "dequeue", "()V"⟩ prog_4_method_6_code 2 none ∈ xGW := xGW_in (List.mem_of_getElem? (i := 535) (by decide +kernel)) (by decide +kernel)
theorem nm_N_dequeue : ("TokenBus$Node" ≠ "java/lang/invoke/MethodHandle" ∧ "TokenBus$Node" ≠ "java/lang/invoke/VarHandle" ∧ (parseMethodDescriptor "()V").map (fun d => d.parameters.length) = some 0) ∧ plainFor ⟨"TokenBus$Node", "dequeue", "()V"⟩ = true := ⟨by decide +kernel, plainFor_of_name (by decide +kernel)⟩
theorem im_N_objectValue : Cond.instanceMethod ⟨"TokenBus$Node", "objectValue", "(I)I"⟩ ∈ xGW := xGW_in (List.mem_of_getElem? (i := 459) (by decide +kernel)) (by decide +kernel)
theorem se_N_objectValue : Cond.selects "TokenBus$Node" ⟨"TokenBus$Node", "objectValue", "(I)I"⟩ ⟨"TokenBus$Node", "objectValue", "(I)I"⟩ ∈ xGW := xGW_in (List.mem_of_getElem? (i := 460) (by decide +kernel)) (by decide +kernel)
theorem co_N_objectValue : Cond.code ⟨"TokenBus$Node", "objectValue", "(I)I"⟩ prog_4_method_7_code 2 (some .int) ∈ xGW := xGW_in (List.mem_of_getElem? (i := 461) (by decide +kernel)) (by decide +kernel)
theorem nm_N_objectValue : ("TokenBus$Node" ≠ "java/lang/invoke/MethodHandle" ∧ "TokenBus$Node" ≠ "java/lang/invoke/VarHandle" ∧ (parseMethodDescriptor "(I)I").map (fun d => d.parameters.length) = some 1) ∧ plainFor ⟨"TokenBus$Node", "objectValue", "(I)I"⟩ = true := ⟨by decide +kernel, plainFor_of_name (by decide +kernel)⟩
theorem im_N_carryOut : Cond.instanceMethod ⟨"TokenBus$Node", "carryOut", "(LTokenBus$Request;I)V"⟩ ∈ xGW := xGW_in (List.mem_of_getElem? (i := 487) (by decide +kernel)) (by decide +kernel)
theorem se_N_carryOut : Cond.selects "TokenBus$Node" ⟨"TokenBus$Node", "carryOut", "(LTokenBus$Request;I)V"⟩ ⟨"TokenBus$Node", "carryOut", "(LTokenBus$Request;I)V"⟩ ∈ xGW := xGW_in (List.mem_of_getElem? (i := 488) (by decide +kernel)) (by decide +kernel)
theorem co_N_carryOut : Cond.code ⟨"TokenBus$Node", "carryOut", "(LTokenBus$Request;I)V"⟩ prog_4_method_8_code 3 none ∈ xGW := xGW_in (List.mem_of_getElem? (i := 489) (by decide +kernel)) (by decide +kernel)
theorem nm_N_carryOut : ("TokenBus$Node" ≠ "java/lang/invoke/MethodHandle" ∧ "TokenBus$Node" ≠ "java/lang/invoke/VarHandle" ∧ (parseMethodDescriptor "(LTokenBus$Request;I)V").map (fun d => d.parameters.length) = some 2) ∧ plainFor ⟨"TokenBus$Node", "carryOut", "(LTokenBus$Request;I)V"⟩ = true := ⟨by decide +kernel, plainFor_of_name (by decide +kernel)⟩
theorem im_N_write : Cond.instanceMethod ⟨"TokenBus$Node", "write", "(LTokenBus$Request;)Z"⟩ ∈ xGW := xGW_in (List.mem_of_getElem? (i := 498) (by decide +kernel)) (by decide +kernel)
theorem se_N_write : Cond.selects "TokenBus$Node" ⟨"TokenBus$Node", "write", "(LTokenBus$Request;)Z"⟩ ⟨"TokenBus$Node", "write", "(LTokenBus$Request;)Z"⟩ ∈ xGW := xGW_in (List.mem_of_getElem? (i := 18) (by decide +kernel)) (by decide +kernel)
theorem co_N_write : Cond.code ⟨"TokenBus$Node", "write", "(LTokenBus$Request;)Z"⟩ prog_4_method_9_code 2 (some .boolean) ∈ xGW := xGW_in (List.mem_of_getElem? (i := 499) (by decide +kernel)) (by decide +kernel)
theorem nm_N_write : ("TokenBus$Node" ≠ "java/lang/invoke/MethodHandle" ∧ "TokenBus$Node" ≠ "java/lang/invoke/VarHandle" ∧ (parseMethodDescriptor "(LTokenBus$Request;)Z").map (fun d => d.parameters.length) = some 1) ∧ plainFor ⟨"TokenBus$Node", "write", "(LTokenBus$Request;)Z"⟩ = true := ⟨by decide +kernel, plainFor_of_name (by decide +kernel)⟩
theorem im_N_subscribe : Cond.instanceMethod ⟨"TokenBus$Node", "subscribe", "(II)Z"⟩ ∈ xGW := xGW_in (List.mem_of_getElem? (i := 516) (by decide +kernel)) (by decide +kernel)
theorem se_N_subscribe : Cond.selects "TokenBus$Node" ⟨"TokenBus$Node", "subscribe", "(II)Z"⟩ ⟨"TokenBus$Node", "subscribe", "(II)Z"⟩ ∈ xGW := xGW_in (List.mem_of_getElem? (i := 19) (by decide +kernel)) (by decide +kernel)
theorem co_N_subscribe : Cond.code ⟨"TokenBus$Node", "subscribe", "(II)Z"⟩ prog_4_method_10_code 5 (some .boolean) ∈ xGW := xGW_in (List.mem_of_getElem? (i := 517) (by decide +kernel)) (by decide +kernel)
theorem nm_N_subscribe : ("TokenBus$Node" ≠ "java/lang/invoke/MethodHandle" ∧ "TokenBus$Node" ≠ "java/lang/invoke/VarHandle" ∧ (parseMethodDescriptor "(II)Z").map (fun d => d.parameters.length) = some 2) ∧ plainFor ⟨"TokenBus$Node", "subscribe", "(II)Z"⟩ = true := ⟨by decide +kernel, plainFor_of_name (by decide +kernel)⟩
theorem im_N_firstDue : Cond.instanceMethod ⟨"TokenBus$Node", "firstDue", "()LTokenBus$Subscription;"⟩ ∈ xGW := xGW_in (List.mem_of_getElem? (i := 451) (by decide +kernel)) (by decide +kernel)
theorem se_N_firstDue : Cond.selects "TokenBus$Node" ⟨"TokenBus$Node", "firstDue", "()LTokenBus$Subscription;"⟩ ⟨"TokenBus$Node", "firstDue", "()LTokenBus$Subscription;"⟩ ∈ xGW := xGW_in (List.mem_of_getElem? (i := 452) (by decide +kernel)) (by decide +kernel)
theorem co_N_firstDue : Cond.code ⟨"TokenBus$Node", "firstDue", "()LTokenBus$Subscription;"⟩ prog_4_method_11_code 2 (some (.object "TokenBus$Subscription")) ∈ xGW := xGW_in (List.mem_of_getElem? (i := 453) (by decide +kernel)) (by decide +kernel)
theorem nm_N_firstDue : ("TokenBus$Node" ≠ "java/lang/invoke/MethodHandle" ∧ "TokenBus$Node" ≠ "java/lang/invoke/VarHandle" ∧ (parseMethodDescriptor "()LTokenBus$Subscription;").map (fun d => d.parameters.length) = some 0) ∧ plainFor ⟨"TokenBus$Node", "firstDue", "()LTokenBus$Subscription;"⟩ = true := ⟨by decide +kernel, plainFor_of_name (by decide +kernel)⟩
theorem im_N_note : Cond.instanceMethod ⟨"TokenBus$Node", "note", "(III)V"⟩ ∈ xGW := xGW_in (List.mem_of_getElem? (i := 475) (by decide +kernel)) (by decide +kernel)
theorem se_N_note : Cond.selects "TokenBus$Node" ⟨"TokenBus$Node", "note", "(III)V"⟩ ⟨"TokenBus$Node", "note", "(III)V"⟩ ∈ xGW := xGW_in (List.mem_of_getElem? (i := 476) (by decide +kernel)) (by decide +kernel)
theorem co_N_note : Cond.code ⟨"TokenBus$Node", "note", "(III)V"⟩ prog_4_method_12_code 4 none ∈ xGW := xGW_in (List.mem_of_getElem? (i := 477) (by decide +kernel)) (by decide +kernel)
theorem nm_N_note : ("TokenBus$Node" ≠ "java/lang/invoke/MethodHandle" ∧ "TokenBus$Node" ≠ "java/lang/invoke/VarHandle" ∧ (parseMethodDescriptor "(III)V").map (fun d => d.parameters.length) = some 3) ∧ plainFor ⟨"TokenBus$Node", "note", "(III)V"⟩ = true := ⟨by decide +kernel, plainFor_of_name (by decide +kernel)⟩
theorem im_N_runLoop : Cond.instanceMethod ⟨"TokenBus$Node", "runLoop", "()V"⟩ ∈ xGW := xGW_in (List.mem_of_getElem? (i := 553) (by decide +kernel)) (by decide +kernel)
theorem se_N_runLoop : Cond.selects "TokenBus$Node" ⟨"TokenBus$Node", "runLoop", "()V"⟩ ⟨"TokenBus$Node", "runLoop", "()V"⟩ ∈ xGW := xGW_in (List.mem_of_getElem? (i := 554) (by decide +kernel)) (by decide +kernel)
theorem co_N_runLoop : Cond.code ⟨"TokenBus$Node", "runLoop", "()V"⟩ prog_4_method_13_code 1 none ∈ xGW := xGW_in (List.mem_of_getElem? (i := 555) (by decide +kernel)) (by decide +kernel)
theorem nm_N_runLoop : ("TokenBus$Node" ≠ "java/lang/invoke/MethodHandle" ∧ "TokenBus$Node" ≠ "java/lang/invoke/VarHandle" ∧ (parseMethodDescriptor "()V").map (fun d => d.parameters.length) = some 0) ∧ plainFor ⟨"TokenBus$Node", "runLoop", "()V"⟩ = true := ⟨by decide +kernel, plainFor_of_name (by decide +kernel)⟩
theorem im_N_findDue : Cond.instanceMethod ⟨"TokenBus$Node", "findDue", "()V"⟩ ∈ xGW := xGW_in (List.mem_of_getElem? (i := 577) (by decide +kernel)) (by decide +kernel)
theorem se_N_findDue : Cond.selects "TokenBus$Node" ⟨"TokenBus$Node", "findDue", "()V"⟩ ⟨"TokenBus$Node", "findDue", "()V"⟩ ∈ xGW := xGW_in (List.mem_of_getElem? (i := 578) (by decide +kernel)) (by decide +kernel)
theorem co_N_findDue : Cond.code ⟨"TokenBus$Node", "findDue", "()V"⟩ prog_4_method_14_code 2 none ∈ xGW := xGW_in (List.mem_of_getElem? (i := 579) (by decide +kernel)) (by decide +kernel)
theorem nm_N_findDue : ("TokenBus$Node" ≠ "java/lang/invoke/MethodHandle" ∧ "TokenBus$Node" ≠ "java/lang/invoke/VarHandle" ∧ (parseMethodDescriptor "()V").map (fun d => d.parameters.length) = some 0) ∧ plainFor ⟨"TokenBus$Node", "findDue", "()V"⟩ = true := ⟨by decide +kernel, plainFor_of_name (by decide +kernel)⟩
theorem im_N_fact : Cond.instanceMethod ⟨"TokenBus$Node", "fact", "(I)I"⟩ ∈ xGW := xGW_in (List.mem_of_getElem? (i := 601) (by decide +kernel)) (by decide +kernel)
theorem se_N_fact : Cond.selects "TokenBus$Node" ⟨"TokenBus$Node", "fact", "(I)I"⟩ ⟨"TokenBus$Node", "fact", "(I)I"⟩ ∈ xGW := xGW_in (List.mem_of_getElem? (i := 602) (by decide +kernel)) (by decide +kernel)
theorem co_N_fact : Cond.code ⟨"TokenBus$Node", "fact", "(I)I"⟩ prog_4_method_15_code 2 (some .int) ∈ xGW := xGW_in (List.mem_of_getElem? (i := 603) (by decide +kernel)) (by decide +kernel)
theorem nm_N_fact : ("TokenBus$Node" ≠ "java/lang/invoke/MethodHandle" ∧ "TokenBus$Node" ≠ "java/lang/invoke/VarHandle" ∧ (parseMethodDescriptor "(I)I").map (fun d => d.parameters.length) = some 1) ∧ plainFor ⟨"TokenBus$Node", "fact", "(I)I"⟩ = true := ⟨by decide +kernel, plainFor_of_name (by decide +kernel)⟩
theorem im_N_notedFact : Cond.instanceMethod ⟨"TokenBus$Node", "notedFact", "(I)I"⟩ ∈ xGW := xGW_in (List.mem_of_getElem? (i := 642) (by decide +kernel)) (by decide +kernel)
theorem se_N_notedFact : Cond.selects "TokenBus$Node" ⟨"TokenBus$Node", "notedFact", "(I)I"⟩ ⟨"TokenBus$Node", "notedFact", "(I)I"⟩ ∈ xGW := xGW_in (List.mem_of_getElem? (i := 643) (by decide +kernel)) (by decide +kernel)
theorem co_N_notedFact : Cond.code ⟨"TokenBus$Node", "notedFact", "(I)I"⟩ prog_4_method_16_code 2 (some .int) ∈ xGW := xGW_in (List.mem_of_getElem? (i := 644) (by decide +kernel)) (by decide +kernel)
theorem nm_N_notedFact : ("TokenBus$Node" ≠ "java/lang/invoke/MethodHandle" ∧ "TokenBus$Node" ≠ "java/lang/invoke/VarHandle" ∧ (parseMethodDescriptor "(I)I").map (fun d => d.parameters.length) = some 1) ∧ plainFor ⟨"TokenBus$Node", "notedFact", "(I)I"⟩ = true := ⟨by decide +kernel, plainFor_of_name (by decide +kernel)⟩
theorem im_O_init : Cond.instanceMethod ⟨"TokenBus$Output", "<init>", "()V"⟩ ∈ xGW := xGW_in (List.mem_of_getElem? (i := 97) (by decide +kernel)) (by decide +kernel)
theorem co_O_init : Cond.code ⟨"TokenBus$Output", "<init>", "()V"⟩ prog_5_method_1_code 1 none ∈ xGW := xGW_in (List.mem_of_getElem? (i := 98) (by decide +kernel)) (by decide +kernel)
theorem nm_O_init : ("TokenBus$Output" ≠ "java/lang/invoke/MethodHandle" ∧ "TokenBus$Output" ≠ "java/lang/invoke/VarHandle" ∧ (parseMethodDescriptor "()V").map (fun d => d.parameters.length) = some 0) ∧ plainFor ⟨"TokenBus$Output", "<init>", "()V"⟩ = true := ⟨by decide +kernel, plainFor_of_name (by decide +kernel)⟩
theorem im_O_isFilled : Cond.instanceMethod ⟨"TokenBus$Output", "isFilled", "(I)Z"⟩ ∈ xGW := xGW_in (List.mem_of_getElem? (i := 617) (by decide +kernel)) (by decide +kernel)
theorem se_O_isFilled : Cond.selects "TokenBus$Output" ⟨"TokenBus$Output", "isFilled", "(I)Z"⟩ ⟨"TokenBus$Output", "isFilled", "(I)Z"⟩ ∈ xGW := xGW_in (List.mem_of_getElem? (i := 618) (by decide +kernel)) (by decide +kernel)
theorem co_O_isFilled : Cond.code ⟨"TokenBus$Output", "isFilled", "(I)Z"⟩ prog_5_method_2_code 2 (some .boolean) ∈ xGW := xGW_in (List.mem_of_getElem? (i := 619) (by decide +kernel)) (by decide +kernel)
theorem nm_O_isFilled : ("TokenBus$Output" ≠ "java/lang/invoke/MethodHandle" ∧ "TokenBus$Output" ≠ "java/lang/invoke/VarHandle" ∧ (parseMethodDescriptor "(I)Z").map (fun d => d.parameters.length) = some 1) ∧ plainFor ⟨"TokenBus$Output", "isFilled", "(I)Z"⟩ = true := ⟨by decide +kernel, plainFor_of_name (by decide +kernel)⟩
theorem im_O_numberAt : Cond.instanceMethod ⟨"TokenBus$Output", "numberAt", "(I)I"⟩ ∈ xGW := xGW_in (List.mem_of_getElem? (i := 613) (by decide +kernel)) (by decide +kernel)
theorem se_O_numberAt : Cond.selects "TokenBus$Output" ⟨"TokenBus$Output", "numberAt", "(I)I"⟩ ⟨"TokenBus$Output", "numberAt", "(I)I"⟩ ∈ xGW := xGW_in (List.mem_of_getElem? (i := 614) (by decide +kernel)) (by decide +kernel)
theorem co_O_numberAt : Cond.code ⟨"TokenBus$Output", "numberAt", "(I)I"⟩ prog_5_method_3_code 2 (some .int) ∈ xGW := xGW_in (List.mem_of_getElem? (i := 615) (by decide +kernel)) (by decide +kernel)
theorem nm_O_numberAt : ("TokenBus$Output" ≠ "java/lang/invoke/MethodHandle" ∧ "TokenBus$Output" ≠ "java/lang/invoke/VarHandle" ∧ (parseMethodDescriptor "(I)I").map (fun d => d.parameters.length) = some 1) ∧ plainFor ⟨"TokenBus$Output", "numberAt", "(I)I"⟩ = true := ⟨by decide +kernel, plainFor_of_name (by decide +kernel)⟩
theorem im_O_fill : Cond.instanceMethod ⟨"TokenBus$Output", "fill", "(II)Z"⟩ ∈ xGW := xGW_in (List.mem_of_getElem? (i := 501) (by decide +kernel)) (by decide +kernel)
theorem se_O_fill : Cond.selects "TokenBus$Output" ⟨"TokenBus$Output", "fill", "(II)Z"⟩ ⟨"TokenBus$Output", "fill", "(II)Z"⟩ ∈ xGW := xGW_in (List.mem_of_getElem? (i := 502) (by decide +kernel)) (by decide +kernel)
theorem co_O_fill : Cond.code ⟨"TokenBus$Output", "fill", "(II)Z"⟩ prog_5_method_4_code 3 (some .boolean) ∈ xGW := xGW_in (List.mem_of_getElem? (i := 503) (by decide +kernel)) (by decide +kernel)
theorem nm_O_fill : ("TokenBus$Output" ≠ "java/lang/invoke/MethodHandle" ∧ "TokenBus$Output" ≠ "java/lang/invoke/VarHandle" ∧ (parseMethodDescriptor "(II)Z").map (fun d => d.parameters.length) = some 2) ∧ plainFor ⟨"TokenBus$Output", "fill", "(II)Z"⟩ = true := ⟨by decide +kernel, plainFor_of_name (by decide +kernel)⟩
theorem im_O_release : Cond.instanceMethod ⟨"TokenBus$Output", "release", "(I)Z"⟩ ∈ xGW := xGW_in (List.mem_of_getElem? (i := 511) (by decide +kernel)) (by decide +kernel)
theorem se_O_release : Cond.selects "TokenBus$Output" ⟨"TokenBus$Output", "release", "(I)Z"⟩ ⟨"TokenBus$Output", "release", "(I)Z"⟩ ∈ xGW := xGW_in (List.mem_of_getElem? (i := 512) (by decide +kernel)) (by decide +kernel)
theorem co_O_release : Cond.code ⟨"TokenBus$Output", "release", "(I)Z"⟩ prog_5_method_5_code 2 (some .boolean) ∈ xGW := xGW_in (List.mem_of_getElem? (i := 513) (by decide +kernel)) (by decide +kernel)
theorem nm_O_release : ("TokenBus$Output" ≠ "java/lang/invoke/MethodHandle" ∧ "TokenBus$Output" ≠ "java/lang/invoke/VarHandle" ∧ (parseMethodDescriptor "(I)Z").map (fun d => d.parameters.length) = some 1) ∧ plainFor ⟨"TokenBus$Output", "release", "(I)Z"⟩ = true := ⟨by decide +kernel, plainFor_of_name (by decide +kernel)⟩
theorem im_O_current : Cond.instanceMethod ⟨"TokenBus$Output", "current", "()I"⟩ ∈ xGW := xGW_in (List.mem_of_getElem? (i := 463) (by decide +kernel)) (by decide +kernel)
theorem se_O_current : Cond.selects "TokenBus$Output" ⟨"TokenBus$Output", "current", "()I"⟩ ⟨"TokenBus$Output", "current", "()I"⟩ ∈ xGW := xGW_in (List.mem_of_getElem? (i := 464) (by decide +kernel)) (by decide +kernel)
theorem co_O_current : Cond.code ⟨"TokenBus$Output", "current", "()I"⟩ prog_5_method_6_code 2 (some .int) ∈ xGW := xGW_in (List.mem_of_getElem? (i := 465) (by decide +kernel)) (by decide +kernel)
theorem nm_O_current : ("TokenBus$Output" ≠ "java/lang/invoke/MethodHandle" ∧ "TokenBus$Output" ≠ "java/lang/invoke/VarHandle" ∧ (parseMethodDescriptor "()I").map (fun d => d.parameters.length) = some 0) ∧ plainFor ⟨"TokenBus$Output", "current", "()I"⟩ = true := ⟨by decide +kernel, plainFor_of_name (by decide +kernel)⟩
theorem im_R_init : Cond.instanceMethod ⟨"TokenBus$Request", "<init>", "(IIII)V"⟩ ∈ xGW := xGW_in (List.mem_of_getElem? (i := 297) (by decide +kernel)) (by decide +kernel)
theorem co_R_init : Cond.code ⟨"TokenBus$Request", "<init>", "(IIII)V"⟩ prog_6_method_1_code 5 none ∈ xGW := xGW_in (List.mem_of_getElem? (i := 298) (by decide +kernel)) (by decide +kernel)
theorem nm_R_init : ("TokenBus$Request" ≠ "java/lang/invoke/MethodHandle" ∧ "TokenBus$Request" ≠ "java/lang/invoke/VarHandle" ∧ (parseMethodDescriptor "(IIII)V").map (fun d => d.parameters.length) = some 4) ∧ plainFor ⟨"TokenBus$Request", "<init>", "(IIII)V"⟩ = true := ⟨by decide +kernel, plainFor_of_name (by decide +kernel)⟩
theorem im_R_settle : Cond.instanceMethod ⟨"TokenBus$Request", "settle", "(ZI)V"⟩ ∈ xGW := xGW_in (List.mem_of_getElem? (i := 493) (by decide +kernel)) (by decide +kernel)
theorem se_R_settle : Cond.selects "TokenBus$Request" ⟨"TokenBus$Request", "settle", "(ZI)V"⟩ ⟨"TokenBus$Request", "settle", "(ZI)V"⟩ ∈ xGW := xGW_in (List.mem_of_getElem? (i := 494) (by decide +kernel)) (by decide +kernel)
theorem co_R_settle : Cond.code ⟨"TokenBus$Request", "settle", "(ZI)V"⟩ prog_6_method_2_code 3 none ∈ xGW := xGW_in (List.mem_of_getElem? (i := 495) (by decide +kernel)) (by decide +kernel)
theorem nm_R_settle : ("TokenBus$Request" ≠ "java/lang/invoke/MethodHandle" ∧ "TokenBus$Request" ≠ "java/lang/invoke/VarHandle" ∧ (parseMethodDescriptor "(ZI)V").map (fun d => d.parameters.length) = some 2) ∧ plainFor ⟨"TokenBus$Request", "settle", "(ZI)V"⟩ = true := ⟨by decide +kernel, plainFor_of_name (by decide +kernel)⟩
theorem im_R_countTry : Cond.instanceMethod ⟨"TokenBus$Request", "countTry", "()V"⟩ ∈ xGW := xGW_in (List.mem_of_getElem? (i := 529) (by decide +kernel)) (by decide +kernel)
theorem se_R_countTry : Cond.selects "TokenBus$Request" ⟨"TokenBus$Request", "countTry", "()V"⟩ ⟨"TokenBus$Request", "countTry", "()V"⟩ ∈ xGW := xGW_in (List.mem_of_getElem? (i := 530) (by decide +kernel)) (by decide +kernel)
theorem co_R_countTry : Cond.code ⟨"TokenBus$Request", "countTry", "()V"⟩ prog_6_method_3_code 1 none ∈ xGW := xGW_in (List.mem_of_getElem? (i := 531) (by decide +kernel)) (by decide +kernel)
theorem nm_R_countTry : ("TokenBus$Request" ≠ "java/lang/invoke/MethodHandle" ∧ "TokenBus$Request" ≠ "java/lang/invoke/VarHandle" ∧ (parseMethodDescriptor "()V").map (fun d => d.parameters.length) = some 0) ∧ plainFor ⟨"TokenBus$Request", "countTry", "()V"⟩ = true := ⟨by decide +kernel, plainFor_of_name (by decide +kernel)⟩
theorem im_S_init : Cond.instanceMethod ⟨"TokenBus$Subscription", "<init>", "()V"⟩ ∈ xGW := xGW_in (List.mem_of_getElem? (i := 134) (by decide +kernel)) (by decide +kernel)
theorem co_S_init : Cond.code ⟨"TokenBus$Subscription", "<init>", "()V"⟩ prog_7_method_1_code 1 none ∈ xGW := xGW_in (List.mem_of_getElem? (i := 135) (by decide +kernel)) (by decide +kernel)
theorem nm_S_init : ("TokenBus$Subscription" ≠ "java/lang/invoke/MethodHandle" ∧ "TokenBus$Subscription" ≠ "java/lang/invoke/VarHandle" ∧ (parseMethodDescriptor "()V").map (fun d => d.parameters.length) = some 0) ∧ plainFor ⟨"TokenBus$Subscription", "<init>", "()V"⟩ = true := ⟨by decide +kernel, plainFor_of_name (by decide +kernel)⟩
theorem im_S_begin : Cond.instanceMethod ⟨"TokenBus$Subscription", "begin", "(III)V"⟩ ∈ xGW := xGW_in (List.mem_of_getElem? (i := 520) (by decide +kernel)) (by decide +kernel)
theorem se_S_begin : Cond.selects "TokenBus$Subscription" ⟨"TokenBus$Subscription", "begin", "(III)V"⟩ ⟨"TokenBus$Subscription", "begin", "(III)V"⟩ ∈ xGW := xGW_in (List.mem_of_getElem? (i := 521) (by decide +kernel)) (by decide +kernel)
theorem co_S_begin : Cond.code ⟨"TokenBus$Subscription", "begin", "(III)V"⟩ prog_7_method_2_code 4 none ∈ xGW := xGW_in (List.mem_of_getElem? (i := 522) (by decide +kernel)) (by decide +kernel)
theorem nm_S_begin : ("TokenBus$Subscription" ≠ "java/lang/invoke/MethodHandle" ∧ "TokenBus$Subscription" ≠ "java/lang/invoke/VarHandle" ∧ (parseMethodDescriptor "(III)V").map (fun d => d.parameters.length) = some 3) ∧ plainFor ⟨"TokenBus$Subscription", "begin", "(III)V"⟩ = true := ⟨by decide +kernel, plainFor_of_name (by decide +kernel)⟩
theorem im_S_renew : Cond.instanceMethod ⟨"TokenBus$Subscription", "renew", "(I)V"⟩ ∈ xGW := xGW_in (List.mem_of_getElem? (i := 467) (by decide +kernel)) (by decide +kernel)
theorem se_S_renew : Cond.selects "TokenBus$Subscription" ⟨"TokenBus$Subscription", "renew", "(I)V"⟩ ⟨"TokenBus$Subscription", "renew", "(I)V"⟩ ∈ xGW := xGW_in (List.mem_of_getElem? (i := 468) (by decide +kernel)) (by decide +kernel)
theorem co_S_renew : Cond.code ⟨"TokenBus$Subscription", "renew", "(I)V"⟩ prog_7_method_3_code 2 none ∈ xGW := xGW_in (List.mem_of_getElem? (i := 469) (by decide +kernel)) (by decide +kernel)
theorem nm_S_renew : ("TokenBus$Subscription" ≠ "java/lang/invoke/MethodHandle" ∧ "TokenBus$Subscription" ≠ "java/lang/invoke/VarHandle" ∧ (parseMethodDescriptor "(I)V").map (fun d => d.parameters.length) = some 1) ∧ plainFor ⟨"TokenBus$Subscription", "renew", "(I)V"⟩ = true := ⟨by decide +kernel, plainFor_of_name (by decide +kernel)⟩
theorem im_S_compare : Cond.instanceMethod ⟨"TokenBus$Subscription", "compare", "(I)V"⟩ ∈ xGW := xGW_in (List.mem_of_getElem? (i := 581) (by decide +kernel)) (by decide +kernel)
theorem se_S_compare : Cond.selects "TokenBus$Subscription" ⟨"TokenBus$Subscription", "compare", "(I)V"⟩ ⟨"TokenBus$Subscription", "compare", "(I)V"⟩ ∈ xGW := xGW_in (List.mem_of_getElem? (i := 582) (by decide +kernel)) (by decide +kernel)
theorem co_S_compare : Cond.code ⟨"TokenBus$Subscription", "compare", "(I)V"⟩ prog_7_method_4_code 2 none ∈ xGW := xGW_in (List.mem_of_getElem? (i := 583) (by decide +kernel)) (by decide +kernel)
theorem nm_S_compare : ("TokenBus$Subscription" ≠ "java/lang/invoke/MethodHandle" ∧ "TokenBus$Subscription" ≠ "java/lang/invoke/VarHandle" ∧ (parseMethodDescriptor "(I)V").map (fun d => d.parameters.length) = some 1) ∧ plainFor ⟨"TokenBus$Subscription", "compare", "(I)V"⟩ = true := ⟨by decide +kernel, plainFor_of_name (by decide +kernel)⟩
theorem nm_W_law : ("TokenBusLaw" ≠ "java/lang/invoke/MethodHandle" ∧ "TokenBusLaw" ≠ "java/lang/invoke/VarHandle" ∧ (parseMethodDescriptor "([I)Z").map (fun d => d.parameters.length) = some 1) ∧ plainFor ⟨"TokenBusLaw", "law", "([I)Z"⟩ = true := ⟨by decide +kernel, plainFor_of_name (by decide +kernel)⟩
theorem st_J_floorDiv : Cond.static ⟨"java/lang/Math", "floorDiv", "(II)I"⟩ ∈ xGW := xGW_in (List.mem_of_getElem? (i := 574) (by decide +kernel)) (by decide +kernel)
theorem co_J_floorDiv : Cond.code ⟨"java/lang/Math", "floorDiv", "(II)I"⟩ prog_10_method_47_code 3 (some .int) ∈ xGW := xGW_in (List.mem_of_getElem? (i := 575) (by decide +kernel)) (by decide +kernel)
theorem nm_J_floorDiv : ("java/lang/Math" ≠ "java/lang/invoke/MethodHandle" ∧ "java/lang/Math" ≠ "java/lang/invoke/VarHandle" ∧ (parseMethodDescriptor "(II)I").map (fun d => d.parameters.length) = some 2) ∧ plainFor ⟨"java/lang/Math", "floorDiv", "(II)I"⟩ = true := ⟨by decide +kernel, by decide +kernel⟩
theorem in_W : Cond.initialized "TokenBusLaw" ∈ xGW := xGW_in (List.mem_of_getElem? (i := 47) (by decide +kernel)) (by decide +kernel)
theorem in_B : Cond.initialized "TokenBus" ∈ xGW := xGW_in (List.mem_of_getElem? (i := 48) (by decide +kernel)) (by decide +kernel)
theorem in_F : Cond.initialized "TokenBus$Frame" ∈ xGW := xGW_in (List.mem_of_getElem? (i := 49) (by decide +kernel)) (by decide +kernel)
theorem in_N : Cond.initialized "TokenBus$Node" ∈ xGW := xGW_in (List.mem_of_getElem? (i := 50) (by decide +kernel)) (by decide +kernel)
theorem in_O : Cond.initialized "TokenBus$Output" ∈ xGW := xGW_in (List.mem_of_getElem? (i := 51) (by decide +kernel)) (by decide +kernel)
theorem in_L : Cond.initialized "TokenBus$Loop" ∈ xGW := xGW_in (List.mem_of_getElem? (i := 52) (by decide +kernel)) (by decide +kernel)
theorem in_S : Cond.initialized "TokenBus$Subscription" ∈ xGW := xGW_in (List.mem_of_getElem? (i := 53) (by decide +kernel)) (by decide +kernel)
theorem in_M : Cond.initialized "TokenBusModel" ∈ xGW := xGW_in (List.mem_of_getElem? (i := 54) (by decide +kernel)) (by decide +kernel)
theorem in_R : Cond.initialized "TokenBus$Request" ∈ xGW := xGW_in (List.mem_of_getElem? (i := 55) (by decide +kernel)) (by decide +kernel)
theorem in_J : Cond.initialized "java/lang/Math" ∈ xGW := xGW_in (List.mem_of_getElem? (i := 56) (by decide +kernel)) (by decide +kernel)
theorem cl_W_7 : Cond.classLink "TokenBusLaw" 7 "TokenBus" ∈ xGW := xGW_in (List.mem_of_getElem? (i := 57) (by decide +kernel)) (by decide +kernel)
theorem it_B : Cond.instantiable "TokenBus" 13 ∈ xGW := xGW_in (List.mem_of_getElem? (i := 58) (by decide +kernel)) (by decide +kernel)
theorem cl_B_9 : Cond.classLink "TokenBus" 9 "TokenBus$Node" ∈ xGW := xGW_in (List.mem_of_getElem? (i := 65) (by decide +kernel)) (by decide +kernel)
theorem cl_B_15 : Cond.classLink "TokenBus" 15 "TokenBus$Request" ∈ xGW := xGW_in (List.mem_of_getElem? (i := 67) (by decide +kernel)) (by decide +kernel)
theorem cl_B_21 : Cond.classLink "TokenBus" 21 "TokenBus$Frame" ∈ xGW := xGW_in (List.mem_of_getElem? (i := 69) (by decide +kernel)) (by decide +kernel)
theorem it_F : Cond.instantiable "TokenBus$Frame" 4 ∈ xGW := xGW_in (List.mem_of_getElem? (i := 70) (by decide +kernel)) (by decide +kernel)
theorem ac_int : Cond.arrayClass .int ∈ xGW := xGW_in (List.mem_of_getElem? (i := 88) (by decide +kernel)) (by decide +kernel)
theorem it_N : Cond.instantiable "TokenBus$Node" 17 ∈ xGW := xGW_in (List.mem_of_getElem? (i := 89) (by decide +kernel)) (by decide +kernel)
theorem cl_N_9 : Cond.classLink "TokenBus$Node" 9 "TokenBus$Output" ∈ xGW := xGW_in (List.mem_of_getElem? (i := 94) (by decide +kernel)) (by decide +kernel)
theorem it_O : Cond.instantiable "TokenBus$Output" 2 ∈ xGW := xGW_in (List.mem_of_getElem? (i := 95) (by decide +kernel)) (by decide +kernel)
theorem ac_boolean : Cond.arrayClass .boolean ∈ xGW := xGW_in (List.mem_of_getElem? (i := 107) (by decide +kernel)) (by decide +kernel)
theorem cl_N_18 : Cond.classLink "TokenBus$Node" 18 "TokenBus$Loop" ∈ xGW := xGW_in (List.mem_of_getElem? (i := 108) (by decide +kernel)) (by decide +kernel)
theorem it_L : Cond.instantiable "TokenBus$Loop" 4 ∈ xGW := xGW_in (List.mem_of_getElem? (i := 109) (by decide +kernel)) (by decide +kernel)
theorem cl_N_25 : Cond.classLink "TokenBus$Node" 25 "TokenBus$Request" ∈ xGW := xGW_in (List.mem_of_getElem? (i := 129) (by decide +kernel)) (by decide +kernel)
theorem cl_N_31 : Cond.classLink "TokenBus$Node" 31 "TokenBus$Subscription" ∈ xGW := xGW_in (List.mem_of_getElem? (i := 130) (by decide +kernel)) (by decide +kernel)
theorem it_S : Cond.instantiable "TokenBus$Subscription" 4 ∈ xGW := xGW_in (List.mem_of_getElem? (i := 132) (by decide +kernel)) (by decide +kernel)
theorem it_R : Cond.instantiable "TokenBus$Request" 11 ∈ xGW := xGW_in (List.mem_of_getElem? (i := 295) (by decide +kernel)) (by decide +kernel)
theorem ct_F_36 : Cond.constant "TokenBus$Frame" 36 (65535) ∈ xGW := xGW_in (List.mem_of_getElem? (i := 440) (by decide +kernel)) (by decide +kernel)
theorem ct_F_37 : Cond.constant "TokenBus$Frame" 37 (33800) ∈ xGW := xGW_in (List.mem_of_getElem? (i := 441) (by decide +kernel)) (by decide +kernel)
theorem ct_S_35 : Cond.constantLong "TokenBus$Subscription" 35 (10) ∈ xGW := xGW_in (List.mem_of_getElem? (i := 587) (by decide +kernel)) (by decide +kernel)
theorem cl_W_10 : Cond.classLink "TokenBusLaw" 10 "TokenBusModel" ∈ xGW := xGW_in (List.mem_of_getElem? (i := 657) (by decide +kernel)) (by decide +kernel)
theorem it_M : Cond.instantiable "TokenBusModel" 45 ∈ xGW := xGW_in (List.mem_of_getElem? (i := 658) (by decide +kernel)) (by decide +kernel)
theorem ct_M_145 : Cond.constant "TokenBusModel" 145 (65535) ∈ xGW := xGW_in (List.mem_of_getElem? (i := 887) (by decide +kernel)) (by decide +kernel)
theorem ct_M_146 : Cond.constant "TokenBusModel" 146 (33800) ∈ xGW := xGW_in (List.mem_of_getElem? (i := 888) (by decide +kernel)) (by decide +kernel)
theorem ct_M_226 : Cond.constantLong "TokenBusModel" 226 (10) ∈ xGW := xGW_in (List.mem_of_getElem? (i := 936) (by decide +kernel)) (by decide +kernel)
theorem ct_M_228 : Cond.constantLong "TokenBusModel" 228 (-10) ∈ xGW := xGW_in (List.mem_of_getElem? (i := 937) (by decide +kernel)) (by decide +kernel)
theorem im_objInit : Cond.instanceMethod Lib.objectInit ∈ xGW := xGW_in (List.mem_of_getElem? (i := 63) (by decide +kernel)) (by decide +kernel)
theorem co_objInit : Cond.code Lib.objectInit ⟨#[0xb1]⟩ 1 none ∈ xGW := xGW_in (List.mem_of_getElem? (i := 64) (by decide +kernel)) (by decide +kernel)
theorem st_max : Cond.static Lib.Math.max.name ∈ xGW := xGW_in (List.mem_of_getElem? (i := 571) (by decide +kernel)) (by decide +kernel)
theorem co_max : Cond.code Lib.Math.max.name Lib.Math.max.code 2 (some .int) ∈ xGW := xGW_in (List.mem_of_getElem? (i := 572) (by decide +kernel)) (by decide +kernel)
theorem st_min : Cond.static Lib.Math.min.name ∈ xGW := xGW_in (List.mem_of_getElem? (i := 568) (by decide +kernel)) (by decide +kernel)
theorem co_min : Cond.code Lib.Math.min.name Lib.Math.min.code 2 (some .int) ∈ xGW := xGW_in (List.mem_of_getElem? (i := 569) (by decide +kernel)) (by decide +kernel)
theorem st_labs : Cond.static Lib.MathLoose.abs_long.x ∈ xGW := xGW_in (List.mem_of_getElem? (i := 585) (by decide +kernel)) (by decide +kernel)
theorem co_labs : Cond.code Lib.MathLoose.abs_long.x Lib.MathLoose.abs_long.code 2 (some .long) ∈ xGW := xGW_in (List.mem_of_getElem? (i := 586) (by decide +kernel)) (by decide +kernel)
theorem g_B_init_1 : Cond.methodLink M_B_init.1.cls 1 Lib.objectInit ∈ xGW := ml_B_1
theorem g_B_init_23 : x_gJ M_B_init 23 M_F_init 0 "TokenBus" := ⟨by decide +kernel, im_F_init, rfl, rfl, ⟨in_F, co_F_init, nm_F_init.1, by decide, by decide, nm_F_init.2⟩⟩
theorem g_B_init_35 : x_gI M_B_init 35 M_N_init 1 := ⟨ml_B_35, im_N_init, rfl, rfl, ⟨in_N, co_N_init, nm_N_init.1, by decide, by decide, nm_N_init.2⟩⟩
theorem g_B_power_38 : x_gS M_B_power 38 M_B_isNode 1 := ⟨ml_B_38, st_B_isNode, ⟨in_B, co_B_isNode, nm_B_isNode.1, by decide, by decide, nm_B_isNode.2⟩⟩
theorem g_B_power_46 : x_gV M_B_power 46 M_N_getPower 0 6 := ⟨ml_B_46, im_N_getPower, se_N_getPower, ⟨in_N, co_N_getPower, nm_N_getPower.1, by decide, by decide, nm_N_getPower.2⟩, ⟨xT_N, 17, rfl⟩, by decide⟩
theorem g_B_power_49 : x_gV M_B_power 49 M_B_loseTokenOf 1 0 := ⟨ml_B_49, im_B_loseTokenOf, se_B_loseTokenOf, ⟨in_B, co_B_loseTokenOf, nm_B_loseTokenOf.1, by decide, by decide, nm_B_loseTokenOf.2⟩, ⟨xT_B, 13, rfl⟩, by decide⟩
theorem g_B_sense_38 : x_gS M_B_sense 38 M_B_isNode 1 := ⟨ml_B_38, st_B_isNode, ⟨in_B, co_B_isNode, nm_B_isNode.1, by decide, by decide, nm_B_isNode.2⟩⟩
theorem g_B_sense_52 : x_gS M_B_sense 52 M_B_isWithin 3 := ⟨ml_B_52, st_B_isWithin, ⟨in_B, co_B_isWithin, nm_B_isWithin.1, by decide, by decide, nm_B_isWithin.2⟩⟩
theorem g_B_gains_38 : x_gS M_B_gains 38 M_B_isNode 1 := ⟨ml_B_38, st_B_isNode, ⟨in_B, co_B_isNode, nm_B_isNode.1, by decide, by decide, nm_B_isNode.2⟩⟩
theorem g_B_gains_52 : x_gS M_B_gains 52 M_B_isWithin 3 := ⟨ml_B_52, st_B_isWithin, ⟨in_B, co_B_isWithin, nm_B_isWithin.1, by decide, by decide, nm_B_isWithin.2⟩⟩
theorem g_B_gains_63 : x_gV M_B_gains 63 M_L_tune 2 5 := ⟨ml_B_63, im_L_tune, se_L_tune, ⟨in_L, co_L_tune, nm_L_tune.1, by decide, by decide, nm_L_tune.2⟩, ⟨xT_L, 4, rfl⟩, by decide⟩
theorem g_B_request_38 : x_gS M_B_request 38 M_B_isNode 1 := ⟨ml_B_38, st_B_isNode, ⟨in_B, co_B_isNode, nm_B_isNode.1, by decide, by decide, nm_B_isNode.2⟩⟩
theorem g_B_request_52 : x_gS M_B_request 52 M_B_isWithin 3 := ⟨ml_B_52, st_B_isWithin, ⟨in_B, co_B_isWithin, nm_B_isWithin.1, by decide, by decide, nm_B_isWithin.2⟩⟩
theorem g_B_request_75 : x_gI M_B_request 75 M_R_init 4 := ⟨ml_B_75, im_R_init, rfl, rfl, ⟨in_R, co_R_init, nm_R_init.1, by decide, by decide, nm_R_init.2⟩⟩
theorem g_B_request_78 : x_gV M_B_request 78 M_N_enqueue 1 6 := ⟨ml_B_78, im_N_enqueue, se_N_enqueue, ⟨in_N, co_N_enqueue, nm_N_enqueue.1, by decide, by decide, nm_N_enqueue.2⟩, ⟨xT_N, 17, rfl⟩, by decide⟩
theorem g_B_spoil_52 : x_gS M_B_spoil 52 M_B_isWithin 3 := ⟨ml_B_52, st_B_isWithin, ⟨in_B, co_B_isWithin, nm_B_isWithin.1, by decide, by decide, nm_B_isWithin.2⟩⟩
theorem g_B_spoil_82 : x_gV M_B_spoil 82 M_B_forgetSpoiling 0 0 := ⟨ml_B_82, im_B_forgetSpoiling, se_B_forgetSpoiling, ⟨in_B, co_B_forgetSpoiling, nm_B_forgetSpoiling.1, by decide, by decide, nm_B_forgetSpoiling.2⟩, ⟨xT_B, 13, rfl⟩, by decide⟩
theorem g_B_spoil_85 : x_gV M_B_spoil 85 M_B_numbered 1 0 := ⟨ml_B_85, im_B_numbered, se_B_numbered, ⟨in_B, co_B_numbered, nm_B_numbered.1, by decide, by decide, nm_B_numbered.2⟩, ⟨xT_B, 13, rfl⟩, by decide⟩
theorem g_B_spoil_89 : x_gV M_B_spoil 89 M_F_planSpoiling 2 1 := ⟨ml_B_89, im_F_planSpoiling, se_F_planSpoiling, ⟨in_F, co_F_planSpoiling, nm_F_planSpoiling.1, by decide, by decide, nm_F_planSpoiling.2⟩, ⟨xT_F, 4, rfl⟩, by decide⟩
theorem g_B_step_92 : x_gV M_B_step 92 M_B_beginStep 0 0 := ⟨ml_B_92, im_B_beginStep, se_B_beginStep, ⟨in_B, co_B_beginStep, nm_B_beginStep.1, by decide, by decide, nm_B_beginStep.2⟩, ⟨xT_B, 13, rfl⟩, by decide⟩
theorem g_B_step_95 : x_gV M_B_step 95 M_B_waitInSilence 0 0 := ⟨ml_B_95, im_B_waitInSilence, se_B_waitInSilence, ⟨in_B, co_B_waitInSilence, nm_B_waitInSilence.1, by decide, by decide, nm_B_waitInSilence.2⟩, ⟨xT_B, 13, rfl⟩, by decide⟩
theorem g_B_step_101 : x_gV M_B_step 101 M_B_search 1 0 := ⟨ml_B_101, im_B_search, se_B_search, ⟨in_B, co_B_search, nm_B_search.1, by decide, by decide, nm_B_search.2⟩, ⟨xT_B, 13, rfl⟩, by decide⟩
theorem g_B_step_105 : x_gV M_B_step 105 M_B_use 1 0 := ⟨ml_B_105, im_B_use, se_B_use, ⟨in_B, co_B_use, nm_B_use.1, by decide, by decide, nm_B_use.2⟩, ⟨xT_B, 13, rfl⟩, by decide⟩
theorem g_B_step_109 : x_gV M_B_step 109 M_B_poll 1 0 := ⟨ml_B_109, im_B_poll, se_B_poll, ⟨in_B, co_B_poll, nm_B_poll.1, by decide, by decide, nm_B_poll.2⟩, ⟨xT_B, 13, rfl⟩, by decide⟩
theorem g_B_step_112 : x_gV M_B_step 112 M_B_pass 1 0 := ⟨ml_B_112, im_B_pass, se_B_pass, ⟨in_B, co_B_pass, nm_B_pass.1, by decide, by decide, nm_B_pass.2⟩, ⟨xT_B, 13, rfl⟩, by decide⟩
theorem g_B_step_115 : x_gV M_B_step 115 M_B_endStep 0 0 := ⟨ml_B_115, im_B_endStep, se_B_endStep, ⟨in_B, co_B_endStep, nm_B_endStep.1, by decide, by decide, nm_B_endStep.2⟩, ⟨xT_B, 13, rfl⟩, by decide⟩
theorem g_B_node_38 : x_gS M_B_node 38 M_B_isNode 1 := ⟨ml_B_38, st_B_isNode, ⟨in_B, co_B_isNode, nm_B_isNode.1, by decide, by decide, nm_B_isNode.2⟩⟩
theorem g_B_node_121 : x_gV M_B_node 121 M_N_fact 1 6 := ⟨ml_B_121, im_N_fact, se_N_fact, ⟨in_N, co_N_fact, nm_N_fact.1, by decide, by decide, nm_N_fact.2⟩, ⟨xT_N, 17, rfl⟩, by decide⟩
theorem g_B_value_38 : x_gS M_B_value 38 M_B_isNode 1 := ⟨ml_B_38, st_B_isNode, ⟨in_B, co_B_isNode, nm_B_isNode.1, by decide, by decide, nm_B_isNode.2⟩⟩
theorem g_B_value_125 : x_gV M_B_value 125 M_N_objectValue 1 6 := ⟨ml_B_125, im_N_objectValue, se_N_objectValue, ⟨in_N, co_N_objectValue, nm_N_objectValue.1, by decide, by decide, nm_N_objectValue.2⟩, ⟨xT_N, 17, rfl⟩, by decide⟩
theorem g_B_level_38 : x_gS M_B_level 38 M_B_isNode 1 := ⟨ml_B_38, st_B_isNode, ⟨in_B, co_B_isNode, nm_B_isNode.1, by decide, by decide, nm_B_isNode.2⟩⟩
theorem g_B_level_132 : x_gV M_B_level 132 M_O_numberAt 1 4 := ⟨ml_B_132, im_O_numberAt, se_O_numberAt, ⟨in_O, co_O_numberAt, nm_O_numberAt.1, by decide, by decide, nm_O_numberAt.2⟩, ⟨xT_O, 2, rfl⟩, by decide⟩
theorem g_B_set_38 : x_gS M_B_set 38 M_B_isNode 1 := ⟨ml_B_38, st_B_isNode, ⟨in_B, co_B_isNode, nm_B_isNode.1, by decide, by decide, nm_B_isNode.2⟩⟩
theorem g_B_set_137 : x_gV M_B_set 137 M_O_isFilled 1 4 := ⟨ml_B_137, im_O_isFilled, se_O_isFilled, ⟨in_O, co_O_isFilled, nm_O_isFilled.1, by decide, by decide, nm_O_isFilled.2⟩, ⟨xT_O, 2, rfl⟩, by decide⟩
theorem g_B_state_140 : x_gV M_B_state 140 M_B_isRequest 1 0 := ⟨ml_B_140, im_B_isRequest, se_B_isRequest, ⟨in_B, co_B_isRequest, nm_B_isRequest.1, by decide, by decide, nm_B_isRequest.2⟩, ⟨xT_B, 13, rfl⟩, by decide⟩
theorem g_B_answer_140 : x_gV M_B_answer 140 M_B_isRequest 1 0 := ⟨ml_B_140, im_B_isRequest, se_B_isRequest, ⟨in_B, co_B_isRequest, nm_B_isRequest.1, by decide, by decide, nm_B_isRequest.2⟩, ⟨xT_B, 13, rfl⟩, by decide⟩
theorem g_B_noted_38 : x_gS M_B_noted 38 M_B_isNode 1 := ⟨ml_B_38, st_B_isNode, ⟨in_B, co_B_isNode, nm_B_isNode.1, by decide, by decide, nm_B_isNode.2⟩⟩
theorem g_B_noted_149 : x_gV M_B_noted 149 M_N_notedFact 1 6 := ⟨ml_B_149, im_N_notedFact, se_N_notedFact, ⟨in_N, co_N_notedFact, nm_N_notedFact.1, by decide, by decide, nm_N_notedFact.2⟩, ⟨xT_N, 17, rfl⟩, by decide⟩
theorem g_B_frame_52 : x_gS M_B_frame 52 M_B_isWithin 3 := ⟨ml_B_52, st_B_isWithin, ⟨in_B, co_B_isWithin, nm_B_isWithin.1, by decide, by decide, nm_B_isWithin.2⟩⟩
theorem g_B_frame_85 : x_gV M_B_frame 85 M_B_numbered 1 0 := ⟨ml_B_85, im_B_numbered, se_B_numbered, ⟨in_B, co_B_numbered, nm_B_numbered.1, by decide, by decide, nm_B_numbered.2⟩, ⟨xT_B, 13, rfl⟩, by decide⟩
theorem g_B_frame_152 : x_gV M_B_frame 152 M_F_byteOrSize 1 1 := ⟨ml_B_152, im_F_byteOrSize, se_F_byteOrSize, ⟨in_F, co_F_byteOrSize, nm_F_byteOrSize.1, by decide, by decide, nm_F_byteOrSize.2⟩, ⟨xT_F, 4, rfl⟩, by decide⟩
theorem g_B_held_164 : x_mth M_B_held 164 Lib.Math.min.name Lib.Math.min.code 2 (some .int) := ⟨ml_B_164, st_min, in_J, co_min⟩
theorem g_B_held_170 : x_mth M_B_held 170 Lib.Math.max.name Lib.Math.max.code 2 (some .int) := ⟨ml_B_170, st_max, in_J, co_max⟩
theorem g_B_isNode_52 : x_gS M_B_isNode 52 M_B_isWithin 3 := ⟨ml_B_52, st_B_isWithin, ⟨in_B, co_B_isWithin, nm_B_isWithin.1, by decide, by decide, nm_B_isWithin.2⟩⟩
theorem g_B_forgetSpoiling_173 : x_gV M_B_forgetSpoiling 173 M_F_forgetSpoiling 0 1 := ⟨ml_B_173, im_F_forgetSpoiling, se_F_forgetSpoiling, ⟨in_F, co_F_forgetSpoiling, nm_F_forgetSpoiling.1, by decide, by decide, nm_F_forgetSpoiling.2⟩, ⟨xT_F, 4, rfl⟩, by decide⟩
theorem g_B_beginStep_174 : x_gV M_B_beginStep 174 M_F_empty 0 1 := ⟨ml_B_174, im_F_empty, se_F_empty, ⟨in_F, co_F_empty, nm_F_empty.1, by decide, by decide, nm_F_empty.2⟩, ⟨xT_F, 4, rfl⟩, by decide⟩
theorem g_B_endStep_82 : x_gV M_B_endStep 82 M_B_forgetSpoiling 0 0 := ⟨ml_B_82, im_B_forgetSpoiling, se_B_forgetSpoiling, ⟨in_B, co_B_forgetSpoiling, nm_B_forgetSpoiling.1, by decide, by decide, nm_B_forgetSpoiling.2⟩, ⟨xT_B, 13, rfl⟩, by decide⟩
theorem g_B_endStep_177 : x_gV M_B_endStep 177 M_N_runLoop 0 6 := ⟨ml_B_177, im_N_runLoop, se_N_runLoop, ⟨in_N, co_N_runLoop, nm_N_runLoop.1, by decide, by decide, nm_N_runLoop.2⟩, ⟨xT_N, 17, rfl⟩, by decide⟩
theorem g_B_endStep_180 : x_gV M_B_endStep 180 M_N_findDue 0 6 := ⟨ml_B_180, im_N_findDue, se_N_findDue, ⟨in_N, co_N_findDue, nm_N_findDue.1, by decide, by decide, nm_N_findDue.2⟩, ⟨xT_N, 17, rfl⟩, by decide⟩
theorem g_B_waitInSilence_183 : x_gV M_B_waitInSilence 183 M_B_leastPowered 0 0 := ⟨ml_B_183, im_B_leastPowered, se_B_leastPowered, ⟨in_B, co_B_leastPowered, nm_B_leastPowered.1, by decide, by decide, nm_B_leastPowered.2⟩, ⟨xT_B, 13, rfl⟩, by decide⟩
theorem g_B_waitInSilence_187 : x_gV M_B_waitInSilence 187 M_N_forgetOthers 0 6 := ⟨ml_B_187, im_N_forgetOthers, se_N_forgetOthers, ⟨in_N, co_N_forgetOthers, nm_N_forgetOthers.1, by decide, by decide, nm_N_forgetOthers.2⟩, ⟨xT_N, 17, rfl⟩, by decide⟩
theorem g_B_use_190 : x_gV M_B_use 190 M_N_firstDue 0 6 := ⟨ml_B_190, im_N_firstDue, se_N_firstDue, ⟨in_N, co_N_firstDue, nm_N_firstDue.1, by decide, by decide, nm_N_firstDue.2⟩, ⟨xT_N, 17, rfl⟩, by decide⟩
theorem g_B_use_197 : x_gV M_B_use 197 M_B_sendNotice 2 0 := ⟨ml_B_197, im_B_sendNotice, se_B_sendNotice, ⟨in_B, co_B_sendNotice, nm_B_sendNotice.1, by decide, by decide, nm_B_sendNotice.2⟩, ⟨xT_B, 13, rfl⟩, by decide⟩
theorem g_B_use_204 : x_gV M_B_use 204 M_B_sendRequest 2 0 := ⟨ml_B_204, im_B_sendRequest, se_B_sendRequest, ⟨in_B, co_B_sendRequest, nm_B_sendRequest.1, by decide, by decide, nm_B_sendRequest.2⟩, ⟨xT_B, 13, rfl⟩, by decide⟩
theorem g_B_use_217 : x_gV M_B_use 217 M_B_enterPass 0 0 := ⟨ml_B_217, im_B_enterPass, se_B_enterPass, ⟨in_B, co_B_enterPass, nm_B_enterPass.1, by decide, by decide, nm_B_enterPass.2⟩, ⟨xT_B, 13, rfl⟩, by decide⟩
theorem g_B_poll_223 : x_gS M_B_poll 223 M_B_behind 1 := ⟨ml_B_223, st_B_behind, ⟨in_B, co_B_behind, nm_B_behind.1, by decide, by decide, nm_B_behind.2⟩⟩
theorem g_B_poll_217 : x_gV M_B_poll 217 M_B_enterPass 0 0 := ⟨ml_B_217, im_B_enterPass, se_B_enterPass, ⟨in_B, co_B_enterPass, nm_B_enterPass.1, by decide, by decide, nm_B_enterPass.2⟩, ⟨xT_B, 13, rfl⟩, by decide⟩
theorem g_B_poll_226 : x_gV M_B_poll 226 M_B_askToJoin 2 0 := ⟨ml_B_226, im_B_askToJoin, se_B_askToJoin, ⟨in_B, co_B_askToJoin, nm_B_askToJoin.1, by decide, by decide, nm_B_askToJoin.2⟩, ⟨xT_B, 13, rfl⟩, by decide⟩
theorem g_B_poll_230 : x_gV M_B_poll 230 M_B_enterUse 0 0 := ⟨ml_B_230, im_B_enterUse, se_B_enterUse, ⟨in_B, co_B_enterUse, nm_B_enterUse.1, by decide, by decide, nm_B_enterUse.2⟩, ⟨xT_B, 13, rfl⟩, by decide⟩
theorem g_B_pass_233 : x_gV M_B_pass 233 M_F_writeHeader 4 1 := ⟨ml_B_233, im_F_writeHeader, se_F_writeHeader, ⟨in_F, co_F_writeHeader, nm_F_writeHeader.1, by decide, by decide, nm_F_writeHeader.2⟩, ⟨xT_F, 4, rfl⟩, by decide⟩
theorem g_B_pass_236 : x_gV M_B_pass 236 M_B_arrives 1 0 := ⟨ml_B_236, im_B_arrives, se_B_arrives, ⟨in_B, co_B_arrives, nm_B_arrives.1, by decide, by decide, nm_B_arrives.2⟩, ⟨xT_B, 13, rfl⟩, by decide⟩
theorem g_B_pass_240 : x_gV M_B_pass 240 M_N_getToken 0 6 := ⟨ml_B_240, im_N_getToken, se_N_getToken, ⟨in_N, co_N_getToken, nm_N_getToken.1, by decide, by decide, nm_N_getToken.2⟩, ⟨xT_N, 17, rfl⟩, by decide⟩
theorem g_B_pass_230 : x_gV M_B_pass 230 M_B_enterUse 0 0 := ⟨ml_B_230, im_B_enterUse, se_B_enterUse, ⟨in_B, co_B_enterUse, nm_B_enterUse.1, by decide, by decide, nm_B_enterUse.2⟩, ⟨xT_B, 13, rfl⟩, by decide⟩
theorem g_B_search_223 : x_gS M_B_search 223 M_B_behind 1 := ⟨ml_B_223, st_B_behind, ⟨in_B, co_B_behind, nm_B_behind.1, by decide, by decide, nm_B_behind.2⟩⟩
theorem g_B_search_230 : x_gV M_B_search 230 M_B_enterUse 0 0 := ⟨ml_B_230, im_B_enterUse, se_B_enterUse, ⟨in_B, co_B_enterUse, nm_B_enterUse.1, by decide, by decide, nm_B_enterUse.2⟩, ⟨xT_B, 13, rfl⟩, by decide⟩
theorem g_B_search_226 : x_gV M_B_search 226 M_B_askToJoin 2 0 := ⟨ml_B_226, im_B_askToJoin, se_B_askToJoin, ⟨in_B, co_B_askToJoin, nm_B_askToJoin.1, by decide, by decide, nm_B_askToJoin.2⟩, ⟨xT_B, 13, rfl⟩, by decide⟩
theorem g_B_search_217 : x_gV M_B_search 217 M_B_enterPass 0 0 := ⟨ml_B_217, im_B_enterPass, se_B_enterPass, ⟨in_B, co_B_enterPass, nm_B_enterPass.1, by decide, by decide, nm_B_enterPass.2⟩, ⟨xT_B, 13, rfl⟩, by decide⟩
theorem g_B_askToJoin_233 : x_gV M_B_askToJoin 233 M_F_writeHeader 4 1 := ⟨ml_B_233, im_F_writeHeader, se_F_writeHeader, ⟨in_F, co_F_writeHeader, nm_F_writeHeader.1, by decide, by decide, nm_F_writeHeader.2⟩, ⟨xT_F, 4, rfl⟩, by decide⟩
theorem g_B_askToJoin_236 : x_gV M_B_askToJoin 236 M_B_arrives 1 0 := ⟨ml_B_236, im_B_arrives, se_B_arrives, ⟨in_B, co_B_arrives, nm_B_arrives.1, by decide, by decide, nm_B_arrives.2⟩, ⟨xT_B, 13, rfl⟩, by decide⟩
theorem g_B_sendNotice_125 : x_gV M_B_sendNotice 125 M_N_objectValue 1 6 := ⟨ml_B_125, im_N_objectValue, se_N_objectValue, ⟨in_N, co_N_objectValue, nm_N_objectValue.1, by decide, by decide, nm_N_objectValue.2⟩, ⟨xT_N, 17, rfl⟩, by decide⟩
theorem g_B_sendNotice_251 : x_gV M_B_sendNotice 251 M_S_renew 1 3 := ⟨ml_B_251, im_S_renew, se_S_renew, ⟨in_S, co_S_renew, nm_S_renew.1, by decide, by decide, nm_S_renew.2⟩, ⟨xT_S, 4, rfl⟩, by decide⟩
theorem g_B_sendNotice_233 : x_gV M_B_sendNotice 233 M_F_writeHeader 4 1 := ⟨ml_B_233, im_F_writeHeader, se_F_writeHeader, ⟨in_F, co_F_writeHeader, nm_F_writeHeader.1, by decide, by decide, nm_F_writeHeader.2⟩, ⟨xT_F, 4, rfl⟩, by decide⟩
theorem g_B_sendNotice_257 : x_gV M_B_sendNotice 257 M_F_writeData 5 1 := ⟨ml_B_257, im_F_writeData, se_F_writeData, ⟨in_F, co_F_writeData, nm_F_writeData.1, by decide, by decide, nm_F_writeData.2⟩, ⟨xT_F, 4, rfl⟩, by decide⟩
theorem g_B_sendNotice_236 : x_gV M_B_sendNotice 236 M_B_arrives 1 0 := ⟨ml_B_236, im_B_arrives, se_B_arrives, ⟨in_B, co_B_arrives, nm_B_arrives.1, by decide, by decide, nm_B_arrives.2⟩, ⟨xT_B, 13, rfl⟩, by decide⟩
theorem g_B_sendNotice_261 : x_gV M_B_sendNotice 261 M_N_note 3 6 := ⟨ml_B_261, im_N_note, se_N_note, ⟨in_N, co_N_note, nm_N_note.1, by decide, by decide, nm_N_note.2⟩, ⟨xT_N, 17, rfl⟩, by decide⟩
theorem g_B_sendRequest_265 : x_gV M_B_sendRequest 265 M_B_writeAsk 2 0 := ⟨ml_B_265, im_B_writeAsk, se_B_writeAsk, ⟨in_B, co_B_writeAsk, nm_B_writeAsk.1, by decide, by decide, nm_B_writeAsk.2⟩, ⟨xT_B, 13, rfl⟩, by decide⟩
theorem g_B_sendRequest_236 : x_gV M_B_sendRequest 236 M_B_arrives 1 0 := ⟨ml_B_236, im_B_arrives, se_B_arrives, ⟨in_B, co_B_arrives, nm_B_arrives.1, by decide, by decide, nm_B_arrives.2⟩, ⟨xT_B, 13, rfl⟩, by decide⟩
theorem g_B_sendRequest_274 : x_gV M_B_sendRequest 274 M_N_carryOut 2 6 := ⟨ml_B_274, im_N_carryOut, se_N_carryOut, ⟨in_N, co_N_carryOut, nm_N_carryOut.1, by decide, by decide, nm_N_carryOut.2⟩, ⟨xT_N, 17, rfl⟩, by decide⟩
theorem g_B_sendRequest_278 : x_gV M_B_sendRequest 278 M_B_writeAnswer 2 0 := ⟨ml_B_278, im_B_writeAnswer, se_B_writeAnswer, ⟨in_B, co_B_writeAnswer, nm_B_writeAnswer.1, by decide, by decide, nm_B_writeAnswer.2⟩, ⟨xT_B, 13, rfl⟩, by decide⟩
theorem g_B_sendRequest_284 : x_gV M_B_sendRequest 284 M_R_countTry 0 2 := ⟨ml_B_284, im_R_countTry, se_R_countTry, ⟨in_R, co_R_countTry, nm_R_countTry.1, by decide, by decide, nm_R_countTry.2⟩, ⟨xT_R, 11, rfl⟩, by decide⟩
theorem g_B_sendRequest_287 : x_gV M_B_sendRequest 287 M_N_dequeue 0 6 := ⟨ml_B_287, im_N_dequeue, se_N_dequeue, ⟨in_N, co_N_dequeue, nm_N_dequeue.1, by decide, by decide, nm_N_dequeue.2⟩, ⟨xT_N, 17, rfl⟩, by decide⟩
theorem g_B_writeAsk_233 : x_gV M_B_writeAsk 233 M_F_writeHeader 4 1 := ⟨ml_B_233, im_F_writeHeader, se_F_writeHeader, ⟨in_F, co_F_writeHeader, nm_F_writeHeader.1, by decide, by decide, nm_F_writeHeader.2⟩, ⟨xT_F, 4, rfl⟩, by decide⟩
theorem g_B_writeAsk_257 : x_gV M_B_writeAsk 257 M_F_writeData 5 1 := ⟨ml_B_257, im_F_writeData, se_F_writeData, ⟨in_F, co_F_writeData, nm_F_writeData.1, by decide, by decide, nm_F_writeData.2⟩, ⟨xT_F, 4, rfl⟩, by decide⟩
theorem g_B_writeAnswer_233 : x_gV M_B_writeAnswer 233 M_F_writeHeader 4 1 := ⟨ml_B_233, im_F_writeHeader, se_F_writeHeader, ⟨in_F, co_F_writeHeader, nm_F_writeHeader.1, by decide, by decide, nm_F_writeHeader.2⟩, ⟨xT_F, 4, rfl⟩, by decide⟩
theorem g_B_writeAnswer_257 : x_gV M_B_writeAnswer 257 M_F_writeData 5 1 := ⟨ml_B_257, im_F_writeData, se_F_writeData, ⟨in_F, co_F_writeData, nm_F_writeData.1, by decide, by decide, nm_F_writeData.2⟩, ⟨xT_F, 4, rfl⟩, by decide⟩
theorem g_B_arrives_301 : x_gV M_B_arrives 301 M_F_spoilAsPlanned 0 1 := ⟨ml_B_301, im_F_spoilAsPlanned, se_F_spoilAsPlanned, ⟨in_F, co_F_spoilAsPlanned, nm_F_spoilAsPlanned.1, by decide, by decide, nm_F_spoilAsPlanned.2⟩, ⟨xT_F, 4, rfl⟩, by decide⟩
theorem g_B_arrives_304 : x_gV M_B_arrives 304 M_F_destination 0 1 := ⟨ml_B_304, im_F_destination, se_F_destination, ⟨in_F, co_F_destination, nm_F_destination.1, by decide, by decide, nm_F_destination.2⟩, ⟨xT_F, 4, rfl⟩, by decide⟩
theorem g_B_arrives_307 : x_gV M_B_arrives 307 M_F_isRight 0 1 := ⟨ml_B_307, im_F_isRight, se_F_isRight, ⟨in_F, co_F_isRight, nm_F_isRight.1, by decide, by decide, nm_F_isRight.2⟩, ⟨xT_F, 4, rfl⟩, by decide⟩
theorem g_B_arrives_38 : x_gS M_B_arrives 38 M_B_isNode 1 := ⟨ml_B_38, st_B_isNode, ⟨in_B, co_B_isNode, nm_B_isNode.1, by decide, by decide, nm_B_isNode.2⟩⟩
theorem g_M_init_1 : Cond.methodLink M_M_init.1.cls 1 Lib.objectInit ∈ xGW := ml_M_1
theorem g_M_power_111 : x_gS M_M_power 111 M_M_isNode 1 := ⟨ml_M_111, st_M_isNode, ⟨in_M, co_M_isNode, nm_M_isNode.1, by decide, by decide, nm_M_isNode.2⟩⟩
theorem g_M_sense_111 : x_gS M_M_sense 111 M_M_isNode 1 := ⟨ml_M_111, st_M_isNode, ⟨in_M, co_M_isNode, nm_M_isNode.1, by decide, by decide, nm_M_isNode.2⟩⟩
theorem g_M_sense_121 : x_gS M_M_sense 121 M_M_outside 3 := ⟨ml_M_121, st_M_outside, ⟨in_M, co_M_outside, nm_M_outside.1, by decide, by decide, nm_M_outside.2⟩⟩
theorem g_M_gains_111 : x_gS M_M_gains 111 M_M_isNode 1 := ⟨ml_M_111, st_M_isNode, ⟨in_M, co_M_isNode, nm_M_isNode.1, by decide, by decide, nm_M_isNode.2⟩⟩
theorem g_M_gains_121 : x_gS M_M_gains 121 M_M_outside 3 := ⟨ml_M_121, st_M_outside, ⟨in_M, co_M_outside, nm_M_outside.1, by decide, by decide, nm_M_outside.2⟩⟩
theorem g_M_request_111 : x_gS M_M_request 111 M_M_isNode 1 := ⟨ml_M_111, st_M_isNode, ⟨in_M, co_M_isNode, nm_M_isNode.1, by decide, by decide, nm_M_isNode.2⟩⟩
theorem g_M_request_121 : x_gS M_M_request 121 M_M_outside 3 := ⟨ml_M_121, st_M_outside, ⟨in_M, co_M_outside, nm_M_outside.1, by decide, by decide, nm_M_outside.2⟩⟩
theorem g_M_request_128 : x_gV M_M_request 128 M_M_waiting 1 7 := ⟨ml_M_128, im_M_waiting, se_M_waiting, ⟨in_M, co_M_waiting, nm_M_waiting.1, by decide, by decide, nm_M_waiting.2⟩, ⟨xT_M, 45, rfl⟩, by decide⟩
theorem g_M_spoil_121 : x_gS M_M_spoil 121 M_M_outside 3 := ⟨ml_M_121, st_M_outside, ⟨in_M, co_M_outside, nm_M_outside.1, by decide, by decide, nm_M_outside.2⟩⟩
theorem g_M_headCheck_141 : x_gS M_M_headCheck 141 M_M_grown 3 := ⟨ml_M_141, st_M_grown, ⟨in_M, co_M_grown, nm_M_grown.1, by decide, by decide, nm_M_grown.2⟩⟩
theorem g_M_dataCheck_141 : x_gS M_M_dataCheck 141 M_M_grown 3 := ⟨ml_M_141, st_M_grown, ⟨in_M, co_M_grown, nm_M_grown.1, by decide, by decide, nm_M_grown.2⟩⟩
theorem g_M_carry_150 : x_gV M_M_carry 150 M_M_headCheck 1 7 := ⟨ml_M_150, im_M_headCheck, se_M_headCheck, ⟨in_M, co_M_headCheck, nm_M_headCheck.1, by decide, by decide, nm_M_headCheck.2⟩, ⟨xT_M, 45, rfl⟩, by decide⟩
theorem g_M_carry_153 : x_gV M_M_carry 153 M_M_dataCheck 1 7 := ⟨ml_M_153, im_M_dataCheck, se_M_dataCheck, ⟨in_M, co_M_dataCheck, nm_M_dataCheck.1, by decide, by decide, nm_M_dataCheck.2⟩, ⟨xT_M, 45, rfl⟩, by decide⟩
theorem g_M_carry_111 : x_gS M_M_carry 111 M_M_isNode 1 := ⟨ml_M_111, st_M_isNode, ⟨in_M, co_M_isNode, nm_M_isNode.1, by decide, by decide, nm_M_isNode.2⟩⟩
theorem g_M_value_111 : x_gS M_M_value 111 M_M_isNode 1 := ⟨ml_M_111, st_M_isNode, ⟨in_M, co_M_isNode, nm_M_isNode.1, by decide, by decide, nm_M_isNode.2⟩⟩
theorem g_M_value_156 : x_gV M_M_value 156 M_M_outputOf 1 7 := ⟨ml_M_156, im_M_outputOf, se_M_outputOf, ⟨in_M, co_M_outputOf, nm_M_outputOf.1, by decide, by decide, nm_M_outputOf.2⟩, ⟨xT_M, 45, rfl⟩, by decide⟩
theorem g_M_subscribe_159 : x_gV M_M_subscribe 159 M_M_subscriptionsOf 1 7 := ⟨ml_M_159, im_M_subscriptionsOf, se_M_subscriptionsOf, ⟨in_M, co_M_subscriptionsOf, nm_M_subscriptionsOf.1, by decide, by decide, nm_M_subscriptionsOf.2⟩, ⟨xT_M, 45, rfl⟩, by decide⟩
theorem g_M_subscribe_162 : x_gV M_M_subscribe 162 M_M_value 2 7 := ⟨ml_M_162, im_M_value, se_M_value, ⟨in_M, co_M_value, nm_M_value.1, by decide, by decide, nm_M_value.2⟩, ⟨xT_M, 45, rfl⟩, by decide⟩
theorem g_M_work_162 : x_gV M_M_work 162 M_M_value 2 7 := ⟨ml_M_162, im_M_value, se_M_value, ⟨in_M, co_M_value, nm_M_value.1, by decide, by decide, nm_M_value.2⟩, ⟨xT_M, 45, rfl⟩, by decide⟩
theorem g_M_work_121 : x_gS M_M_work 121 M_M_outside 3 := ⟨ml_M_121, st_M_outside, ⟨in_M, co_M_outside, nm_M_outside.1, by decide, by decide, nm_M_outside.2⟩⟩
theorem g_M_work_166 : x_gV M_M_work 166 M_M_subscribe 3 7 := ⟨ml_M_166, im_M_subscribe, se_M_subscribe, ⟨in_M, co_M_subscribe, nm_M_subscribe.1, by decide, by decide, nm_M_subscribe.2⟩, ⟨xT_M, 45, rfl⟩, by decide⟩
theorem g_M_tell_162 : x_gV M_M_tell 162 M_M_value 2 7 := ⟨ml_M_162, im_M_value, se_M_value, ⟨in_M, co_M_value, nm_M_value.1, by decide, by decide, nm_M_value.2⟩, ⟨xT_M, 45, rfl⟩, by decide⟩
theorem g_M_tell_169 : x_gV M_M_tell 169 M_M_lay 5 7 := ⟨ml_M_169, im_M_lay, se_M_lay, ⟨in_M, co_M_lay, nm_M_lay.1, by decide, by decide, nm_M_lay.2⟩, ⟨xT_M, 45, rfl⟩, by decide⟩
theorem g_M_tell_173 : x_gV M_M_tell 173 M_M_carry 4 7 := ⟨ml_M_173, im_M_carry, se_M_carry, ⟨in_M, co_M_carry, nm_M_carry.1, by decide, by decide, nm_M_carry.2⟩, ⟨xT_M, 45, rfl⟩, by decide⟩
theorem g_M_ask_169 : x_gV M_M_ask 169 M_M_lay 5 7 := ⟨ml_M_169, im_M_lay, se_M_lay, ⟨in_M, co_M_lay, nm_M_lay.1, by decide, by decide, nm_M_lay.2⟩, ⟨xT_M, 45, rfl⟩, by decide⟩
theorem g_M_ask_173 : x_gV M_M_ask 173 M_M_carry 4 7 := ⟨ml_M_173, im_M_carry, se_M_carry, ⟨in_M, co_M_carry, nm_M_carry.1, by decide, by decide, nm_M_carry.2⟩, ⟨xT_M, 45, rfl⟩, by decide⟩
theorem g_M_ask_177 : x_gV M_M_ask 177 M_M_work 1 7 := ⟨ml_M_177, im_M_work, se_M_work, ⟨in_M, co_M_work, nm_M_work.1, by decide, by decide, nm_M_work.2⟩, ⟨xT_M, 45, rfl⟩, by decide⟩
theorem g_M_use_181 : x_gV M_M_use 181 M_M_dueOf 1 7 := ⟨ml_M_181, im_M_dueOf, se_M_dueOf, ⟨in_M, co_M_dueOf, nm_M_dueOf.1, by decide, by decide, nm_M_dueOf.2⟩, ⟨xT_M, 45, rfl⟩, by decide⟩
theorem g_M_use_184 : x_gV M_M_use 184 M_M_firstOf 1 7 := ⟨ml_M_184, im_M_firstOf, se_M_firstOf, ⟨in_M, co_M_firstOf, nm_M_firstOf.1, by decide, by decide, nm_M_firstOf.2⟩, ⟨xT_M, 45, rfl⟩, by decide⟩
theorem g_M_use_193 : x_gV M_M_use 193 M_M_poll 0 7 := ⟨ml_M_193, im_M_poll, se_M_poll, ⟨in_M, co_M_poll, nm_M_poll.1, by decide, by decide, nm_M_poll.2⟩, ⟨xT_M, 45, rfl⟩, by decide⟩
theorem g_M_use_196 : x_gV M_M_use 196 M_M_toPass 0 7 := ⟨ml_M_196, im_M_toPass, se_M_toPass, ⟨in_M, co_M_toPass, nm_M_toPass.1, by decide, by decide, nm_M_toPass.2⟩, ⟨xT_M, 45, rfl⟩, by decide⟩
theorem g_M_use_199 : x_gV M_M_use 199 M_M_pass 0 7 := ⟨ml_M_199, im_M_pass, se_M_pass, ⟨in_M, co_M_pass, nm_M_pass.1, by decide, by decide, nm_M_pass.2⟩, ⟨xT_M, 45, rfl⟩, by decide⟩
theorem g_M_use_202 : x_gV M_M_use 202 M_M_tell 1 7 := ⟨ml_M_202, im_M_tell, se_M_tell, ⟨in_M, co_M_tell, nm_M_tell.1, by decide, by decide, nm_M_tell.2⟩, ⟨xT_M, 45, rfl⟩, by decide⟩
theorem g_M_use_205 : x_gV M_M_use 205 M_M_ask 1 7 := ⟨ml_M_205, im_M_ask, se_M_ask, ⟨in_M, co_M_ask, nm_M_ask.1, by decide, by decide, nm_M_ask.2⟩, ⟨xT_M, 45, rfl⟩, by decide⟩
theorem g_M_join_173 : x_gV M_M_join 173 M_M_carry 4 7 := ⟨ml_M_173, im_M_carry, se_M_carry, ⟨in_M, co_M_carry, nm_M_carry.1, by decide, by decide, nm_M_carry.2⟩, ⟨xT_M, 45, rfl⟩, by decide⟩
theorem g_M_poll_211 : x_gS M_M_poll 211 M_M_behind 1 := ⟨ml_M_211, st_M_behind, ⟨in_M, co_M_behind, nm_M_behind.1, by decide, by decide, nm_M_behind.2⟩⟩
theorem g_M_poll_196 : x_gV M_M_poll 196 M_M_toPass 0 7 := ⟨ml_M_196, im_M_toPass, se_M_toPass, ⟨in_M, co_M_toPass, nm_M_toPass.1, by decide, by decide, nm_M_toPass.2⟩, ⟨xT_M, 45, rfl⟩, by decide⟩
theorem g_M_poll_199 : x_gV M_M_poll 199 M_M_pass 0 7 := ⟨ml_M_199, im_M_pass, se_M_pass, ⟨in_M, co_M_pass, nm_M_pass.1, by decide, by decide, nm_M_pass.2⟩, ⟨xT_M, 45, rfl⟩, by decide⟩
theorem g_M_poll_214 : x_gV M_M_poll 214 M_M_join 1 7 := ⟨ml_M_214, im_M_join, se_M_join, ⟨in_M, co_M_join, nm_M_join.1, by decide, by decide, nm_M_join.2⟩, ⟨xT_M, 45, rfl⟩, by decide⟩
theorem g_M_poll_217 : x_gV M_M_poll 217 M_M_toUse 0 7 := ⟨ml_M_217, im_M_toUse, se_M_toUse, ⟨in_M, co_M_toUse, nm_M_toUse.1, by decide, by decide, nm_M_toUse.2⟩, ⟨xT_M, 45, rfl⟩, by decide⟩
theorem g_M_pass_173 : x_gV M_M_pass 173 M_M_carry 4 7 := ⟨ml_M_173, im_M_carry, se_M_carry, ⟨in_M, co_M_carry, nm_M_carry.1, by decide, by decide, nm_M_carry.2⟩, ⟨xT_M, 45, rfl⟩, by decide⟩
theorem g_M_pass_217 : x_gV M_M_pass 217 M_M_toUse 0 7 := ⟨ml_M_217, im_M_toUse, se_M_toUse, ⟨in_M, co_M_toUse, nm_M_toUse.1, by decide, by decide, nm_M_toUse.2⟩, ⟨xT_M, 45, rfl⟩, by decide⟩
theorem g_M_search_211 : x_gS M_M_search 211 M_M_behind 1 := ⟨ml_M_211, st_M_behind, ⟨in_M, co_M_behind, nm_M_behind.1, by decide, by decide, nm_M_behind.2⟩⟩
theorem g_M_search_217 : x_gV M_M_search 217 M_M_toUse 0 7 := ⟨ml_M_217, im_M_toUse, se_M_toUse, ⟨in_M, co_M_toUse, nm_M_toUse.1, by decide, by decide, nm_M_toUse.2⟩, ⟨xT_M, 45, rfl⟩, by decide⟩
theorem g_M_search_214 : x_gV M_M_search 214 M_M_join 1 7 := ⟨ml_M_214, im_M_join, se_M_join, ⟨in_M, co_M_join, nm_M_join.1, by decide, by decide, nm_M_join.2⟩, ⟨xT_M, 45, rfl⟩, by decide⟩
theorem g_M_search_196 : x_gV M_M_search 196 M_M_toPass 0 7 := ⟨ml_M_196, im_M_toPass, se_M_toPass, ⟨in_M, co_M_toPass, nm_M_toPass.1, by decide, by decide, nm_M_toPass.2⟩, ⟨xT_M, 45, rfl⟩, by decide⟩
theorem g_M_settle_220 : x_gS M_M_settle 220 M_M_held 2 := ⟨ml_M_220, st_M_held, ⟨in_M, co_M_held, nm_M_held.1, by decide, by decide, nm_M_held.2⟩⟩
theorem g_M_settle_223 : x_gS M_M_settle 223 M_M_quotient 2 := ⟨ml_M_223, st_M_quotient, ⟨in_M, co_M_quotient, nm_M_quotient.1, by decide, by decide, nm_M_quotient.2⟩⟩
theorem g_M_settle_162 : x_gV M_M_settle 162 M_M_value 2 7 := ⟨ml_M_162, im_M_value, se_M_value, ⟨in_M, co_M_value, nm_M_value.1, by decide, by decide, nm_M_value.2⟩, ⟨xT_M, 45, rfl⟩, by decide⟩
theorem g_M_step_233 : x_gV M_M_step 233 M_M_listen 0 7 := ⟨ml_M_233, im_M_listen, se_M_listen, ⟨in_M, co_M_listen, nm_M_listen.1, by decide, by decide, nm_M_listen.2⟩, ⟨xT_M, 45, rfl⟩, by decide⟩
theorem g_M_step_236 : x_gV M_M_step 236 M_M_use 0 7 := ⟨ml_M_236, im_M_use, se_M_use, ⟨in_M, co_M_use, nm_M_use.1, by decide, by decide, nm_M_use.2⟩, ⟨xT_M, 45, rfl⟩, by decide⟩
theorem g_M_step_193 : x_gV M_M_step 193 M_M_poll 0 7 := ⟨ml_M_193, im_M_poll, se_M_poll, ⟨in_M, co_M_poll, nm_M_poll.1, by decide, by decide, nm_M_poll.2⟩, ⟨xT_M, 45, rfl⟩, by decide⟩
theorem g_M_step_199 : x_gV M_M_step 199 M_M_pass 0 7 := ⟨ml_M_199, im_M_pass, se_M_pass, ⟨in_M, co_M_pass, nm_M_pass.1, by decide, by decide, nm_M_pass.2⟩, ⟨xT_M, 45, rfl⟩, by decide⟩
theorem g_M_step_239 : x_gV M_M_step 239 M_M_search 0 7 := ⟨ml_M_239, im_M_search, se_M_search, ⟨in_M, co_M_search, nm_M_search.1, by decide, by decide, nm_M_search.2⟩, ⟨xT_M, 45, rfl⟩, by decide⟩
theorem g_M_step_242 : x_gV M_M_step 242 M_M_settle 0 7 := ⟨ml_M_242, im_M_settle, se_M_settle, ⟨in_M, co_M_settle, nm_M_settle.1, by decide, by decide, nm_M_settle.2⟩, ⟨xT_M, 45, rfl⟩, by decide⟩
theorem g_M_node_111 : x_gS M_M_node 111 M_M_isNode 1 := ⟨ml_M_111, st_M_isNode, ⟨in_M, co_M_isNode, nm_M_isNode.1, by decide, by decide, nm_M_isNode.2⟩⟩
theorem g_M_node_128 : x_gV M_M_node 128 M_M_waiting 1 7 := ⟨ml_M_128, im_M_waiting, se_M_waiting, ⟨in_M, co_M_waiting, nm_M_waiting.1, by decide, by decide, nm_M_waiting.2⟩, ⟨xT_M, 45, rfl⟩, by decide⟩
theorem g_M_node_159 : x_gV M_M_node 159 M_M_subscriptionsOf 1 7 := ⟨ml_M_159, im_M_subscriptionsOf, se_M_subscriptionsOf, ⟨in_M, co_M_subscriptionsOf, nm_M_subscriptionsOf.1, by decide, by decide, nm_M_subscriptionsOf.2⟩, ⟨xT_M, 45, rfl⟩, by decide⟩
theorem g_M_level_248 : x_gV M_M_level 248 M_M_set 2 7 := ⟨ml_M_248, im_M_set, se_M_set, ⟨in_M, co_M_set, nm_M_set.1, by decide, by decide, nm_M_set.2⟩, ⟨xT_M, 45, rfl⟩, by decide⟩
theorem g_M_set_111 : x_gS M_M_set 111 M_M_isNode 1 := ⟨ml_M_111, st_M_isNode, ⟨in_M, co_M_isNode, nm_M_isNode.1, by decide, by decide, nm_M_isNode.2⟩⟩
theorem g_M_set_121 : x_gS M_M_set 121 M_M_outside 3 := ⟨ml_M_121, st_M_outside, ⟨in_M, co_M_outside, nm_M_outside.1, by decide, by decide, nm_M_outside.2⟩⟩
theorem g_M_noted_111 : x_gS M_M_noted 111 M_M_isNode 1 := ⟨ml_M_111, st_M_isNode, ⟨in_M, co_M_isNode, nm_M_isNode.1, by decide, by decide, nm_M_isNode.2⟩⟩
theorem g_M_noted_121 : x_gS M_M_noted 121 M_M_outside 3 := ⟨ml_M_121, st_M_outside, ⟨in_M, co_M_outside, nm_M_outside.1, by decide, by decide, nm_M_outside.2⟩⟩
theorem g_M_frame_121 : x_gS M_M_frame 121 M_M_outside 3 := ⟨ml_M_121, st_M_outside, ⟨in_M, co_M_outside, nm_M_outside.1, by decide, by decide, nm_M_outside.2⟩⟩
theorem g_F_init_5 : Cond.methodLink M_F_init.1.cls 5 Lib.objectInit ∈ xGW := ml_F_5
theorem g_F_writeHeader_25 : x_gV M_F_writeHeader 25 M_F_headerCheck 0 1 := ⟨ml_F_25, im_F_headerCheck, se_F_headerCheck, ⟨in_F, co_F_headerCheck, nm_F_headerCheck.1, by decide, by decide, nm_F_headerCheck.2⟩, ⟨xT_F, 4, rfl⟩, by decide⟩
theorem g_F_writeData_29 : x_gV M_F_writeData 29 M_F_dataCheck 0 1 := ⟨ml_F_29, im_F_dataCheck, se_F_dataCheck, ⟨in_F, co_F_dataCheck, nm_F_dataCheck.1, by decide, by decide, nm_F_dataCheck.2⟩, ⟨xT_F, 4, rfl⟩, by decide⟩
theorem g_F_isRight_25 : x_gV M_F_isRight 25 M_F_headerCheck 0 1 := ⟨ml_F_25, im_F_headerCheck, se_F_headerCheck, ⟨in_F, co_F_headerCheck, nm_F_headerCheck.1, by decide, by decide, nm_F_headerCheck.2⟩, ⟨xT_F, 4, rfl⟩, by decide⟩
theorem g_F_isRight_29 : x_gV M_F_isRight 29 M_F_dataCheck 0 1 := ⟨ml_F_29, im_F_dataCheck, se_F_dataCheck, ⟨in_F, co_F_dataCheck, nm_F_dataCheck.1, by decide, by decide, nm_F_dataCheck.2⟩, ⟨xT_F, 4, rfl⟩, by decide⟩
theorem g_F_headerCheck_32 : x_gV M_F_headerCheck 32 M_F_checkOf 4 1 := ⟨ml_F_32, im_F_checkOf, se_F_checkOf, ⟨in_F, co_F_checkOf, nm_F_checkOf.1, by decide, by decide, nm_F_checkOf.2⟩, ⟨xT_F, 4, rfl⟩, by decide⟩
theorem g_F_dataCheck_32 : x_gV M_F_dataCheck 32 M_F_checkOf 4 1 := ⟨ml_F_32, im_F_checkOf, se_F_checkOf, ⟨in_F, co_F_checkOf, nm_F_checkOf.1, by decide, by decide, nm_F_checkOf.2⟩, ⟨xT_F, 4, rfl⟩, by decide⟩
theorem g_L_init_3 : Cond.methodLink M_L_init.1.cls 3 Lib.objectInit ∈ xGW := ml_L_3
theorem g_L_aim_21 : x_gN M_L_aim 21 M_B_isWithin 3 "TokenBus" := ⟨by decide +kernel, st_B_isWithin, ⟨in_B, co_B_isWithin, nm_B_isWithin.1, by decide, by decide, nm_B_isWithin.2⟩⟩
theorem g_L_control_28 : x_gN M_L_control 28 M_B_held 2 "TokenBus" := ⟨by decide +kernel, st_B_held, ⟨in_B, co_B_held, nm_B_held.1, by decide, by decide, nm_B_held.2⟩⟩
theorem g_L_control_32 : x_gS M_L_control 32 M_J_floorDiv 2 := ⟨ml_L_32, st_J_floorDiv, ⟨in_J, co_J_floorDiv, nm_J_floorDiv.1, by decide, by decide, nm_J_floorDiv.2⟩⟩
theorem g_N_init_3 : Cond.methodLink M_N_init.1.cls 3 Lib.objectInit ∈ xGW := ml_N_3
theorem g_N_init_11 : x_gJ M_N_init 11 M_O_init 0 "TokenBus" := ⟨by decide +kernel, im_O_init, rfl, rfl, ⟨in_O, co_O_init, nm_O_init.1, by decide, by decide, nm_O_init.2⟩⟩
theorem g_N_init_20 : x_gJ M_N_init 20 M_L_init 0 "TokenBus" := ⟨by decide +kernel, im_L_init, rfl, rfl, ⟨in_L, co_L_init, nm_L_init.1, by decide, by decide, nm_L_init.2⟩⟩
theorem g_N_init_47 : x_gJ M_N_init 47 M_S_init 0 "TokenBus" := ⟨by decide +kernel, im_S_init, rfl, rfl, ⟨in_S, co_S_init, nm_S_init.1, by decide, by decide, nm_S_init.2⟩⟩
theorem g_N_getPower_52 : x_gV M_N_getPower 52 M_N_forgetOthers 0 6 := ⟨ml_N_52, im_N_forgetOthers, se_N_forgetOthers, ⟨in_N, co_N_forgetOthers, nm_N_forgetOthers.1, by decide, by decide, nm_N_forgetOthers.2⟩, ⟨xT_N, 17, rfl⟩, by decide⟩
theorem g_N_objectValue_73 : x_gV M_N_objectValue 73 M_O_current 0 4 := ⟨ml_N_73, im_O_current, se_O_current, ⟨in_O, co_O_current, nm_O_current.1, by decide, by decide, nm_O_current.2⟩, ⟨xT_O, 2, rfl⟩, by decide⟩
theorem g_N_carryOut_86 : x_gN M_N_carryOut 86 M_B_isWithin 3 "TokenBus" := ⟨by decide +kernel, st_B_isWithin, ⟨in_B, co_B_isWithin, nm_B_isWithin.1, by decide, by decide, nm_B_isWithin.2⟩⟩
theorem g_N_carryOut_90 : x_gV M_N_carryOut 90 M_N_objectValue 1 6 := ⟨ml_N_90, im_N_objectValue, se_N_objectValue, ⟨in_N, co_N_objectValue, nm_N_objectValue.1, by decide, by decide, nm_N_objectValue.2⟩, ⟨xT_N, 17, rfl⟩, by decide⟩
theorem g_N_carryOut_94 : x_gV M_N_carryOut 94 M_R_settle 2 2 := ⟨ml_N_94, im_R_settle, se_R_settle, ⟨in_R, co_R_settle, nm_R_settle.1, by decide, by decide, nm_R_settle.2⟩, ⟨xT_R, 11, rfl⟩, by decide⟩
theorem g_N_carryOut_98 : x_gV M_N_carryOut 98 M_N_write 1 6 := ⟨ml_N_98, im_N_write, se_N_write, ⟨in_N, co_N_write, nm_N_write.1, by decide, by decide, nm_N_write.2⟩, ⟨xT_N, 17, rfl⟩, by decide⟩
theorem g_N_carryOut_106 : x_gV M_N_carryOut 106 M_O_release 1 4 := ⟨ml_N_106, im_O_release, se_O_release, ⟨in_O, co_O_release, nm_O_release.1, by decide, by decide, nm_O_release.2⟩, ⟨xT_O, 2, rfl⟩, by decide⟩
theorem g_N_carryOut_110 : x_gV M_N_carryOut 110 M_N_subscribe 2 6 := ⟨ml_N_110, im_N_subscribe, se_N_subscribe, ⟨in_N, co_N_subscribe, nm_N_subscribe.1, by decide, by decide, nm_N_subscribe.2⟩, ⟨xT_N, 17, rfl⟩, by decide⟩
theorem g_N_write_114 : x_gV M_N_write 114 M_O_fill 2 4 := ⟨ml_N_114, im_O_fill, se_O_fill, ⟨in_O, co_O_fill, nm_O_fill.1, by decide, by decide, nm_O_fill.2⟩, ⟨xT_O, 2, rfl⟩, by decide⟩
theorem g_N_write_117 : x_gV M_N_write 117 M_L_aim 1 5 := ⟨ml_N_117, im_L_aim, se_L_aim, ⟨in_L, co_L_aim, nm_L_aim.1, by decide, by decide, nm_L_aim.2⟩, ⟨xT_L, 4, rfl⟩, by decide⟩
theorem g_N_subscribe_90 : x_gV M_N_subscribe 90 M_N_objectValue 1 6 := ⟨ml_N_90, im_N_objectValue, se_N_objectValue, ⟨in_N, co_N_objectValue, nm_N_objectValue.1, by decide, by decide, nm_N_objectValue.2⟩, ⟨xT_N, 17, rfl⟩, by decide⟩
theorem g_N_subscribe_124 : x_gV M_N_subscribe 124 M_S_renew 1 3 := ⟨ml_N_124, im_S_renew, se_S_renew, ⟨in_S, co_S_renew, nm_S_renew.1, by decide, by decide, nm_S_renew.2⟩, ⟨xT_S, 4, rfl⟩, by decide⟩
theorem g_N_subscribe_128 : x_gV M_N_subscribe 128 M_S_begin 3 3 := ⟨ml_N_128, im_S_begin, se_S_begin, ⟨in_S, co_S_begin, nm_S_begin.1, by decide, by decide, nm_S_begin.2⟩, ⟨xT_S, 4, rfl⟩, by decide⟩
theorem g_N_runLoop_147 : x_gV M_N_runLoop 147 M_L_isOff 0 5 := ⟨ml_N_147, im_L_isOff, se_L_isOff, ⟨in_L, co_L_isOff, nm_L_isOff.1, by decide, by decide, nm_L_isOff.2⟩, ⟨xT_L, 4, rfl⟩, by decide⟩
theorem g_N_runLoop_151 : x_gV M_N_runLoop 151 M_L_control 1 5 := ⟨ml_N_151, im_L_control, se_L_control, ⟨in_L, co_L_control, nm_L_control.1, by decide, by decide, nm_L_control.2⟩, ⟨xT_L, 4, rfl⟩, by decide⟩
theorem g_N_runLoop_114 : x_gV M_N_runLoop 114 M_O_fill 2 4 := ⟨ml_N_114, im_O_fill, se_O_fill, ⟨in_O, co_O_fill, nm_O_fill.1, by decide, by decide, nm_O_fill.2⟩, ⟨xT_O, 2, rfl⟩, by decide⟩
theorem g_N_findDue_90 : x_gV M_N_findDue 90 M_N_objectValue 1 6 := ⟨ml_N_90, im_N_objectValue, se_N_objectValue, ⟨in_N, co_N_objectValue, nm_N_objectValue.1, by decide, by decide, nm_N_objectValue.2⟩, ⟨xT_N, 17, rfl⟩, by decide⟩
theorem g_N_findDue_154 : x_gV M_N_findDue 154 M_S_compare 1 3 := ⟨ml_N_154, im_S_compare, se_S_compare, ⟨in_S, co_S_compare, nm_S_compare.1, by decide, by decide, nm_S_compare.2⟩, ⟨xT_S, 4, rfl⟩, by decide⟩
theorem g_O_init_3 : Cond.methodLink M_O_init.1.cls 3 Lib.objectInit ∈ xGW := ml_O_3
theorem g_O_isFilled_19 : x_gN M_O_isFilled 19 M_B_isWithin 3 "TokenBus" := ⟨by decide +kernel, st_B_isWithin, ⟨in_B, co_B_isWithin, nm_B_isWithin.1, by decide, by decide, nm_B_isWithin.2⟩⟩
theorem g_O_numberAt_23 : x_gV M_O_numberAt 23 M_O_isFilled 1 4 := ⟨ml_O_23, im_O_isFilled, se_O_isFilled, ⟨in_O, co_O_isFilled, nm_O_isFilled.1, by decide, by decide, nm_O_isFilled.2⟩, ⟨xT_O, 2, rfl⟩, by decide⟩
theorem g_O_fill_19 : x_gN M_O_fill 19 M_B_isWithin 3 "TokenBus" := ⟨by decide +kernel, st_B_isWithin, ⟨in_B, co_B_isWithin, nm_B_isWithin.1, by decide, by decide, nm_B_isWithin.2⟩⟩
theorem g_O_release_19 : x_gN M_O_release 19 M_B_isWithin 3 "TokenBus" := ⟨by decide +kernel, st_B_isWithin, ⟨in_B, co_B_isWithin, nm_B_isWithin.1, by decide, by decide, nm_B_isWithin.2⟩⟩
theorem g_R_init_3 : Cond.methodLink M_R_init.1.cls 3 Lib.objectInit ∈ xGW := ml_R_3
theorem g_S_init_3 : Cond.methodLink M_S_init.1.cls 3 Lib.objectInit ∈ xGW := ml_S_3
theorem g_S_begin_18 : x_gV M_S_begin 18 M_S_renew 1 3 := ⟨ml_S_18, im_S_renew, se_S_renew, ⟨in_S, co_S_renew, nm_S_renew.1, by decide, by decide, nm_S_renew.2⟩, ⟨xT_S, 4, rfl⟩, by decide⟩
theorem g_S_compare_29 : x_mth M_S_compare 29 Lib.MathLoose.abs_long.x Lib.MathLoose.abs_long.code 2 (some .long) := ⟨ml_S_29, st_labs, in_J, co_labs⟩
theorem g_W_law_9 : x_gI M_W_law 9 M_B_init 0 := ⟨ml_W_9, im_B_init, rfl, rfl, ⟨in_B, co_B_init, nm_B_init.1, by decide, by decide, nm_B_init.2⟩⟩
theorem g_W_law_12 : x_gI M_W_law 12 M_M_init 0 := ⟨ml_W_12, im_M_init, rfl, rfl, ⟨in_M, co_M_init, nm_M_init.1, by decide, by decide, nm_M_init.2⟩⟩
theorem g_W_law_13 : x_gV M_W_law 13 M_B_power 2 0 := ⟨ml_W_13, im_B_power, se_B_power, ⟨in_B, co_B_power, nm_B_power.1, by decide, by decide, nm_B_power.2⟩, ⟨xT_B, 13, rfl⟩, by decide⟩
theorem g_W_law_17 : x_gV M_W_law 17 M_M_power 2 7 := ⟨ml_W_17, im_M_power, se_M_power, ⟨in_M, co_M_power, nm_M_power.1, by decide, by decide, nm_M_power.2⟩, ⟨xT_M, 45, rfl⟩, by decide⟩
theorem g_W_law_18 : x_gV M_W_law 18 M_B_sense 2 0 := ⟨ml_W_18, im_B_sense, se_B_sense, ⟨in_B, co_B_sense, nm_B_sense.1, by decide, by decide, nm_B_sense.2⟩, ⟨xT_B, 13, rfl⟩, by decide⟩
theorem g_W_law_22 : x_gV M_W_law 22 M_M_sense 2 7 := ⟨ml_W_22, im_M_sense, se_M_sense, ⟨in_M, co_M_sense, nm_M_sense.1, by decide, by decide, nm_M_sense.2⟩, ⟨xT_M, 45, rfl⟩, by decide⟩
theorem g_W_law_23 : x_gV M_W_law 23 M_B_gains 3 0 := ⟨ml_W_23, im_B_gains, se_B_gains, ⟨in_B, co_B_gains, nm_B_gains.1, by decide, by decide, nm_B_gains.2⟩, ⟨xT_B, 13, rfl⟩, by decide⟩
theorem g_W_law_27 : x_gV M_W_law 27 M_M_gains 3 7 := ⟨ml_W_27, im_M_gains, se_M_gains, ⟨in_M, co_M_gains, nm_M_gains.1, by decide, by decide, nm_M_gains.2⟩, ⟨xT_M, 45, rfl⟩, by decide⟩
theorem g_W_law_28 : x_gV M_W_law 28 M_B_request 4 0 := ⟨ml_W_28, im_B_request, se_B_request, ⟨in_B, co_B_request, nm_B_request.1, by decide, by decide, nm_B_request.2⟩, ⟨xT_B, 13, rfl⟩, by decide⟩
theorem g_W_law_32 : x_gV M_W_law 32 M_M_request 4 7 := ⟨ml_W_32, im_M_request, se_M_request, ⟨in_M, co_M_request, nm_M_request.1, by decide, by decide, nm_M_request.2⟩, ⟨xT_M, 45, rfl⟩, by decide⟩
theorem g_W_law_33 : x_gV M_W_law 33 M_B_spoil 3 0 := ⟨ml_W_33, im_B_spoil, se_B_spoil, ⟨in_B, co_B_spoil, nm_B_spoil.1, by decide, by decide, nm_B_spoil.2⟩, ⟨xT_B, 13, rfl⟩, by decide⟩
theorem g_W_law_36 : x_gV M_W_law 36 M_M_spoil 3 7 := ⟨ml_W_36, im_M_spoil, se_M_spoil, ⟨in_M, co_M_spoil, nm_M_spoil.1, by decide, by decide, nm_M_spoil.2⟩, ⟨xT_M, 45, rfl⟩, by decide⟩
theorem g_W_law_37 : x_gV M_W_law 37 M_B_step 0 0 := ⟨ml_W_37, im_B_step, se_B_step, ⟨in_B, co_B_step, nm_B_step.1, by decide, by decide, nm_B_step.2⟩, ⟨xT_B, 13, rfl⟩, by decide⟩
theorem g_W_law_41 : x_gV M_W_law 41 M_M_step 0 7 := ⟨ml_W_41, im_M_step, se_M_step, ⟨in_M, co_M_step, nm_M_step.1, by decide, by decide, nm_M_step.2⟩, ⟨xT_M, 45, rfl⟩, by decide⟩
theorem g_W_law_42 : x_gV M_W_law 42 M_B_holder 0 0 := ⟨ml_W_42, im_B_holder, se_B_holder, ⟨in_B, co_B_holder, nm_B_holder.1, by decide, by decide, nm_B_holder.2⟩, ⟨xT_B, 13, rfl⟩, by decide⟩
theorem g_W_law_45 : x_gV M_W_law 45 M_M_holder 0 7 := ⟨ml_W_45, im_M_holder, se_M_holder, ⟨in_M, co_M_holder, nm_M_holder.1, by decide, by decide, nm_M_holder.2⟩, ⟨xT_M, 45, rfl⟩, by decide⟩
theorem g_W_law_46 : x_gV M_W_law 46 M_B_phase 0 0 := ⟨ml_W_46, im_B_phase, se_B_phase, ⟨in_B, co_B_phase, nm_B_phase.1, by decide, by decide, nm_B_phase.2⟩, ⟨xT_B, 13, rfl⟩, by decide⟩
theorem g_W_law_49 : x_gV M_W_law 49 M_M_phase 0 7 := ⟨ml_W_49, im_M_phase, se_M_phase, ⟨in_M, co_M_phase, nm_M_phase.1, by decide, by decide, nm_M_phase.2⟩, ⟨xT_M, 45, rfl⟩, by decide⟩
theorem g_W_law_50 : x_gV M_W_law 50 M_B_node 2 0 := ⟨ml_W_50, im_B_node, se_B_node, ⟨in_B, co_B_node, nm_B_node.1, by decide, by decide, nm_B_node.2⟩, ⟨xT_B, 13, rfl⟩, by decide⟩
theorem g_W_law_54 : x_gV M_W_law 54 M_M_node 2 7 := ⟨ml_W_54, im_M_node, se_M_node, ⟨in_M, co_M_node, nm_M_node.1, by decide, by decide, nm_M_node.2⟩, ⟨xT_M, 45, rfl⟩, by decide⟩
theorem g_W_law_55 : x_gV M_W_law 55 M_B_value 2 0 := ⟨ml_W_55, im_B_value, se_B_value, ⟨in_B, co_B_value, nm_B_value.1, by decide, by decide, nm_B_value.2⟩, ⟨xT_B, 13, rfl⟩, by decide⟩
theorem g_W_law_58 : x_gV M_W_law 58 M_M_value 2 7 := ⟨ml_W_58, im_M_value, se_M_value, ⟨in_M, co_M_value, nm_M_value.1, by decide, by decide, nm_M_value.2⟩, ⟨xT_M, 45, rfl⟩, by decide⟩
theorem g_W_law_59 : x_gV M_W_law 59 M_B_level 2 0 := ⟨ml_W_59, im_B_level, se_B_level, ⟨in_B, co_B_level, nm_B_level.1, by decide, by decide, nm_B_level.2⟩, ⟨xT_B, 13, rfl⟩, by decide⟩
theorem g_W_law_62 : x_gV M_W_law 62 M_M_level 2 7 := ⟨ml_W_62, im_M_level, se_M_level, ⟨in_M, co_M_level, nm_M_level.1, by decide, by decide, nm_M_level.2⟩, ⟨xT_M, 45, rfl⟩, by decide⟩
theorem g_W_law_63 : x_gV M_W_law 63 M_B_set 2 0 := ⟨ml_W_63, im_B_set, se_B_set, ⟨in_B, co_B_set, nm_B_set.1, by decide, by decide, nm_B_set.2⟩, ⟨xT_B, 13, rfl⟩, by decide⟩
theorem g_W_law_66 : x_gV M_W_law 66 M_M_set 2 7 := ⟨ml_W_66, im_M_set, se_M_set, ⟨in_M, co_M_set, nm_M_set.1, by decide, by decide, nm_M_set.2⟩, ⟨xT_M, 45, rfl⟩, by decide⟩
theorem g_W_law_67 : x_gV M_W_law 67 M_B_state 1 0 := ⟨ml_W_67, im_B_state, se_B_state, ⟨in_B, co_B_state, nm_B_state.1, by decide, by decide, nm_B_state.2⟩, ⟨xT_B, 13, rfl⟩, by decide⟩
theorem g_W_law_71 : x_gV M_W_law 71 M_M_state 1 7 := ⟨ml_W_71, im_M_state, se_M_state, ⟨in_M, co_M_state, nm_M_state.1, by decide, by decide, nm_M_state.2⟩, ⟨xT_M, 45, rfl⟩, by decide⟩
theorem g_W_law_72 : x_gV M_W_law 72 M_B_answer 1 0 := ⟨ml_W_72, im_B_answer, se_B_answer, ⟨in_B, co_B_answer, nm_B_answer.1, by decide, by decide, nm_B_answer.2⟩, ⟨xT_B, 13, rfl⟩, by decide⟩
theorem g_W_law_75 : x_gV M_W_law 75 M_M_answer 1 7 := ⟨ml_W_75, im_M_answer, se_M_answer, ⟨in_M, co_M_answer, nm_M_answer.1, by decide, by decide, nm_M_answer.2⟩, ⟨xT_M, 45, rfl⟩, by decide⟩
theorem g_W_law_76 : x_gV M_W_law 76 M_B_noted 2 0 := ⟨ml_W_76, im_B_noted, se_B_noted, ⟨in_B, co_B_noted, nm_B_noted.1, by decide, by decide, nm_B_noted.2⟩, ⟨xT_B, 13, rfl⟩, by decide⟩
theorem g_W_law_79 : x_gV M_W_law 79 M_M_noted 2 7 := ⟨ml_W_79, im_M_noted, se_M_noted, ⟨in_M, co_M_noted, nm_M_noted.1, by decide, by decide, nm_M_noted.2⟩, ⟨xT_M, 45, rfl⟩, by decide⟩
theorem g_W_law_80 : x_gV M_W_law 80 M_B_frame 2 0 := ⟨ml_W_80, im_B_frame, se_B_frame, ⟨in_B, co_B_frame, nm_B_frame.1, by decide, by decide, nm_B_frame.2⟩, ⟨xT_B, 13, rfl⟩, by decide⟩
theorem g_W_law_83 : x_gV M_W_law 83 M_M_frame 2 7 := ⟨ml_W_83, im_M_frame, se_M_frame, ⟨in_M, co_M_frame, nm_M_frame.1, by decide, by decide, nm_M_frame.2⟩, ⟨xT_M, 45, rfl⟩, by decide⟩
theorem g_W_law_84 : x_gV M_W_law 84 M_B_total 1 0 := ⟨ml_W_84, im_B_total, se_B_total, ⟨in_B, co_B_total, nm_B_total.1, by decide, by decide, nm_B_total.2⟩, ⟨xT_B, 13, rfl⟩, by decide⟩
theorem g_W_law_87 : x_gV M_W_law 87 M_M_total 1 7 := ⟨ml_W_87, im_M_total, se_M_total, ⟨in_M, co_M_total, nm_M_total.1, by decide, by decide, nm_M_total.2⟩, ⟨xT_M, 45, rfl⟩, by decide⟩
