theorem i_Pa : ∀ w ∈ w_Pa, w ∈ lw_g := fun w h => lg_mem ((by decide +kernel : ∀ w ∈ w_Pa, w ∈ lw_tbl) w h) ((by decide +kernel : ∀ w ∈ w_Pa, xm_ok w = true) w h)
theorem i_Bo : ∀ w ∈ w_Bo, w ∈ lw_g := fun w h => lg_mem ((by decide +kernel : ∀ w ∈ w_Bo, w ∈ lw_tbl) w h) ((by decide +kernel : ∀ w ∈ w_Bo, xm_ok w = true) w h)
theorem i_Sd : ∀ w ∈ w_Sd, w ∈ lw_g := fun w h => lg_mem ((by decide +kernel : ∀ w ∈ w_Sd, w ∈ lw_tbl) w h) ((by decide +kernel : ∀ w ∈ w_Sd, xm_ok w = true) w h)
theorem i_Fl : ∀ w ∈ w_Fl, w ∈ lw_g := fun w h => lg_mem ((by decide +kernel : ∀ w ∈ w_Fl, w ∈ lw_tbl) w h) ((by decide +kernel : ∀ w ∈ w_Fl, xm_ok w = true) w h)
theorem i_Mo : ∀ w ∈ w_Mo, w ∈ lw_g := fun w h => lg_mem ((by decide +kernel : ∀ w ∈ w_Mo, w ∈ lw_tbl) w h) ((by decide +kernel : ∀ w ∈ w_Mo, xm_ok w = true) w h)
theorem i_Hi : ∀ w ∈ w_Hi, w ∈ lw_g := fun w h => lg_mem ((by decide +kernel : ∀ w ∈ w_Hi, w ∈ lw_tbl) w h) ((by decide +kernel : ∀ w ∈ w_Hi, xm_ok w = true) w h)
theorem i_Rb : ∀ w ∈ w_Rb, w ∈ lw_g := fun w h => lg_mem ((by decide +kernel : ∀ w ∈ w_Rb, w ∈ lw_tbl) w h) ((by decide +kernel : ∀ w ∈ w_Rb, xm_ok w = true) w h)
theorem i_Md : ∀ w ∈ w_Md, w ∈ lw_g := fun w h => lg_mem ((by decide +kernel : ∀ w ∈ w_Md, w ∈ lw_tbl) w h) ((by decide +kernel : ∀ w ∈ w_Md, xm_ok w = true) w h)
theorem kc_Rb_init : Cond.code y_Rb_init b_Rb_init 1 none ∈ lw_g := lg_mem (List.mem_of_getElem? (i := 52) (by decide +kernel)) rfl
theorem kc_Bo_init : Cond.code y_Bo_init b_Bo_init 1 none ∈ lw_g := lg_mem (List.mem_of_getElem? (i := 60) (by decide +kernel)) rfl
theorem kc_Pa_init : Cond.code y_Pa_init b_Pa_init 2 none ∈ lw_g := lg_mem (List.mem_of_getElem? (i := 66) (by decide +kernel)) rfl
theorem kc_Sd_init : Cond.code y_Sd_init b_Sd_init 1 none ∈ lw_g := lg_mem (List.mem_of_getElem? (i := 130) (by decide +kernel)) rfl
theorem kc_Mo_init : Cond.code y_Mo_init b_Mo_init 2 none ∈ lw_g := lg_mem (List.mem_of_getElem? (i := 170) (by decide +kernel)) rfl
theorem kc_Fl_init : Cond.code y_Fl_init b_Fl_init 2 none ∈ lw_g := lg_mem (List.mem_of_getElem? (i := 176) (by decide +kernel)) rfl
theorem kc_Hi_init : Cond.code y_Hi_init b_Hi_init 1 none ∈ lw_g := lg_mem (List.mem_of_getElem? (i := 222) (by decide +kernel)) rfl
theorem kc_Rb_ups : Cond.code y_Rb_ups b_Rb_ups 1 (some .int) ∈ lw_g := lg_mem (List.mem_of_getElem? (i := 256) (by decide +kernel)) rfl
theorem kc_Rb_lit : Cond.code y_Rb_lit b_Rb_lit 1 (some .int) ∈ lw_g := lg_mem (List.mem_of_getElem? (i := 260) (by decide +kernel)) rfl
theorem kc_Mo_currents : Cond.code y_Mo_currents b_Mo_currents 3 (some .int) ∈ lw_g := lg_mem (List.mem_of_getElem? (i := 264) (by decide +kernel)) rfl
theorem kc_Fl_follow : Cond.code y_Fl_follow b_Fl_follow 3 none ∈ lw_g := lg_mem (List.mem_of_getElem? (i := 268) (by decide +kernel)) rfl
theorem kc_Fl_isMadeFor : Cond.code y_Fl_isMadeFor b_Fl_isMadeFor 2 (some .boolean) ∈ lw_g := lg_mem (List.mem_of_getElem? (i := 272) (by decide +kernel)) rfl
theorem kc_Bo_countConductors : Cond.code y_Bo_countConductors b_Bo_countConductors 1 (some .int) ∈ lw_g := lg_mem (List.mem_of_getElem? (i := 276) (by decide +kernel)) rfl
theorem kc_Fl_joinContacts : Cond.code y_Fl_joinContacts b_Fl_joinContacts 4 none ∈ lw_g := lg_mem (List.mem_of_getElem? (i := 280) (by decide +kernel)) rfl
theorem kc_Sd_relaysClosing : Cond.code y_Sd_relaysClosing b_Sd_relaysClosing 2 (some .int) ∈ lw_g := lg_mem (List.mem_of_getElem? (i := 284) (by decide +kernel)) rfl
theorem kc_Rb_hasBit : Cond.code y_Rb_hasBit b_Rb_hasBit 2 (some .boolean) ∈ lw_g := lg_mem (List.mem_of_getElem? (i := 287) (by decide +kernel)) rfl
theorem kc_Fl_join : Cond.code y_Fl_join b_Fl_join 3 none ∈ lw_g := lg_mem (List.mem_of_getElem? (i := 291) (by decide +kernel)) rfl
theorem kc_Fl_joinKnobs : Cond.code y_Fl_joinKnobs b_Fl_joinKnobs 4 none ∈ lw_g := lg_mem (List.mem_of_getElem? (i := 295) (by decide +kernel)) rfl
theorem kc_Fl_joinDiodes : Cond.code y_Fl_joinDiodes b_Fl_joinDiodes 3 none ∈ lw_g := lg_mem (List.mem_of_getElem? (i := 299) (by decide +kernel)) rfl
theorem kc_Fl_reach : Cond.code y_Fl_reach b_Fl_reach 10 (some .long) ∈ lw_g := lg_mem (List.mem_of_getElem? (i := 302) (by decide +kernel)) rfl
theorem kc_Lo_numberOfTrailingZeros : Cond.code y_Lo_numberOfTrailingZeros b_Lo_numberOfTrailingZeros 3 (some .int) ∈ lw_g := lg_mem (List.mem_of_getElem? (i := 305) (by decide +kernel)) rfl
theorem kc_In_numberOfTrailingZeros : Cond.code y_In_numberOfTrailingZeros b_In_numberOfTrailingZeros 2 (some .int) ∈ lw_g := lg_mem (List.mem_of_getElem? (i := 308) (by decide +kernel)) rfl
theorem kc_Fl_between : Cond.code y_Fl_between b_Fl_between 6 (some .int) ∈ lw_g := lg_mem (List.mem_of_getElem? (i := 314) (by decide +kernel)) rfl
theorem kc_Fl_isHot : Cond.code y_Fl_isHot b_Fl_isHot 2 (some .boolean) ∈ lw_g := lg_mem (List.mem_of_getElem? (i := 318) (by decide +kernel)) rfl
theorem kc_Fl_isCold : Cond.code y_Fl_isCold b_Fl_isCold 2 (some .boolean) ∈ lw_g := lg_mem (List.mem_of_getElem? (i := 322) (by decide +kernel)) rfl
theorem kc_Rb_blown : Cond.code y_Rb_blown b_Rb_blown 1 (some .boolean) ∈ lw_g := lg_mem (List.mem_of_getElem? (i := 326) (by decide +kernel)) rfl
theorem kc_Rb_fuse : Cond.code y_Rb_fuse b_Rb_fuse 1 (some .boolean) ∈ lw_g := lg_mem (List.mem_of_getElem? (i := 330) (by decide +kernel)) rfl
theorem kc_Mo_lookAtFuse : Cond.code y_Mo_lookAtFuse b_Mo_lookAtFuse 2 (some .boolean) ∈ lw_g := lg_mem (List.mem_of_getElem? (i := 334) (by decide +kernel)) rfl
theorem kc_Rb_count : Cond.code y_Rb_count b_Rb_count 2 (some .int) ∈ lw_g := lg_mem (List.mem_of_getElem? (i := 339) (by decide +kernel)) rfl
theorem kc_Mo_flowOf : Cond.code y_Mo_flowOf b_Mo_flowOf 2 (some (.object "RelayBench$Flow")) ∈ lw_g := lg_mem (List.mem_of_getElem? (i := 343) (by decide +kernel)) rfl
theorem kc_Lw_relay : Cond.codeWith y_Lw_relay b_Lw_relay 7 (some .int) [(0, 14, 17, 13), (0, 14, 21, 15)] ∈ lw_g := lg_mem (List.mem_of_getElem? (i := 346) (by decide +kernel)) rfl
theorem kc_Rb_relay : Cond.code y_Rb_relay b_Rb_relay 6 (some .int) ∈ lw_g := lg_mem (List.mem_of_getElem? (i := 352) (by decide +kernel)) rfl
theorem kc_Rb_needTwoNodes : Cond.code y_Rb_needTwoNodes b_Rb_needTwoNodes 2 none ∈ lw_g := lg_mem (List.mem_of_getElem? (i := 355) (by decide +kernel)) rfl
theorem kc_Rb_needNode : Cond.code y_Rb_needNode b_Rb_needNode 1 none ∈ lw_g := lg_mem (List.mem_of_getElem? (i := 358) (by decide +kernel)) rfl
theorem kc_Rb_needWithin : Cond.code y_Rb_needWithin b_Rb_needWithin 3 none ∈ lw_g := lg_mem (List.mem_of_getElem? (i := 361) (by decide +kernel)) rfl
theorem kc_Rb_needTime : Cond.code y_Rb_needTime b_Rb_needTime 1 none ∈ lw_g := lg_mem (List.mem_of_getElem? (i := 433) (by decide +kernel)) rfl
theorem kc_Rb_needRoom : Cond.code y_Rb_needRoom b_Rb_needRoom 1 none ∈ lw_g := lg_mem (List.mem_of_getElem? (i := 436) (by decide +kernel)) rfl
theorem kc_Pa_isFull : Cond.code y_Pa_isFull b_Pa_isFull 1 (some .boolean) ∈ lw_g := lg_mem (List.mem_of_getElem? (i := 440) (by decide +kernel)) rfl
theorem kc_Bo_addRelay : Cond.code y_Bo_addRelay b_Bo_addRelay 6 (some .int) ∈ lw_g := lg_mem (List.mem_of_getElem? (i := 460) (by decide +kernel)) rfl
theorem kc_Pa_add : Cond.code y_Pa_add b_Pa_add 3 (some .int) ∈ lw_g := lg_mem (List.mem_of_getElem? (i := 464) (by decide +kernel)) rfl
theorem kc_Lw_contact : Cond.codeWith y_Lw_contact b_Lw_contact 7 (some .int) [(0, 14, 17, 13), (0, 14, 21, 15)] ∈ lw_g := lg_mem (List.mem_of_getElem? (i := 467) (by decide +kernel)) rfl
theorem kc_Rb_contact : Cond.code y_Rb_contact b_Rb_contact 6 (some .int) ∈ lw_g := lg_mem (List.mem_of_getElem? (i := 471) (by decide +kernel)) rfl
theorem kc_Rb_needPart : Cond.code y_Rb_needPart b_Rb_needPart 2 none ∈ lw_g := lg_mem (List.mem_of_getElem? (i := 474) (by decide +kernel)) rfl
theorem kc_Bo_addContact : Cond.code y_Bo_addContact b_Bo_addContact 6 (some .int) ∈ lw_g := lg_mem (List.mem_of_getElem? (i := 478) (by decide +kernel)) rfl
theorem kc_Lw_knob : Cond.codeWith y_Lw_knob b_Lw_knob 5 (some .int) [(0, 10, 13, 13), (0, 10, 17, 15)] ∈ lw_g := lg_mem (List.mem_of_getElem? (i := 481) (by decide +kernel)) rfl
theorem kc_Rb_knob : Cond.code y_Rb_knob b_Rb_knob 3 (some .int) ∈ lw_g := lg_mem (List.mem_of_getElem? (i := 485) (by decide +kernel)) rfl
theorem kc_Rb_place : Cond.code y_Rb_place b_Rb_place 5 (some .int) ∈ lw_g := lg_mem (List.mem_of_getElem? (i := 489) (by decide +kernel)) rfl
theorem kc_Lw_diode : Cond.codeWith y_Lw_diode b_Lw_diode 5 (some .int) [(0, 10, 13, 13), (0, 10, 17, 15)] ∈ lw_g := lg_mem (List.mem_of_getElem? (i := 493) (by decide +kernel)) rfl
theorem kc_Rb_diode : Cond.code y_Rb_diode b_Rb_diode 3 (some .int) ∈ lw_g := lg_mem (List.mem_of_getElem? (i := 497) (by decide +kernel)) rfl
theorem kc_Lw_lamp : Cond.codeWith y_Lw_lamp b_Lw_lamp 5 (some .int) [(0, 10, 13, 13), (0, 10, 17, 15)] ∈ lw_g := lg_mem (List.mem_of_getElem? (i := 500) (by decide +kernel)) rfl
theorem kc_Rb_lamp : Cond.code y_Rb_lamp b_Rb_lamp 3 (some .int) ∈ lw_g := lg_mem (List.mem_of_getElem? (i := 504) (by decide +kernel)) rfl
theorem kc_Lw_turn : Cond.codeWith y_Lw_turn b_Lw_turn 5 (some .int) [(0, 17, 20, 13)] ∈ lw_g := lg_mem (List.mem_of_getElem? (i := 507) (by decide +kernel)) rfl
theorem kc_Rb_turn : Cond.code y_Rb_turn b_Rb_turn 4 (some .boolean) ∈ lw_g := lg_mem (List.mem_of_getElem? (i := 511) (by decide +kernel)) rfl
theorem kc_Sd_setKnob : Cond.code y_Sd_setKnob b_Sd_setKnob 4 (some .boolean) ∈ lw_g := lg_mem (List.mem_of_getElem? (i := 515) (by decide +kernel)) rfl
theorem kc_Sd_withBit : Cond.code y_Sd_withBit b_Sd_withBit 3 (some .int) ∈ lw_g := lg_mem (List.mem_of_getElem? (i := 519) (by decide +kernel)) rfl
theorem kc_Lw_dial : Cond.codeWith y_Lw_dial b_Lw_dial 5 (some .int) [(0, 7, 10, 13)] ∈ lw_g := lg_mem (List.mem_of_getElem? (i := 522) (by decide +kernel)) rfl
theorem kc_Rb_dial : Cond.code y_Rb_dial b_Rb_dial 5 none ∈ lw_g := lg_mem (List.mem_of_getElem? (i := 526) (by decide +kernel)) rfl
theorem kc_Lw_tick : Cond.codeWith y_Lw_tick b_Lw_tick 4 (some .int) [(0, 9, 12, 13)] ∈ lw_g := lg_mem (List.mem_of_getElem? (i := 530) (by decide +kernel)) rfl
theorem kc_Rb_tick : Cond.code y_Rb_tick b_Rb_tick 4 (some .int) ∈ lw_g := lg_mem (List.mem_of_getElem? (i := 534) (by decide +kernel)) rfl
theorem kc_Mo_step : Cond.code y_Mo_step b_Mo_step 8 (some .boolean) ∈ lw_g := lg_mem (List.mem_of_getElem? (i := 538) (by decide +kernel)) rfl
theorem kc_Sd_rise : Cond.code y_Sd_rise b_Sd_rise 4 (some .boolean) ∈ lw_g := lg_mem (List.mem_of_getElem? (i := 545) (by decide +kernel)) rfl
theorem kc_Sd_put : Cond.code y_Sd_put b_Sd_put 4 none ∈ lw_g := lg_mem (List.mem_of_getElem? (i := 549) (by decide +kernel)) rfl
theorem kc_Sd_fall : Cond.code y_Sd_fall b_Sd_fall 4 (some .boolean) ∈ lw_g := lg_mem (List.mem_of_getElem? (i := 553) (by decide +kernel)) rfl
theorem kc_Lw_settle : Cond.codeWith y_Lw_settle b_Lw_settle 4 (some .int) [(0, 9, 12, 13), (0, 9, 15, 45)] ∈ lw_g := lg_mem (List.mem_of_getElem? (i := 556) (by decide +kernel)) rfl
theorem kc_Rb_settle : Cond.code y_Rb_settle b_Rb_settle 3 (some .int) ∈ lw_g := lg_mem (List.mem_of_getElem? (i := 561) (by decide +kernel)) rfl
theorem kc_Sd_become : Cond.code y_Sd_become b_Sd_become 2 none ∈ lw_g := lg_mem (List.mem_of_getElem? (i := 565) (by decide +kernel)) rfl
theorem kc_Mo_runTillStill : Cond.code y_Mo_runTillStill b_Mo_runTillStill 5 (some .int) ∈ lw_g := lg_mem (List.mem_of_getElem? (i := 572) (by decide +kernel)) rfl
theorem kc_Lw_circle : Cond.codeWith y_Lw_circle b_Lw_circle 4 (some .int) [(0, 9, 12, 13), (0, 9, 15, 45)] ∈ lw_g := lg_mem (List.mem_of_getElem? (i := 592) (by decide +kernel)) rfl
theorem kc_Rb_circle : Cond.code y_Rb_circle b_Rb_circle 4 (some .int) ∈ lw_g := lg_mem (List.mem_of_getElem? (i := 596) (by decide +kernel)) rfl
theorem kc_Hi_begin : Cond.code y_Hi_begin b_Hi_begin 2 none ∈ lw_g := lg_mem (List.mem_of_getElem? (i := 600) (by decide +kernel)) rfl
theorem kc_Hi_findOrKeep : Cond.code y_Hi_findOrKeep b_Hi_findOrKeep 7 (some .int) ∈ lw_g := lg_mem (List.mem_of_getElem? (i := 604) (by decide +kernel)) rfl
theorem kc_Hi_pack : Cond.code y_Hi_pack b_Hi_pack 5 (some .long) ∈ lw_g := lg_mem (List.mem_of_getElem? (i := 607) (by decide +kernel)) rfl
theorem kc_Lw_race : Cond.codeWith y_Lw_race b_Lw_race 7 (some .int) [(0, 14, 17, 13)] ∈ lw_g := lg_mem (List.mem_of_getElem? (i := 612) (by decide +kernel)) rfl
theorem kc_Rb_race : Cond.code y_Rb_race b_Rb_race 7 (some .int) ∈ lw_g := lg_mem (List.mem_of_getElem? (i := 616) (by decide +kernel)) rfl
theorem kc_Ma_min : Cond.code y_Ma_min b_Ma_min 2 (some .int) ∈ lw_g := lg_mem (List.mem_of_getElem? (i := 619) (by decide +kernel)) rfl
theorem kc_Rb_outcome : Cond.code y_Rb_outcome b_Rb_outcome 5 (some .int) ∈ lw_g := lg_mem (List.mem_of_getElem? (i := 623) (by decide +kernel)) rfl
theorem kc_Lw_state : Cond.codeWith y_Lw_state b_Lw_state 5 (some .int) [(0, 10, 13, 13)] ∈ lw_g := lg_mem (List.mem_of_getElem? (i := 627) (by decide +kernel)) rfl
theorem kc_Rb_state : Cond.code y_Rb_state b_Rb_state 3 (some .int) ∈ lw_g := lg_mem (List.mem_of_getElem? (i := 631) (by decide +kernel)) rfl
theorem kc_Lw_node : Cond.codeWith y_Lw_node b_Lw_node 4 (some .int) [(0, 9, 12, 13)] ∈ lw_g := lg_mem (List.mem_of_getElem? (i := 635) (by decide +kernel)) rfl
theorem kc_Rb_node : Cond.code y_Rb_node b_Rb_node 3 (some .int) ∈ lw_g := lg_mem (List.mem_of_getElem? (i := 639) (by decide +kernel)) rfl
theorem kc_Lw_leads : Cond.codeWith y_Lw_leads b_Lw_leads 5 (some .int) [(0, 17, 20, 13)] ∈ lw_g := lg_mem (List.mem_of_getElem? (i := 644) (by decide +kernel)) rfl
theorem kc_Rb_leads : Cond.code y_Rb_leads b_Rb_leads 3 (some .boolean) ∈ lw_g := lg_mem (List.mem_of_getElem? (i := 648) (by decide +kernel)) rfl
theorem kc_Fl_reaches : Cond.code y_Fl_reaches b_Fl_reaches 3 (some .boolean) ∈ lw_g := lg_mem (List.mem_of_getElem? (i := 652) (by decide +kernel)) rfl
theorem kc_Md_init : Cond.code y_Md_init b_Md_init 1 none ∈ lw_g := lg_mem (List.mem_of_getElem? (i := 657) (by decide +kernel)) rfl
theorem kc_Md_thrown : Cond.code y_Md_thrown b_Md_thrown 1 (some .int) ∈ lw_g := lg_mem (List.mem_of_getElem? (i := 778) (by decide +kernel)) rfl
theorem kc_Md_relay : Cond.code y_Md_relay b_Md_relay 5 (some .int) ∈ lw_g := lg_mem (List.mem_of_getElem? (i := 782) (by decide +kernel)) rfl
theorem kc_Md_areNodes : Cond.code y_Md_areNodes b_Md_areNodes 2 (some .boolean) ∈ lw_g := lg_mem (List.mem_of_getElem? (i := 785) (by decide +kernel)) rfl
theorem kc_Md_isNode : Cond.code y_Md_isNode b_Md_isNode 1 (some .boolean) ∈ lw_g := lg_mem (List.mem_of_getElem? (i := 788) (by decide +kernel)) rfl
theorem kc_Md_in : Cond.code y_Md_in b_Md_in 3 (some .boolean) ∈ lw_g := lg_mem (List.mem_of_getElem? (i := 791) (by decide +kernel)) rfl
theorem kc_Md_lookAtFuse : Cond.code y_Md_lookAtFuse b_Md_lookAtFuse 1 none ∈ lw_g := lg_mem (List.mem_of_getElem? (i := 795) (by decide +kernel)) rfl
theorem kc_Md_lay : Cond.code y_Md_lay b_Md_lay 1 none ∈ lw_g := lg_mem (List.mem_of_getElem? (i := 799) (by decide +kernel)) rfl
theorem kc_Md_spread : Cond.code y_Md_spread b_Md_spread 6 none ∈ lw_g := lg_mem (List.mem_of_getElem? (i := 803) (by decide +kernel)) rfl
theorem kc_Md_conducts : Cond.code y_Md_conducts b_Md_conducts 4 (some .boolean) ∈ lw_g := lg_mem (List.mem_of_getElem? (i := 807) (by decide +kernel)) rfl
theorem kc_Md_reach : Cond.code y_Md_reach b_Md_reach 4 (some .boolean) ∈ lw_g := lg_mem (List.mem_of_getElem? (i := 810) (by decide +kernel)) rfl
theorem kc_Md_contact : Cond.code y_Md_contact b_Md_contact 6 (some .int) ∈ lw_g := lg_mem (List.mem_of_getElem? (i := 814) (by decide +kernel)) rfl
theorem kc_Md_knob : Cond.code y_Md_knob b_Md_knob 3 (some .int) ∈ lw_g := lg_mem (List.mem_of_getElem? (i := 818) (by decide +kernel)) rfl
theorem kc_Md_diode : Cond.code y_Md_diode b_Md_diode 3 (some .int) ∈ lw_g := lg_mem (List.mem_of_getElem? (i := 822) (by decide +kernel)) rfl
theorem kc_Md_lamp : Cond.code y_Md_lamp b_Md_lamp 3 (some .int) ∈ lw_g := lg_mem (List.mem_of_getElem? (i := 826) (by decide +kernel)) rfl
theorem kc_Md_turn : Cond.code y_Md_turn b_Md_turn 4 (some .boolean) ∈ lw_g := lg_mem (List.mem_of_getElem? (i := 830) (by decide +kernel)) rfl
theorem kc_Md_dial : Cond.code y_Md_dial b_Md_dial 5 none ∈ lw_g := lg_mem (List.mem_of_getElem? (i := 834) (by decide +kernel)) rfl
theorem kc_Md_tick : Cond.code y_Md_tick b_Md_tick 4 (some .int) ∈ lw_g := lg_mem (List.mem_of_getElem? (i := 838) (by decide +kernel)) rfl
theorem kc_Md_tickOne : Cond.code y_Md_tickOne b_Md_tickOne 4 (some .boolean) ∈ lw_g := lg_mem (List.mem_of_getElem? (i := 842) (by decide +kernel)) rfl
theorem kc_Md_hasCurrent : Cond.code y_Md_hasCurrent b_Md_hasCurrent 3 (some .boolean) ∈ lw_g := lg_mem (List.mem_of_getElem? (i := 846) (by decide +kernel)) rfl
theorem kc_Md_move : Cond.code y_Md_move b_Md_move 5 (some .boolean) ∈ lw_g := lg_mem (List.mem_of_getElem? (i := 850) (by decide +kernel)) rfl
theorem kc_Md_rise : Cond.code y_Md_rise b_Md_rise 3 none ∈ lw_g := lg_mem (List.mem_of_getElem? (i := 854) (by decide +kernel)) rfl
theorem kc_Md_more : Cond.code y_Md_more b_Md_more 2 (some .int) ∈ lw_g := lg_mem (List.mem_of_getElem? (i := 858) (by decide +kernel)) rfl
theorem kc_Md_hold : Cond.code y_Md_hold b_Md_hold 3 none ∈ lw_g := lg_mem (List.mem_of_getElem? (i := 862) (by decide +kernel)) rfl
theorem kc_Md_fall : Cond.code y_Md_fall b_Md_fall 3 none ∈ lw_g := lg_mem (List.mem_of_getElem? (i := 866) (by decide +kernel)) rfl
theorem kc_Md_settle : Cond.code y_Md_settle b_Md_settle 3 (some .int) ∈ lw_g := lg_mem (List.mem_of_getElem? (i := 870) (by decide +kernel)) rfl
theorem kc_Md_keep : Cond.code y_Md_keep b_Md_keep 2 none ∈ lw_g := lg_mem (List.mem_of_getElem? (i := 874) (by decide +kernel)) rfl
theorem kc_Md_run : Cond.code y_Md_run b_Md_run 4 (some .int) ∈ lw_g := lg_mem (List.mem_of_getElem? (i := 878) (by decide +kernel)) rfl
theorem kc_Md_layBack : Cond.code y_Md_layBack b_Md_layBack 2 none ∈ lw_g := lg_mem (List.mem_of_getElem? (i := 882) (by decide +kernel)) rfl
theorem kc_Md_circle : Cond.code y_Md_circle b_Md_circle 4 (some .int) ∈ lw_g := lg_mem (List.mem_of_getElem? (i := 886) (by decide +kernel)) rfl
theorem kc_Md_note : Cond.code y_Md_note b_Md_note 3 none ∈ lw_g := lg_mem (List.mem_of_getElem? (i := 890) (by decide +kernel)) rfl
theorem kc_Md_before : Cond.code y_Md_before b_Md_before 3 (some .int) ∈ lw_g := lg_mem (List.mem_of_getElem? (i := 894) (by decide +kernel)) rfl
theorem kc_Md_isAlike : Cond.code y_Md_isAlike b_Md_isAlike 5 (some .boolean) ∈ lw_g := lg_mem (List.mem_of_getElem? (i := 898) (by decide +kernel)) rfl
theorem kc_Md_race : Cond.code y_Md_race b_Md_race 8 (some .int) ∈ lw_g := lg_mem (List.mem_of_getElem? (i := 902) (by decide +kernel)) rfl
theorem kc_Md_outcome : Cond.code y_Md_outcome b_Md_outcome 9 (some .int) ∈ lw_g := lg_mem (List.mem_of_getElem? (i := 906) (by decide +kernel)) rfl
theorem kc_Md_wouldChange : Cond.code y_Md_wouldChange b_Md_wouldChange 4 (some .boolean) ∈ lw_g := lg_mem (List.mem_of_getElem? (i := 910) (by decide +kernel)) rfl
theorem kc_Md_upSet : Cond.code y_Md_upSet b_Md_upSet 3 (some .int) ∈ lw_g := lg_mem (List.mem_of_getElem? (i := 914) (by decide +kernel)) rfl
theorem kc_Md_state : Cond.code y_Md_state b_Md_state 3 (some .int) ∈ lw_g := lg_mem (List.mem_of_getElem? (i := 919) (by decide +kernel)) rfl
theorem kc_Md_ups : Cond.code y_Md_ups b_Md_ups 1 (some .int) ∈ lw_g := lg_mem (List.mem_of_getElem? (i := 923) (by decide +kernel)) rfl
theorem kc_Md_lit : Cond.code y_Md_lit b_Md_lit 3 (some .int) ∈ lw_g := lg_mem (List.mem_of_getElem? (i := 927) (by decide +kernel)) rfl
theorem kc_Md_node : Cond.code y_Md_node b_Md_node 2 (some .int) ∈ lw_g := lg_mem (List.mem_of_getElem? (i := 931) (by decide +kernel)) rfl
theorem kc_Md_leads : Cond.code y_Md_leads b_Md_leads 3 (some .boolean) ∈ lw_g := lg_mem (List.mem_of_getElem? (i := 935) (by decide +kernel)) rfl
theorem kc_Md_blown : Cond.code y_Md_blown b_Md_blown 1 (some .boolean) ∈ lw_g := lg_mem (List.mem_of_getElem? (i := 939) (by decide +kernel)) rfl
theorem kc_Md_fuse : Cond.code y_Md_fuse b_Md_fuse 1 (some .boolean) ∈ lw_g := lg_mem (List.mem_of_getElem? (i := 943) (by decide +kernel)) rfl
theorem kc_Md_count : Cond.code y_Md_count b_Md_count 4 (some .int) ∈ lw_g := lg_mem (List.mem_of_getElem? (i := 947) (by decide +kernel)) rfl
theorem kc_obj : Cond.code Lib.objectInit ⟨#[0xb1]⟩ 1 none ∈ lw_g := lg_mem (List.mem_of_getElem? (i := 55) (by decide +kernel)) rfl
theorem ka_int : Cond.arrayClass .int ∈ lw_g := lg_mem (List.mem_of_getElem? (i := 84) (by decide +kernel)) rfl
theorem ka_long : Cond.arrayClass .long ∈ lw_g := lg_mem (List.mem_of_getElem? (i := 210) (by decide +kernel)) rfl
theorem ka_byte : Cond.arrayClass .byte ∈ lw_g := lg_mem (List.mem_of_getElem? (i := 429) (by decide +kernel)) rfl
theorem ka_boolean : Cond.arrayClass .boolean ∈ lw_g := lg_mem (List.mem_of_getElem? (i := 774) (by decide +kernel)) rfl
theorem k_0 : Cond.initialized R_Lw ∈ lw_g := lg_mem (List.mem_of_getElem? (i := 29) (by decide +kernel)) rfl
theorem k_1 : Cond.initialized R_Rb ∈ lw_g := lg_mem (List.mem_of_getElem? (i := 30) (by decide +kernel)) rfl
theorem k_2 : Cond.initialized R_Bo ∈ lw_g := lg_mem (List.mem_of_getElem? (i := 31) (by decide +kernel)) rfl
theorem k_3 : Cond.initialized R_Pa ∈ lw_g := lg_mem (List.mem_of_getElem? (i := 32) (by decide +kernel)) rfl
theorem k_4 : Cond.initialized R_Sd ∈ lw_g := lg_mem (List.mem_of_getElem? (i := 33) (by decide +kernel)) rfl
theorem k_5 : Cond.initialized R_Mo ∈ lw_g := lg_mem (List.mem_of_getElem? (i := 34) (by decide +kernel)) rfl
theorem k_6 : Cond.initialized R_Fl ∈ lw_g := lg_mem (List.mem_of_getElem? (i := 35) (by decide +kernel)) rfl
theorem k_7 : Cond.initialized R_Hi ∈ lw_g := lg_mem (List.mem_of_getElem? (i := 36) (by decide +kernel)) rfl
theorem k_8 : Cond.initialized R_Md ∈ lw_g := lg_mem (List.mem_of_getElem? (i := 37) (by decide +kernel)) rfl
theorem k_9 : Cond.initialized "java/lang/Throwable" ∈ lw_g := lg_mem (List.mem_of_getElem? (i := 38) (by decide +kernel)) rfl
theorem k_10 : Cond.initialized "java/lang/Exception" ∈ lw_g := lg_mem (List.mem_of_getElem? (i := 39) (by decide +kernel)) rfl
theorem k_11 : Cond.initialized "java/lang/RuntimeException" ∈ lw_g := lg_mem (List.mem_of_getElem? (i := 40) (by decide +kernel)) rfl
theorem k_12 : Cond.initialized "java/lang/IllegalArgumentException" ∈ lw_g := lg_mem (List.mem_of_getElem? (i := 41) (by decide +kernel)) rfl
theorem k_13 : Cond.initialized "java/lang/IllegalStateException" ∈ lw_g := lg_mem (List.mem_of_getElem? (i := 42) (by decide +kernel)) rfl
theorem k_14 : Cond.initialized R_Lo ∈ lw_g := lg_mem (List.mem_of_getElem? (i := 43) (by decide +kernel)) rfl
theorem k_15 : Cond.initialized R_In ∈ lw_g := lg_mem (List.mem_of_getElem? (i := 44) (by decide +kernel)) rfl
theorem k_16 : Cond.initialized "java/lang/System" ∈ lw_g := lg_mem (List.mem_of_getElem? (i := 45) (by decide +kernel)) rfl
theorem k_17 : Cond.initialized "java/lang/UnsupportedOperationException" ∈ lw_g := lg_mem (List.mem_of_getElem? (i := 46) (by decide +kernel)) rfl
theorem k_18 : Cond.initialized R_Ma ∈ lw_g := lg_mem (List.mem_of_getElem? (i := 47) (by decide +kernel)) rfl
theorem k_19 : Cond.classLink R_Lw 8 R_Rb ∈ lw_g := lg_mem (List.mem_of_getElem? (i := 48) (by decide +kernel)) rfl
theorem k_20 : Cond.instantiable R_Rb 6 ∈ lw_g := lg_mem (List.mem_of_getElem? (i := 49) (by decide +kernel)) rfl
theorem k_21 : Cond.methodLink R_Lw 64 y_Rb_init ∈ lw_g := lg_mem (List.mem_of_getElem? (i := 50) (by decide +kernel)) rfl
theorem k_22 : Cond.instanceMethod y_Rb_init ∈ lw_g := lg_mem (List.mem_of_getElem? (i := 51) (by decide +kernel)) rfl
theorem k_24 : Cond.methodLink R_Rb 1 Lib.objectInit ∈ lw_g := lg_mem (List.mem_of_getElem? (i := 53) (by decide +kernel)) rfl
theorem k_25 : Cond.instanceMethod Lib.objectInit ∈ lw_g := lg_mem (List.mem_of_getElem? (i := 54) (by decide +kernel)) rfl
theorem k_27 : Cond.classLink R_Rb 7 R_Bo ∈ lw_g := lg_mem (List.mem_of_getElem? (i := 56) (by decide +kernel)) rfl
theorem k_28 : Cond.instantiable R_Bo 9 ∈ lw_g := lg_mem (List.mem_of_getElem? (i := 57) (by decide +kernel)) rfl
theorem k_29 : Cond.methodLinkNest R_Rb 9 y_Bo_init "RelayBench" ∈ lw_g := lg_mem (List.mem_of_getElem? (i := 58) (by decide +kernel)) rfl
theorem k_30 : Cond.instanceMethod y_Bo_init ∈ lw_g := lg_mem (List.mem_of_getElem? (i := 59) (by decide +kernel)) rfl
theorem k_32 : Cond.methodLink R_Bo 3 Lib.objectInit ∈ lw_g := lg_mem (List.mem_of_getElem? (i := 61) (by decide +kernel)) rfl
theorem k_33 : Cond.classLink R_Bo 9 R_Pa ∈ lw_g := lg_mem (List.mem_of_getElem? (i := 62) (by decide +kernel)) rfl
theorem k_34 : Cond.instantiable R_Pa 3 ∈ lw_g := lg_mem (List.mem_of_getElem? (i := 63) (by decide +kernel)) rfl
theorem k_35 : Cond.methodLink R_Bo 11 y_Pa_init ∈ lw_g := lg_mem (List.mem_of_getElem? (i := 64) (by decide +kernel)) rfl
theorem k_36 : Cond.instanceMethod y_Pa_init ∈ lw_g := lg_mem (List.mem_of_getElem? (i := 65) (by decide +kernel)) rfl
theorem k_38 : Cond.methodLink R_Pa 1 Lib.objectInit ∈ lw_g := lg_mem (List.mem_of_getElem? (i := 67) (by decide +kernel)) rfl
theorem k_39 : Cond.fieldLink R_Pa 7 "RelayBench$Pairs" "first" "[I" ∈ lw_g := lg_mem (List.mem_of_getElem? (i := 68) (by decide +kernel)) rfl
theorem k_40 : Cond.fieldLinkNest R_Fl 85 "RelayBench$Pairs" "first" "[I" "RelayBench" ∈ lw_g := lg_mem (List.mem_of_getElem? (i := 69) (by decide +kernel)) rfl
theorem k_41 : Cond.fieldLink R_Pa 13 "RelayBench$Pairs" "second" "[I" ∈ lw_g := lg_mem (List.mem_of_getElem? (i := 70) (by decide +kernel)) rfl
theorem k_42 : Cond.fieldLinkNest R_Fl 89 "RelayBench$Pairs" "second" "[I" "RelayBench" ∈ lw_g := lg_mem (List.mem_of_getElem? (i := 71) (by decide +kernel)) rfl
theorem k_43 : Cond.fieldLink R_Pa 16 "RelayBench$Pairs" "size" "I" ∈ lw_g := lg_mem (List.mem_of_getElem? (i := 72) (by decide +kernel)) rfl
theorem k_44 : Cond.fieldLinkNest R_Bo 49 "RelayBench$Pairs" "size" "I" "RelayBench" ∈ lw_g := lg_mem (List.mem_of_getElem? (i := 73) (by decide +kernel)) rfl
theorem k_45 : Cond.fieldLinkNest R_Mo 56 "RelayBench$Pairs" "size" "I" "RelayBench" ∈ lw_g := lg_mem (List.mem_of_getElem? (i := 74) (by decide +kernel)) rfl
theorem k_46 : Cond.fieldLinkNest R_Fl 80 "RelayBench$Pairs" "size" "I" "RelayBench" ∈ lw_g := lg_mem (List.mem_of_getElem? (i := 75) (by decide +kernel)) rfl
theorem k_47 : Cond.fieldLinkNest R_Rb 101 "RelayBench$Pairs" "size" "I" "RelayBench" ∈ lw_g := lg_mem (List.mem_of_getElem? (i := 76) (by decide +kernel)) rfl
theorem k_54 : Cond.superclass R_Pa "java/lang/Object" ∈ lw_g := lg_mem (List.mem_of_getElem? (i := 83) (by decide +kernel)) rfl
theorem k_56 : Cond.fieldLink R_Bo 14 "RelayBench$Board" "coils" "LRelayBench$Pairs;" ∈ lw_g := lg_mem (List.mem_of_getElem? (i := 85) (by decide +kernel)) rfl
theorem k_57 : Cond.fieldLinkNest R_Rb 54 "RelayBench$Board" "coils" "LRelayBench$Pairs;" "RelayBench" ∈ lw_g := lg_mem (List.mem_of_getElem? (i := 86) (by decide +kernel)) rfl
theorem k_58 : Cond.fieldLinkNest R_Mo 46 "RelayBench$Board" "coils" "LRelayBench$Pairs;" "RelayBench" ∈ lw_g := lg_mem (List.mem_of_getElem? (i := 87) (by decide +kernel)) rfl
theorem k_59 : Cond.fieldLink R_Bo 20 "RelayBench$Board" "contacts" "LRelayBench$Pairs;" ∈ lw_g := lg_mem (List.mem_of_getElem? (i := 88) (by decide +kernel)) rfl
theorem k_60 : Cond.fieldLinkNest R_Rb 78 "RelayBench$Board" "contacts" "LRelayBench$Pairs;" "RelayBench" ∈ lw_g := lg_mem (List.mem_of_getElem? (i := 89) (by decide +kernel)) rfl
theorem k_61 : Cond.fieldLinkNest R_Fl 99 "RelayBench$Board" "contacts" "LRelayBench$Pairs;" "RelayBench" ∈ lw_g := lg_mem (List.mem_of_getElem? (i := 90) (by decide +kernel)) rfl
theorem k_62 : Cond.fieldLink R_Bo 23 "RelayBench$Board" "knobs" "LRelayBench$Pairs;" ∈ lw_g := lg_mem (List.mem_of_getElem? (i := 91) (by decide +kernel)) rfl
theorem k_63 : Cond.fieldLinkNest R_Rb 84 "RelayBench$Board" "knobs" "LRelayBench$Pairs;" "RelayBench" ∈ lw_g := lg_mem (List.mem_of_getElem? (i := 92) (by decide +kernel)) rfl
theorem k_64 : Cond.fieldLinkNest R_Fl 121 "RelayBench$Board" "knobs" "LRelayBench$Pairs;" "RelayBench" ∈ lw_g := lg_mem (List.mem_of_getElem? (i := 93) (by decide +kernel)) rfl
theorem k_65 : Cond.fieldLink R_Bo 26 "RelayBench$Board" "diodes" "LRelayBench$Pairs;" ∈ lw_g := lg_mem (List.mem_of_getElem? (i := 94) (by decide +kernel)) rfl
theorem k_66 : Cond.fieldLinkNest R_Rb 91 "RelayBench$Board" "diodes" "LRelayBench$Pairs;" "RelayBench" ∈ lw_g := lg_mem (List.mem_of_getElem? (i := 95) (by decide +kernel)) rfl
theorem k_67 : Cond.fieldLinkNest R_Fl 124 "RelayBench$Board" "diodes" "LRelayBench$Pairs;" "RelayBench" ∈ lw_g := lg_mem (List.mem_of_getElem? (i := 96) (by decide +kernel)) rfl
theorem k_68 : Cond.fieldLink R_Bo 29 "RelayBench$Board" "lamps" "LRelayBench$Pairs;" ∈ lw_g := lg_mem (List.mem_of_getElem? (i := 97) (by decide +kernel)) rfl
theorem k_69 : Cond.fieldLinkNest R_Rb 94 "RelayBench$Board" "lamps" "LRelayBench$Pairs;" "RelayBench" ∈ lw_g := lg_mem (List.mem_of_getElem? (i := 98) (by decide +kernel)) rfl
theorem k_70 : Cond.fieldLink R_Bo 32 "RelayBench$Board" "pulls" "[I" ∈ lw_g := lg_mem (List.mem_of_getElem? (i := 99) (by decide +kernel)) rfl
theorem k_71 : Cond.fieldLinkNest R_Mo 66 "RelayBench$Board" "pulls" "[I" "RelayBench" ∈ lw_g := lg_mem (List.mem_of_getElem? (i := 100) (by decide +kernel)) rfl
theorem k_72 : Cond.fieldLink R_Bo 36 "RelayBench$Board" "drops" "[I" ∈ lw_g := lg_mem (List.mem_of_getElem? (i := 101) (by decide +kernel)) rfl
theorem k_73 : Cond.fieldLinkNest R_Mo 73 "RelayBench$Board" "drops" "[I" "RelayBench" ∈ lw_g := lg_mem (List.mem_of_getElem? (i := 102) (by decide +kernel)) rfl
theorem k_74 : Cond.fieldLink R_Bo 39 "RelayBench$Board" "kinds" "[I" ∈ lw_g := lg_mem (List.mem_of_getElem? (i := 103) (by decide +kernel)) rfl
theorem k_75 : Cond.fieldLinkNest R_Fl 103 "RelayBench$Board" "kinds" "[I" "RelayBench" ∈ lw_g := lg_mem (List.mem_of_getElem? (i := 104) (by decide +kernel)) rfl
theorem k_76 : Cond.fieldLink R_Bo 42 "RelayBench$Board" "owners" "[I" ∈ lw_g := lg_mem (List.mem_of_getElem? (i := 105) (by decide +kernel)) rfl
theorem k_77 : Cond.fieldLinkNest R_Fl 110 "RelayBench$Board" "owners" "[I" "RelayBench" ∈ lw_g := lg_mem (List.mem_of_getElem? (i := 106) (by decide +kernel)) rfl
theorem k_96 : Cond.superclass R_Bo "java/lang/Object" ∈ lw_g := lg_mem (List.mem_of_getElem? (i := 125) (by decide +kernel)) rfl
theorem k_97 : Cond.classLink R_Rb 16 R_Sd ∈ lw_g := lg_mem (List.mem_of_getElem? (i := 126) (by decide +kernel)) rfl
theorem k_98 : Cond.instantiable R_Sd 7 ∈ lw_g := lg_mem (List.mem_of_getElem? (i := 127) (by decide +kernel)) rfl
theorem k_99 : Cond.methodLinkNest R_Rb 18 y_Sd_init "RelayBench" ∈ lw_g := lg_mem (List.mem_of_getElem? (i := 128) (by decide +kernel)) rfl
theorem k_100 : Cond.instanceMethod y_Sd_init ∈ lw_g := lg_mem (List.mem_of_getElem? (i := 129) (by decide +kernel)) rfl
theorem k_102 : Cond.methodLink R_Sd 3 Lib.objectInit ∈ lw_g := lg_mem (List.mem_of_getElem? (i := 131) (by decide +kernel)) rfl
theorem k_103 : Cond.fieldLink R_Sd 9 "RelayBench$Stand" "states" "[I" ∈ lw_g := lg_mem (List.mem_of_getElem? (i := 132) (by decide +kernel)) rfl
theorem k_104 : Cond.fieldLinkNest R_Hi 36 "RelayBench$Stand" "states" "[I" "RelayBench" ∈ lw_g := lg_mem (List.mem_of_getElem? (i := 133) (by decide +kernel)) rfl
theorem k_105 : Cond.fieldLinkNest R_Rb 148 "RelayBench$Stand" "states" "[I" "RelayBench" ∈ lw_g := lg_mem (List.mem_of_getElem? (i := 134) (by decide +kernel)) rfl
theorem k_106 : Cond.fieldLink R_Sd 15 "RelayBench$Stand" "counts" "[I" ∈ lw_g := lg_mem (List.mem_of_getElem? (i := 135) (by decide +kernel)) rfl
theorem k_107 : Cond.fieldLinkNest R_Hi 40 "RelayBench$Stand" "counts" "[I" "RelayBench" ∈ lw_g := lg_mem (List.mem_of_getElem? (i := 136) (by decide +kernel)) rfl
theorem k_108 : Cond.fieldLinkNest R_Rb 152 "RelayBench$Stand" "counts" "[I" "RelayBench" ∈ lw_g := lg_mem (List.mem_of_getElem? (i := 137) (by decide +kernel)) rfl
theorem k_109 : Cond.fieldLink R_Sd 18 "RelayBench$Stand" "worn" "[I" ∈ lw_g := lg_mem (List.mem_of_getElem? (i := 138) (by decide +kernel)) rfl
theorem k_110 : Cond.fieldLinkNest R_Rb 159 "RelayBench$Stand" "worn" "[I" "RelayBench" ∈ lw_g := lg_mem (List.mem_of_getElem? (i := 139) (by decide +kernel)) rfl
theorem k_111 : Cond.fieldLink R_Sd 21 "RelayBench$Stand" "ups" "I" ∈ lw_g := lg_mem (List.mem_of_getElem? (i := 140) (by decide +kernel)) rfl
theorem k_112 : Cond.fieldLinkNest R_Fl 55 "RelayBench$Stand" "ups" "I" "RelayBench" ∈ lw_g := lg_mem (List.mem_of_getElem? (i := 141) (by decide +kernel)) rfl
theorem k_113 : Cond.fieldLinkNest R_Rb 167 "RelayBench$Stand" "ups" "I" "RelayBench" ∈ lw_g := lg_mem (List.mem_of_getElem? (i := 142) (by decide +kernel)) rfl
theorem k_114 : Cond.fieldLink R_Sd 25 "RelayBench$Stand" "downs" "I" ∈ lw_g := lg_mem (List.mem_of_getElem? (i := 143) (by decide +kernel)) rfl
theorem k_115 : Cond.fieldLinkNest R_Fl 60 "RelayBench$Stand" "downs" "I" "RelayBench" ∈ lw_g := lg_mem (List.mem_of_getElem? (i := 144) (by decide +kernel)) rfl
theorem k_116 : Cond.fieldLink R_Sd 28 "RelayBench$Stand" "closed" "I" ∈ lw_g := lg_mem (List.mem_of_getElem? (i := 145) (by decide +kernel)) rfl
theorem k_117 : Cond.fieldLinkNest R_Fl 63 "RelayBench$Stand" "closed" "I" "RelayBench" ∈ lw_g := lg_mem (List.mem_of_getElem? (i := 146) (by decide +kernel)) rfl
theorem k_118 : Cond.fieldLink R_Sd 31 "RelayBench$Stand" "blown" "Z" ∈ lw_g := lg_mem (List.mem_of_getElem? (i := 147) (by decide +kernel)) rfl
theorem k_119 : Cond.fieldLinkNest R_Mo 28 "RelayBench$Stand" "blown" "Z" "RelayBench" ∈ lw_g := lg_mem (List.mem_of_getElem? (i := 148) (by decide +kernel)) rfl
theorem k_120 : Cond.fieldLinkNest R_Hi 30 "RelayBench$Stand" "blown" "Z" "RelayBench" ∈ lw_g := lg_mem (List.mem_of_getElem? (i := 149) (by decide +kernel)) rfl
theorem k_121 : Cond.fieldLinkNest R_Rb 189 "RelayBench$Stand" "blown" "Z" "RelayBench" ∈ lw_g := lg_mem (List.mem_of_getElem? (i := 150) (by decide +kernel)) rfl
theorem k_136 : Cond.superclass R_Sd "java/lang/Object" ∈ lw_g := lg_mem (List.mem_of_getElem? (i := 165) (by decide +kernel)) rfl
theorem k_137 : Cond.classLink R_Rb 26 R_Mo ∈ lw_g := lg_mem (List.mem_of_getElem? (i := 166) (by decide +kernel)) rfl
theorem k_138 : Cond.instantiable R_Mo 2 ∈ lw_g := lg_mem (List.mem_of_getElem? (i := 167) (by decide +kernel)) rfl
theorem k_139 : Cond.methodLink R_Rb 28 y_Mo_init ∈ lw_g := lg_mem (List.mem_of_getElem? (i := 168) (by decide +kernel)) rfl
theorem k_140 : Cond.instanceMethod y_Mo_init ∈ lw_g := lg_mem (List.mem_of_getElem? (i := 169) (by decide +kernel)) rfl
theorem k_142 : Cond.methodLink R_Mo 3 Lib.objectInit ∈ lw_g := lg_mem (List.mem_of_getElem? (i := 171) (by decide +kernel)) rfl
theorem k_143 : Cond.classLink R_Mo 15 R_Fl ∈ lw_g := lg_mem (List.mem_of_getElem? (i := 172) (by decide +kernel)) rfl
theorem k_144 : Cond.instantiable R_Fl 10 ∈ lw_g := lg_mem (List.mem_of_getElem? (i := 173) (by decide +kernel)) rfl
theorem k_145 : Cond.methodLink R_Mo 17 y_Fl_init ∈ lw_g := lg_mem (List.mem_of_getElem? (i := 174) (by decide +kernel)) rfl
theorem k_146 : Cond.instanceMethod y_Fl_init ∈ lw_g := lg_mem (List.mem_of_getElem? (i := 175) (by decide +kernel)) rfl
theorem k_148 : Cond.methodLink R_Fl 3 Lib.objectInit ∈ lw_g := lg_mem (List.mem_of_getElem? (i := 177) (by decide +kernel)) rfl
theorem k_149 : Cond.fieldLink R_Fl 41 "RelayBench$Flow" "board" "LRelayBench$Board;" ∈ lw_g := lg_mem (List.mem_of_getElem? (i := 178) (by decide +kernel)) rfl
theorem k_150 : Cond.fieldLink R_Fl 9 "RelayBench$Flow" "onward" "[J" ∈ lw_g := lg_mem (List.mem_of_getElem? (i := 179) (by decide +kernel)) rfl
theorem k_151 : Cond.fieldLink R_Fl 15 "RelayBench$Flow" "backward" "[J" ∈ lw_g := lg_mem (List.mem_of_getElem? (i := 180) (by decide +kernel)) rfl
theorem k_152 : Cond.fieldLink R_Fl 18 "RelayBench$Flow" "hot" "J" ∈ lw_g := lg_mem (List.mem_of_getElem? (i := 181) (by decide +kernel)) rfl
theorem k_153 : Cond.fieldLink R_Fl 22 "RelayBench$Flow" "cold" "J" ∈ lw_g := lg_mem (List.mem_of_getElem? (i := 182) (by decide +kernel)) rfl
theorem k_154 : Cond.fieldLink R_Fl 25 "RelayBench$Flow" "conducting" "I" ∈ lw_g := lg_mem (List.mem_of_getElem? (i := 183) (by decide +kernel)) rfl
theorem k_155 : Cond.fieldLinkNest R_Rb 193 "RelayBench$Flow" "conducting" "I" "RelayBench" ∈ lw_g := lg_mem (List.mem_of_getElem? (i := 184) (by decide +kernel)) rfl
theorem k_156 : Cond.fieldLink R_Fl 29 "RelayBench$Flow" "madeConductors" "I" ∈ lw_g := lg_mem (List.mem_of_getElem? (i := 185) (by decide +kernel)) rfl
theorem k_157 : Cond.fieldLink R_Fl 32 "RelayBench$Flow" "madeUps" "I" ∈ lw_g := lg_mem (List.mem_of_getElem? (i := 186) (by decide +kernel)) rfl
theorem k_158 : Cond.fieldLink R_Fl 35 "RelayBench$Flow" "madeDowns" "I" ∈ lw_g := lg_mem (List.mem_of_getElem? (i := 187) (by decide +kernel)) rfl
theorem k_159 : Cond.fieldLink R_Fl 38 "RelayBench$Flow" "madeClosed" "I" ∈ lw_g := lg_mem (List.mem_of_getElem? (i := 188) (by decide +kernel)) rfl
theorem k_180 : Cond.superclass R_Fl "java/lang/Object" ∈ lw_g := lg_mem (List.mem_of_getElem? (i := 209) (by decide +kernel)) rfl
theorem k_182 : Cond.fieldLink R_Mo 9 "RelayBench$Motion" "board" "LRelayBench$Board;" ∈ lw_g := lg_mem (List.mem_of_getElem? (i := 211) (by decide +kernel)) rfl
theorem k_183 : Cond.fieldLink R_Mo 20 "RelayBench$Motion" "flow" "LRelayBench$Flow;" ∈ lw_g := lg_mem (List.mem_of_getElem? (i := 212) (by decide +kernel)) rfl
theorem k_188 : Cond.superclass R_Mo "java/lang/Object" ∈ lw_g := lg_mem (List.mem_of_getElem? (i := 217) (by decide +kernel)) rfl
theorem k_189 : Cond.classLink R_Rb 35 R_Hi ∈ lw_g := lg_mem (List.mem_of_getElem? (i := 218) (by decide +kernel)) rfl
theorem k_190 : Cond.instantiable R_Hi 3 ∈ lw_g := lg_mem (List.mem_of_getElem? (i := 219) (by decide +kernel)) rfl
theorem k_191 : Cond.methodLinkNest R_Rb 37 y_Hi_init "RelayBench" ∈ lw_g := lg_mem (List.mem_of_getElem? (i := 220) (by decide +kernel)) rfl
theorem k_192 : Cond.instanceMethod y_Hi_init ∈ lw_g := lg_mem (List.mem_of_getElem? (i := 221) (by decide +kernel)) rfl
theorem k_194 : Cond.methodLink R_Hi 3 Lib.objectInit ∈ lw_g := lg_mem (List.mem_of_getElem? (i := 223) (by decide +kernel)) rfl
theorem k_195 : Cond.fieldLink R_Hi 9 "RelayBench$History" "lows" "[J" ∈ lw_g := lg_mem (List.mem_of_getElem? (i := 224) (by decide +kernel)) rfl
theorem k_196 : Cond.fieldLink R_Hi 15 "RelayBench$History" "highs" "[J" ∈ lw_g := lg_mem (List.mem_of_getElem? (i := 225) (by decide +kernel)) rfl
theorem k_197 : Cond.fieldLink R_Hi 18 "RelayBench$History" "size" "I" ∈ lw_g := lg_mem (List.mem_of_getElem? (i := 226) (by decide +kernel)) rfl
theorem k_204 : Cond.superclass R_Hi "java/lang/Object" ∈ lw_g := lg_mem (List.mem_of_getElem? (i := 233) (by decide +kernel)) rfl
theorem k_205 : Cond.fieldLink R_Rb 10 "RelayBench" "board" "LRelayBench$Board;" ∈ lw_g := lg_mem (List.mem_of_getElem? (i := 234) (by decide +kernel)) rfl
theorem k_206 : Cond.fieldLink R_Rb 19 "RelayBench" "now" "LRelayBench$Stand;" ∈ lw_g := lg_mem (List.mem_of_getElem? (i := 235) (by decide +kernel)) rfl
theorem k_207 : Cond.fieldLink R_Rb 23 "RelayBench" "trial" "LRelayBench$Stand;" ∈ lw_g := lg_mem (List.mem_of_getElem? (i := 236) (by decide +kernel)) rfl
theorem k_208 : Cond.fieldLink R_Rb 31 "RelayBench" "motion" "LRelayBench$Motion;" ∈ lw_g := lg_mem (List.mem_of_getElem? (i := 237) (by decide +kernel)) rfl
theorem k_209 : Cond.fieldLink R_Rb 38 "RelayBench" "history" "LRelayBench$History;" ∈ lw_g := lg_mem (List.mem_of_getElem? (i := 238) (by decide +kernel)) rfl
theorem k_210 : Cond.fieldLink R_Rb 42 "RelayBench" "ticks" "I" ∈ lw_g := lg_mem (List.mem_of_getElem? (i := 239) (by decide +kernel)) rfl
theorem k_223 : Cond.superclass R_Rb "java/lang/Object" ∈ lw_g := lg_mem (List.mem_of_getElem? (i := 252) (by decide +kernel)) rfl
theorem k_224 : Cond.methodLink R_Lw 116 y_Rb_ups ∈ lw_g := lg_mem (List.mem_of_getElem? (i := 253) (by decide +kernel)) rfl
theorem k_225 : Cond.instanceMethod y_Rb_ups ∈ lw_g := lg_mem (List.mem_of_getElem? (i := 254) (by decide +kernel)) rfl
theorem k_226 : Cond.selects R_Rb y_Rb_ups y_Rb_ups ∈ lw_g := lg_mem (List.mem_of_getElem? (i := 255) (by decide +kernel)) rfl
theorem k_228 : Cond.methodLink R_Lw 120 y_Rb_lit ∈ lw_g := lg_mem (List.mem_of_getElem? (i := 257) (by decide +kernel)) rfl
theorem k_229 : Cond.instanceMethod y_Rb_lit ∈ lw_g := lg_mem (List.mem_of_getElem? (i := 258) (by decide +kernel)) rfl
theorem k_230 : Cond.selects R_Rb y_Rb_lit y_Rb_lit ∈ lw_g := lg_mem (List.mem_of_getElem? (i := 259) (by decide +kernel)) rfl
theorem k_232 : Cond.methodLink R_Rb 155 y_Mo_currents ∈ lw_g := lg_mem (List.mem_of_getElem? (i := 261) (by decide +kernel)) rfl
theorem k_233 : Cond.instanceMethod y_Mo_currents ∈ lw_g := lg_mem (List.mem_of_getElem? (i := 262) (by decide +kernel)) rfl
theorem k_234 : Cond.selects R_Mo y_Mo_currents y_Mo_currents ∈ lw_g := lg_mem (List.mem_of_getElem? (i := 263) (by decide +kernel)) rfl
theorem k_236 : Cond.methodLink R_Mo 24 y_Fl_follow ∈ lw_g := lg_mem (List.mem_of_getElem? (i := 265) (by decide +kernel)) rfl
theorem k_237 : Cond.instanceMethod y_Fl_follow ∈ lw_g := lg_mem (List.mem_of_getElem? (i := 266) (by decide +kernel)) rfl
theorem k_238 : Cond.selects R_Fl y_Fl_follow y_Fl_follow ∈ lw_g := lg_mem (List.mem_of_getElem? (i := 267) (by decide +kernel)) rfl
theorem k_240 : Cond.methodLink R_Fl 45 y_Fl_isMadeFor ∈ lw_g := lg_mem (List.mem_of_getElem? (i := 269) (by decide +kernel)) rfl
theorem k_242 : Cond.instanceMethod y_Fl_isMadeFor ∈ lw_g := lg_mem (List.mem_of_getElem? (i := 271) (by decide +kernel)) rfl
theorem k_244 : Cond.methodLink R_Fl 49 y_Bo_countConductors ∈ lw_g := lg_mem (List.mem_of_getElem? (i := 273) (by decide +kernel)) rfl
theorem k_245 : Cond.instanceMethod y_Bo_countConductors ∈ lw_g := lg_mem (List.mem_of_getElem? (i := 274) (by decide +kernel)) rfl
theorem k_246 : Cond.selects R_Bo y_Bo_countConductors y_Bo_countConductors ∈ lw_g := lg_mem (List.mem_of_getElem? (i := 275) (by decide +kernel)) rfl
theorem k_248 : Cond.methodLink R_Fl 66 y_Fl_joinContacts ∈ lw_g := lg_mem (List.mem_of_getElem? (i := 277) (by decide +kernel)) rfl
theorem k_250 : Cond.instanceMethod y_Fl_joinContacts ∈ lw_g := lg_mem (List.mem_of_getElem? (i := 279) (by decide +kernel)) rfl
theorem k_252 : Cond.methodLink R_Fl 106 y_Sd_relaysClosing ∈ lw_g := lg_mem (List.mem_of_getElem? (i := 281) (by decide +kernel)) rfl
theorem k_253 : Cond.instanceMethod y_Sd_relaysClosing ∈ lw_g := lg_mem (List.mem_of_getElem? (i := 282) (by decide +kernel)) rfl
theorem k_254 : Cond.selects R_Sd y_Sd_relaysClosing y_Sd_relaysClosing ∈ lw_g := lg_mem (List.mem_of_getElem? (i := 283) (by decide +kernel)) rfl
theorem k_256 : Cond.methodLinkNest R_Fl 113 y_Rb_hasBit "RelayBench" ∈ lw_g := lg_mem (List.mem_of_getElem? (i := 285) (by decide +kernel)) rfl
theorem k_257 : Cond.static y_Rb_hasBit ∈ lw_g := lg_mem (List.mem_of_getElem? (i := 286) (by decide +kernel)) rfl
theorem k_259 : Cond.methodLink R_Fl 117 y_Fl_join ∈ lw_g := lg_mem (List.mem_of_getElem? (i := 288) (by decide +kernel)) rfl
theorem k_261 : Cond.instanceMethod y_Fl_join ∈ lw_g := lg_mem (List.mem_of_getElem? (i := 290) (by decide +kernel)) rfl
theorem k_263 : Cond.methodLink R_Fl 70 y_Fl_joinKnobs ∈ lw_g := lg_mem (List.mem_of_getElem? (i := 292) (by decide +kernel)) rfl
theorem k_265 : Cond.instanceMethod y_Fl_joinKnobs ∈ lw_g := lg_mem (List.mem_of_getElem? (i := 294) (by decide +kernel)) rfl
theorem k_267 : Cond.methodLink R_Fl 73 y_Fl_joinDiodes ∈ lw_g := lg_mem (List.mem_of_getElem? (i := 296) (by decide +kernel)) rfl
theorem k_269 : Cond.instanceMethod y_Fl_joinDiodes ∈ lw_g := lg_mem (List.mem_of_getElem? (i := 298) (by decide +kernel)) rfl
theorem k_271 : Cond.methodLink R_Fl 76 y_Fl_reach ∈ lw_g := lg_mem (List.mem_of_getElem? (i := 300) (by decide +kernel)) rfl
theorem k_272 : Cond.static y_Fl_reach ∈ lw_g := lg_mem (List.mem_of_getElem? (i := 301) (by decide +kernel)) rfl
theorem k_274 : Cond.methodLink R_Fl 127 y_Lo_numberOfTrailingZeros ∈ lw_g := lg_mem (List.mem_of_getElem? (i := 303) (by decide +kernel)) rfl
theorem k_275 : Cond.static y_Lo_numberOfTrailingZeros ∈ lw_g := lg_mem (List.mem_of_getElem? (i := 304) (by decide +kernel)) rfl
theorem k_277 : Cond.methodLink R_Lo 311 y_In_numberOfTrailingZeros ∈ lw_g := lg_mem (List.mem_of_getElem? (i := 306) (by decide +kernel)) rfl
theorem k_278 : Cond.static y_In_numberOfTrailingZeros ∈ lw_g := lg_mem (List.mem_of_getElem? (i := 307) (by decide +kernel)) rfl
theorem k_280 : Cond.constant R_In 264 65536 ∈ lw_g := lg_mem (List.mem_of_getElem? (i := 309) (by decide +kernel)) rfl
theorem k_281 : Cond.constantLong R_Fl 133 (-1) ∈ lw_g := lg_mem (List.mem_of_getElem? (i := 310) (by decide +kernel)) rfl
theorem k_282 : Cond.methodLink R_Mo 38 y_Fl_between ∈ lw_g := lg_mem (List.mem_of_getElem? (i := 311) (by decide +kernel)) rfl
theorem k_283 : Cond.instanceMethod y_Fl_between ∈ lw_g := lg_mem (List.mem_of_getElem? (i := 312) (by decide +kernel)) rfl
theorem k_284 : Cond.selects R_Fl y_Fl_between y_Fl_between ∈ lw_g := lg_mem (List.mem_of_getElem? (i := 313) (by decide +kernel)) rfl
theorem k_286 : Cond.methodLink R_Fl 92 y_Fl_isHot ∈ lw_g := lg_mem (List.mem_of_getElem? (i := 315) (by decide +kernel)) rfl
theorem k_287 : Cond.instanceMethod y_Fl_isHot ∈ lw_g := lg_mem (List.mem_of_getElem? (i := 316) (by decide +kernel)) rfl
theorem k_288 : Cond.selects R_Fl y_Fl_isHot y_Fl_isHot ∈ lw_g := lg_mem (List.mem_of_getElem? (i := 317) (by decide +kernel)) rfl
theorem k_290 : Cond.methodLink R_Fl 96 y_Fl_isCold ∈ lw_g := lg_mem (List.mem_of_getElem? (i := 319) (by decide +kernel)) rfl
theorem k_291 : Cond.instanceMethod y_Fl_isCold ∈ lw_g := lg_mem (List.mem_of_getElem? (i := 320) (by decide +kernel)) rfl
theorem k_292 : Cond.selects R_Fl y_Fl_isCold y_Fl_isCold ∈ lw_g := lg_mem (List.mem_of_getElem? (i := 321) (by decide +kernel)) rfl
theorem k_294 : Cond.methodLink R_Lw 130 y_Rb_blown ∈ lw_g := lg_mem (List.mem_of_getElem? (i := 323) (by decide +kernel)) rfl
theorem k_295 : Cond.instanceMethod y_Rb_blown ∈ lw_g := lg_mem (List.mem_of_getElem? (i := 324) (by decide +kernel)) rfl
theorem k_296 : Cond.selects R_Rb y_Rb_blown y_Rb_blown ∈ lw_g := lg_mem (List.mem_of_getElem? (i := 325) (by decide +kernel)) rfl
theorem k_298 : Cond.methodLink R_Lw 135 y_Rb_fuse ∈ lw_g := lg_mem (List.mem_of_getElem? (i := 327) (by decide +kernel)) rfl
theorem k_299 : Cond.instanceMethod y_Rb_fuse ∈ lw_g := lg_mem (List.mem_of_getElem? (i := 328) (by decide +kernel)) rfl
theorem k_300 : Cond.selects R_Rb y_Rb_fuse y_Rb_fuse ∈ lw_g := lg_mem (List.mem_of_getElem? (i := 329) (by decide +kernel)) rfl
theorem k_302 : Cond.methodLink R_Rb 66 y_Mo_lookAtFuse ∈ lw_g := lg_mem (List.mem_of_getElem? (i := 331) (by decide +kernel)) rfl
theorem k_303 : Cond.instanceMethod y_Mo_lookAtFuse ∈ lw_g := lg_mem (List.mem_of_getElem? (i := 332) (by decide +kernel)) rfl
theorem k_304 : Cond.selects R_Mo y_Mo_lookAtFuse y_Mo_lookAtFuse ∈ lw_g := lg_mem (List.mem_of_getElem? (i := 333) (by decide +kernel)) rfl
theorem k_306 : Cond.methodLink R_Mo 34 y_Fl_isHot ∈ lw_g := lg_mem (List.mem_of_getElem? (i := 335) (by decide +kernel)) rfl
theorem k_307 : Cond.methodLink R_Lw 139 y_Rb_count ∈ lw_g := lg_mem (List.mem_of_getElem? (i := 336) (by decide +kernel)) rfl
theorem k_308 : Cond.instanceMethod y_Rb_count ∈ lw_g := lg_mem (List.mem_of_getElem? (i := 337) (by decide +kernel)) rfl
theorem k_309 : Cond.selects R_Rb y_Rb_count y_Rb_count ∈ lw_g := lg_mem (List.mem_of_getElem? (i := 338) (by decide +kernel)) rfl
theorem k_311 : Cond.methodLink R_Rb 173 y_Mo_flowOf ∈ lw_g := lg_mem (List.mem_of_getElem? (i := 340) (by decide +kernel)) rfl
theorem k_312 : Cond.instanceMethod y_Mo_flowOf ∈ lw_g := lg_mem (List.mem_of_getElem? (i := 341) (by decide +kernel)) rfl
theorem k_313 : Cond.selects R_Mo y_Mo_flowOf y_Mo_flowOf ∈ lw_g := lg_mem (List.mem_of_getElem? (i := 342) (by decide +kernel)) rfl
theorem k_315 : Cond.methodLink R_Lw 68 y_Lw_relay ∈ lw_g := lg_mem (List.mem_of_getElem? (i := 344) (by decide +kernel)) rfl
theorem k_316 : Cond.static y_Lw_relay ∈ lw_g := lg_mem (List.mem_of_getElem? (i := 345) (by decide +kernel)) rfl
theorem k_318 : Cond.classLink R_Lw 13 "java/lang/IllegalArgumentException" ∈ lw_g := lg_mem (List.mem_of_getElem? (i := 347) (by decide +kernel)) rfl
theorem k_319 : Cond.classLink R_Lw 15 "java/lang/IllegalStateException" ∈ lw_g := lg_mem (List.mem_of_getElem? (i := 348) (by decide +kernel)) rfl
theorem k_320 : Cond.methodLink R_Lw 7 y_Rb_relay ∈ lw_g := lg_mem (List.mem_of_getElem? (i := 349) (by decide +kernel)) rfl
theorem k_321 : Cond.instanceMethod y_Rb_relay ∈ lw_g := lg_mem (List.mem_of_getElem? (i := 350) (by decide +kernel)) rfl
theorem k_322 : Cond.selects R_Rb y_Rb_relay y_Rb_relay ∈ lw_g := lg_mem (List.mem_of_getElem? (i := 351) (by decide +kernel)) rfl
theorem k_324 : Cond.methodLink R_Rb 46 y_Rb_needTwoNodes ∈ lw_g := lg_mem (List.mem_of_getElem? (i := 353) (by decide +kernel)) rfl
theorem k_325 : Cond.static y_Rb_needTwoNodes ∈ lw_g := lg_mem (List.mem_of_getElem? (i := 354) (by decide +kernel)) rfl
theorem k_327 : Cond.methodLink R_Rb 170 y_Rb_needNode ∈ lw_g := lg_mem (List.mem_of_getElem? (i := 356) (by decide +kernel)) rfl
theorem k_328 : Cond.static y_Rb_needNode ∈ lw_g := lg_mem (List.mem_of_getElem? (i := 357) (by decide +kernel)) rfl
theorem k_330 : Cond.methodLink R_Rb 70 y_Rb_needWithin ∈ lw_g := lg_mem (List.mem_of_getElem? (i := 359) (by decide +kernel)) rfl
theorem k_331 : Cond.static y_Rb_needWithin ∈ lw_g := lg_mem (List.mem_of_getElem? (i := 360) (by decide +kernel)) rfl
theorem k_333 : Cond.classLink R_Rb 162 "java/lang/IllegalArgumentException" ∈ lw_g := lg_mem (List.mem_of_getElem? (i := 362) (by decide +kernel)) rfl
theorem k_334 : Cond.instantiable "java/lang/IllegalArgumentException" 6 ∈ lw_g := lg_mem (List.mem_of_getElem? (i := 363) (by decide +kernel)) rfl
theorem k_335 : Cond.castable "java/lang/IllegalArgumentException" "java/lang/IllegalArgumentException" ∈ lw_g := lg_mem (List.mem_of_getElem? (i := 364) (by decide +kernel)) rfl
theorem k_336 : Cond.declares ⟨"java/lang/RuntimeException", "<init>", "()V"⟩ ∈ lw_g := lg_mem (List.mem_of_getElem? (i := 365) (by decide +kernel)) rfl
theorem k_337 : Cond.declares ⟨"java/lang/RuntimeException", "<init>", "(Ljava/lang/String;)V"⟩ ∈ lw_g := lg_mem (List.mem_of_getElem? (i := 366) (by decide +kernel)) rfl
theorem k_338 : Cond.declares ⟨"java/lang/Exception", "<init>", "()V"⟩ ∈ lw_g := lg_mem (List.mem_of_getElem? (i := 367) (by decide +kernel)) rfl
theorem k_339 : Cond.declares ⟨"java/lang/Exception", "<init>", "(Ljava/lang/String;)V"⟩ ∈ lw_g := lg_mem (List.mem_of_getElem? (i := 368) (by decide +kernel)) rfl
theorem k_340 : Cond.declares ⟨"java/lang/Throwable", "<init>", "()V"⟩ ∈ lw_g := lg_mem (List.mem_of_getElem? (i := 369) (by decide +kernel)) rfl
theorem k_341 : Cond.declares ⟨"java/lang/Throwable", "<init>", "(Ljava/lang/String;)V"⟩ ∈ lw_g := lg_mem (List.mem_of_getElem? (i := 370) (by decide +kernel)) rfl
theorem k_342 : Cond.selects "java/lang/IllegalArgumentException" ⟨"java/lang/Throwable", "fillInStackTrace", "(I)Ljava/lang/Throwable;"⟩ ⟨"java/lang/Throwable", "fillInStackTrace", "(I)Ljava/lang/Throwable;"⟩ ∈ lw_g := lg_mem (List.mem_of_getElem? (i := 371) (by decide +kernel)) rfl
theorem k_343 : Cond.selects "java/lang/IllegalArgumentException" ⟨"java/lang/Throwable", "fillInStackTrace", "()Ljava/lang/Throwable;"⟩ ⟨"java/lang/Throwable", "fillInStackTrace", "()Ljava/lang/Throwable;"⟩ ∈ lw_g := lg_mem (List.mem_of_getElem? (i := 372) (by decide +kernel)) rfl
theorem k_354 : Cond.fieldLink "java/lang/Throwable" 198 "java/lang/Throwable" "backtrace" "Ljava/lang/Object;" ∈ lw_g := lg_mem (List.mem_of_getElem? (i := 383) (by decide +kernel)) rfl
theorem k_355 : Cond.superclass "java/lang/Throwable" "java/lang/Object" ∈ lw_g := lg_mem (List.mem_of_getElem? (i := 384) (by decide +kernel)) rfl
theorem k_356 : Cond.instanceMethod ⟨"java/lang/Throwable", "<init>", "()V"⟩ ∈ lw_g := lg_mem (List.mem_of_getElem? (i := 385) (by decide +kernel)) rfl
theorem k_358 : Cond.methodLink "java/lang/Throwable" 1 Lib.objectInit ∈ lw_g := lg_mem (List.mem_of_getElem? (i := 387) (by decide +kernel)) rfl
theorem k_359 : Cond.fieldLink "java/lang/Throwable" 13 "java/lang/Throwable" "UNASSIGNED_STACK" "[Ljava/lang/StackTraceElement;" ∈ lw_g := lg_mem (List.mem_of_getElem? (i := 388) (by decide +kernel)) rfl
theorem k_361 : Cond.fieldLink "java/lang/Throwable" 20 "java/lang/Throwable" "SUPPRESSED_SENTINEL" "Ljava/util/List;" ∈ lw_g := lg_mem (List.mem_of_getElem? (i := 390) (by decide +kernel)) rfl
theorem k_363 : Cond.methodLink "java/lang/Throwable" 27 ⟨"java/lang/Throwable", "fillInStackTrace", "()Ljava/lang/Throwable;"⟩ ∈ lw_g := lg_mem (List.mem_of_getElem? (i := 392) (by decide +kernel)) rfl
theorem k_364 : Cond.instanceMethod ⟨"java/lang/Throwable", "fillInStackTrace", "()Ljava/lang/Throwable;"⟩ ∈ lw_g := lg_mem (List.mem_of_getElem? (i := 393) (by decide +kernel)) rfl
theorem k_365 : Cond.sameMethod "java/lang/Throwable" "java/lang/Throwable" "fillInStackTrace" "()Ljava/lang/Throwable;" ∈ lw_g := lg_mem (List.mem_of_getElem? (i := 394) (by decide +kernel)) rfl
theorem k_366 : Cond.selects "java/lang/IllegalStateException" ⟨"java/lang/Throwable", "fillInStackTrace", "()Ljava/lang/Throwable;"⟩ ⟨"java/lang/Throwable", "fillInStackTrace", "()Ljava/lang/Throwable;"⟩ ∈ lw_g := lg_mem (List.mem_of_getElem? (i := 395) (by decide +kernel)) rfl
theorem k_367 : Cond.selects "java/lang/UnsupportedOperationException" ⟨"java/lang/Throwable", "fillInStackTrace", "()Ljava/lang/Throwable;"⟩ ⟨"java/lang/Throwable", "fillInStackTrace", "()Ljava/lang/Throwable;"⟩ ∈ lw_g := lg_mem (List.mem_of_getElem? (i := 396) (by decide +kernel)) rfl
theorem k_369 : Cond.methodLink "java/lang/Throwable" 202 ⟨"java/lang/Throwable", "fillInStackTrace", "(I)Ljava/lang/Throwable;"⟩ ∈ lw_g := lg_mem (List.mem_of_getElem? (i := 398) (by decide +kernel)) rfl
theorem k_371 : Cond.instanceMethod ⟨"java/lang/Throwable", "fillInStackTrace", "(I)Ljava/lang/Throwable;"⟩ ∈ lw_g := lg_mem (List.mem_of_getElem? (i := 400) (by decide +kernel)) rfl
theorem k_372 : Cond.instantiable "java/lang/Throwable" 6 ∈ lw_g := lg_mem (List.mem_of_getElem? (i := 401) (by decide +kernel)) rfl
theorem k_374 : Cond.stringRef R_Rb 200 "a number out of its bounds" ∈ lw_g := lg_mem (List.mem_of_getElem? (i := 403) (by decide +kernel)) rfl
theorem k_375 : Cond.methodLink R_Rb 166 ⟨"java/lang/IllegalArgumentException", "<init>", "(Ljava/lang/String;)V"⟩ ∈ lw_g := lg_mem (List.mem_of_getElem? (i := 404) (by decide +kernel)) rfl
theorem k_376 : Cond.instanceMethod ⟨"java/lang/IllegalArgumentException", "<init>", "(Ljava/lang/String;)V"⟩ ∈ lw_g := lg_mem (List.mem_of_getElem? (i := 405) (by decide +kernel)) rfl
theorem k_378 : Cond.methodLink "java/lang/IllegalArgumentException" 7 ⟨"java/lang/RuntimeException", "<init>", "(Ljava/lang/String;)V"⟩ ∈ lw_g := lg_mem (List.mem_of_getElem? (i := 407) (by decide +kernel)) rfl
theorem k_379 : Cond.instanceMethod ⟨"java/lang/RuntimeException", "<init>", "(Ljava/lang/String;)V"⟩ ∈ lw_g := lg_mem (List.mem_of_getElem? (i := 408) (by decide +kernel)) rfl
theorem k_381 : Cond.methodLink "java/lang/RuntimeException" 7 ⟨"java/lang/Exception", "<init>", "(Ljava/lang/String;)V"⟩ ∈ lw_g := lg_mem (List.mem_of_getElem? (i := 410) (by decide +kernel)) rfl
theorem k_382 : Cond.instanceMethod ⟨"java/lang/Exception", "<init>", "(Ljava/lang/String;)V"⟩ ∈ lw_g := lg_mem (List.mem_of_getElem? (i := 411) (by decide +kernel)) rfl
theorem k_384 : Cond.methodLink "java/lang/Exception" 7 ⟨"java/lang/Throwable", "<init>", "(Ljava/lang/String;)V"⟩ ∈ lw_g := lg_mem (List.mem_of_getElem? (i := 413) (by decide +kernel)) rfl
theorem k_385 : Cond.instanceMethod ⟨"java/lang/Throwable", "<init>", "(Ljava/lang/String;)V"⟩ ∈ lw_g := lg_mem (List.mem_of_getElem? (i := 414) (by decide +kernel)) rfl
theorem k_387 : Cond.fieldLink "java/lang/Throwable" 198 "java/lang/Throwable" "backtrace" "Ljava/lang/Object;" ∈ lw_g := lg_mem (List.mem_of_getElem? (i := 416) (by decide +kernel)) rfl
theorem k_388 : Cond.fieldLink "java/lang/Throwable" 31 "java/lang/Throwable" "detailMessage" "Ljava/lang/String;" ∈ lw_g := lg_mem (List.mem_of_getElem? (i := 417) (by decide +kernel)) rfl
theorem k_389 : Cond.fieldLink "java/lang/Throwable" 7 "java/lang/Throwable" "cause" "Ljava/lang/Throwable;" ∈ lw_g := lg_mem (List.mem_of_getElem? (i := 418) (by decide +kernel)) rfl
theorem k_390 : Cond.fieldLink "java/lang/Throwable" 17 "java/lang/Throwable" "stackTrace" "[Ljava/lang/StackTraceElement;" ∈ lw_g := lg_mem (List.mem_of_getElem? (i := 419) (by decide +kernel)) rfl
theorem k_391 : Cond.fieldLink "java/lang/Throwable" 24 "java/lang/Throwable" "suppressedExceptions" "Ljava/util/List;" ∈ lw_g := lg_mem (List.mem_of_getElem? (i := 420) (by decide +kernel)) rfl
theorem k_399 : Cond.superclass "java/lang/IllegalArgumentException" "java/lang/RuntimeException" ∈ lw_g := lg_mem (List.mem_of_getElem? (i := 428) (by decide +kernel)) rfl
theorem k_401 : Cond.stringRef R_Rb 202 "the same node twice" ∈ lw_g := lg_mem (List.mem_of_getElem? (i := 430) (by decide +kernel)) rfl
theorem k_402 : Cond.methodLink R_Rb 50 y_Rb_needTime ∈ lw_g := lg_mem (List.mem_of_getElem? (i := 431) (by decide +kernel)) rfl
theorem k_403 : Cond.static y_Rb_needTime ∈ lw_g := lg_mem (List.mem_of_getElem? (i := 432) (by decide +kernel)) rfl
theorem k_405 : Cond.methodLink R_Rb 58 y_Rb_needRoom ∈ lw_g := lg_mem (List.mem_of_getElem? (i := 434) (by decide +kernel)) rfl
theorem k_406 : Cond.static y_Rb_needRoom ∈ lw_g := lg_mem (List.mem_of_getElem? (i := 435) (by decide +kernel)) rfl
theorem k_408 : Cond.methodLink R_Rb 204 y_Pa_isFull ∈ lw_g := lg_mem (List.mem_of_getElem? (i := 437) (by decide +kernel)) rfl
theorem k_409 : Cond.instanceMethod y_Pa_isFull ∈ lw_g := lg_mem (List.mem_of_getElem? (i := 438) (by decide +kernel)) rfl
theorem k_410 : Cond.selects R_Pa y_Pa_isFull y_Pa_isFull ∈ lw_g := lg_mem (List.mem_of_getElem? (i := 439) (by decide +kernel)) rfl
theorem k_412 : Cond.classLink R_Rb 208 "java/lang/IllegalStateException" ∈ lw_g := lg_mem (List.mem_of_getElem? (i := 441) (by decide +kernel)) rfl
theorem k_413 : Cond.instantiable "java/lang/IllegalStateException" 6 ∈ lw_g := lg_mem (List.mem_of_getElem? (i := 442) (by decide +kernel)) rfl
theorem k_414 : Cond.castable "java/lang/IllegalStateException" "java/lang/IllegalStateException" ∈ lw_g := lg_mem (List.mem_of_getElem? (i := 443) (by decide +kernel)) rfl
theorem k_415 : Cond.selects "java/lang/IllegalStateException" ⟨"java/lang/Throwable", "fillInStackTrace", "(I)Ljava/lang/Throwable;"⟩ ⟨"java/lang/Throwable", "fillInStackTrace", "(I)Ljava/lang/Throwable;"⟩ ∈ lw_g := lg_mem (List.mem_of_getElem? (i := 444) (by decide +kernel)) rfl
theorem k_421 : Cond.stringRef R_Rb 210 "no room for one more part" ∈ lw_g := lg_mem (List.mem_of_getElem? (i := 450) (by decide +kernel)) rfl
theorem k_422 : Cond.methodLink R_Rb 212 ⟨"java/lang/IllegalStateException", "<init>", "(Ljava/lang/String;)V"⟩ ∈ lw_g := lg_mem (List.mem_of_getElem? (i := 451) (by decide +kernel)) rfl
theorem k_423 : Cond.instanceMethod ⟨"java/lang/IllegalStateException", "<init>", "(Ljava/lang/String;)V"⟩ ∈ lw_g := lg_mem (List.mem_of_getElem? (i := 452) (by decide +kernel)) rfl
theorem k_425 : Cond.methodLink "java/lang/IllegalStateException" 7 ⟨"java/lang/RuntimeException", "<init>", "(Ljava/lang/String;)V"⟩ ∈ lw_g := lg_mem (List.mem_of_getElem? (i := 454) (by decide +kernel)) rfl
theorem k_427 : Cond.superclass "java/lang/IllegalStateException" "java/lang/RuntimeException" ∈ lw_g := lg_mem (List.mem_of_getElem? (i := 456) (by decide +kernel)) rfl
theorem k_428 : Cond.methodLink R_Rb 62 y_Bo_addRelay ∈ lw_g := lg_mem (List.mem_of_getElem? (i := 457) (by decide +kernel)) rfl
theorem k_429 : Cond.instanceMethod y_Bo_addRelay ∈ lw_g := lg_mem (List.mem_of_getElem? (i := 458) (by decide +kernel)) rfl
theorem k_430 : Cond.selects R_Bo y_Bo_addRelay y_Bo_addRelay ∈ lw_g := lg_mem (List.mem_of_getElem? (i := 459) (by decide +kernel)) rfl
theorem k_432 : Cond.methodLink R_Bo 45 y_Pa_add ∈ lw_g := lg_mem (List.mem_of_getElem? (i := 461) (by decide +kernel)) rfl
theorem k_433 : Cond.instanceMethod y_Pa_add ∈ lw_g := lg_mem (List.mem_of_getElem? (i := 462) (by decide +kernel)) rfl
theorem k_434 : Cond.selects R_Pa y_Pa_add y_Pa_add ∈ lw_g := lg_mem (List.mem_of_getElem? (i := 463) (by decide +kernel)) rfl
theorem k_436 : Cond.methodLink R_Lw 78 y_Lw_contact ∈ lw_g := lg_mem (List.mem_of_getElem? (i := 465) (by decide +kernel)) rfl
theorem k_437 : Cond.static y_Lw_contact ∈ lw_g := lg_mem (List.mem_of_getElem? (i := 466) (by decide +kernel)) rfl
theorem k_439 : Cond.methodLink R_Lw 17 y_Rb_contact ∈ lw_g := lg_mem (List.mem_of_getElem? (i := 468) (by decide +kernel)) rfl
theorem k_440 : Cond.instanceMethod y_Rb_contact ∈ lw_g := lg_mem (List.mem_of_getElem? (i := 469) (by decide +kernel)) rfl
theorem k_441 : Cond.selects R_Rb y_Rb_contact y_Rb_contact ∈ lw_g := lg_mem (List.mem_of_getElem? (i := 470) (by decide +kernel)) rfl
theorem k_443 : Cond.methodLink R_Rb 74 y_Rb_needPart ∈ lw_g := lg_mem (List.mem_of_getElem? (i := 472) (by decide +kernel)) rfl
theorem k_444 : Cond.static y_Rb_needPart ∈ lw_g := lg_mem (List.mem_of_getElem? (i := 473) (by decide +kernel)) rfl
theorem k_446 : Cond.methodLink R_Rb 81 y_Bo_addContact ∈ lw_g := lg_mem (List.mem_of_getElem? (i := 475) (by decide +kernel)) rfl
theorem k_447 : Cond.instanceMethod y_Bo_addContact ∈ lw_g := lg_mem (List.mem_of_getElem? (i := 476) (by decide +kernel)) rfl
theorem k_448 : Cond.selects R_Bo y_Bo_addContact y_Bo_addContact ∈ lw_g := lg_mem (List.mem_of_getElem? (i := 477) (by decide +kernel)) rfl
theorem k_450 : Cond.methodLink R_Lw 81 y_Lw_knob ∈ lw_g := lg_mem (List.mem_of_getElem? (i := 479) (by decide +kernel)) rfl
theorem k_451 : Cond.static y_Lw_knob ∈ lw_g := lg_mem (List.mem_of_getElem? (i := 480) (by decide +kernel)) rfl
theorem k_453 : Cond.methodLink R_Lw 20 y_Rb_knob ∈ lw_g := lg_mem (List.mem_of_getElem? (i := 482) (by decide +kernel)) rfl
theorem k_454 : Cond.instanceMethod y_Rb_knob ∈ lw_g := lg_mem (List.mem_of_getElem? (i := 483) (by decide +kernel)) rfl
theorem k_455 : Cond.selects R_Rb y_Rb_knob y_Rb_knob ∈ lw_g := lg_mem (List.mem_of_getElem? (i := 484) (by decide +kernel)) rfl
theorem k_457 : Cond.methodLink R_Rb 87 y_Rb_place ∈ lw_g := lg_mem (List.mem_of_getElem? (i := 486) (by decide +kernel)) rfl
theorem k_459 : Cond.instanceMethod y_Rb_place ∈ lw_g := lg_mem (List.mem_of_getElem? (i := 488) (by decide +kernel)) rfl
theorem k_461 : Cond.methodLink R_Rb 196 y_Pa_add ∈ lw_g := lg_mem (List.mem_of_getElem? (i := 490) (by decide +kernel)) rfl
theorem k_462 : Cond.methodLink R_Lw 85 y_Lw_diode ∈ lw_g := lg_mem (List.mem_of_getElem? (i := 491) (by decide +kernel)) rfl
theorem k_463 : Cond.static y_Lw_diode ∈ lw_g := lg_mem (List.mem_of_getElem? (i := 492) (by decide +kernel)) rfl
theorem k_465 : Cond.methodLink R_Lw 24 y_Rb_diode ∈ lw_g := lg_mem (List.mem_of_getElem? (i := 494) (by decide +kernel)) rfl
theorem k_466 : Cond.instanceMethod y_Rb_diode ∈ lw_g := lg_mem (List.mem_of_getElem? (i := 495) (by decide +kernel)) rfl
theorem k_467 : Cond.selects R_Rb y_Rb_diode y_Rb_diode ∈ lw_g := lg_mem (List.mem_of_getElem? (i := 496) (by decide +kernel)) rfl
theorem k_469 : Cond.methodLink R_Lw 88 y_Lw_lamp ∈ lw_g := lg_mem (List.mem_of_getElem? (i := 498) (by decide +kernel)) rfl
theorem k_470 : Cond.static y_Lw_lamp ∈ lw_g := lg_mem (List.mem_of_getElem? (i := 499) (by decide +kernel)) rfl
theorem k_472 : Cond.methodLink R_Lw 27 y_Rb_lamp ∈ lw_g := lg_mem (List.mem_of_getElem? (i := 501) (by decide +kernel)) rfl
theorem k_473 : Cond.instanceMethod y_Rb_lamp ∈ lw_g := lg_mem (List.mem_of_getElem? (i := 502) (by decide +kernel)) rfl
theorem k_474 : Cond.selects R_Rb y_Rb_lamp y_Rb_lamp ∈ lw_g := lg_mem (List.mem_of_getElem? (i := 503) (by decide +kernel)) rfl
theorem k_476 : Cond.methodLink R_Lw 91 y_Lw_turn ∈ lw_g := lg_mem (List.mem_of_getElem? (i := 505) (by decide +kernel)) rfl
theorem k_477 : Cond.static y_Lw_turn ∈ lw_g := lg_mem (List.mem_of_getElem? (i := 506) (by decide +kernel)) rfl
theorem k_479 : Cond.methodLink R_Lw 30 y_Rb_turn ∈ lw_g := lg_mem (List.mem_of_getElem? (i := 508) (by decide +kernel)) rfl
theorem k_480 : Cond.instanceMethod y_Rb_turn ∈ lw_g := lg_mem (List.mem_of_getElem? (i := 509) (by decide +kernel)) rfl
theorem k_481 : Cond.selects R_Rb y_Rb_turn y_Rb_turn ∈ lw_g := lg_mem (List.mem_of_getElem? (i := 510) (by decide +kernel)) rfl
theorem k_483 : Cond.methodLink R_Rb 97 y_Sd_setKnob ∈ lw_g := lg_mem (List.mem_of_getElem? (i := 512) (by decide +kernel)) rfl
theorem k_484 : Cond.instanceMethod y_Sd_setKnob ∈ lw_g := lg_mem (List.mem_of_getElem? (i := 513) (by decide +kernel)) rfl
theorem k_485 : Cond.selects R_Sd y_Sd_setKnob y_Sd_setKnob ∈ lw_g := lg_mem (List.mem_of_getElem? (i := 514) (by decide +kernel)) rfl
theorem k_487 : Cond.methodLinkNest R_Sd 41 y_Rb_hasBit "RelayBench" ∈ lw_g := lg_mem (List.mem_of_getElem? (i := 516) (by decide +kernel)) rfl
theorem k_488 : Cond.methodLink R_Sd 45 y_Sd_withBit ∈ lw_g := lg_mem (List.mem_of_getElem? (i := 517) (by decide +kernel)) rfl
theorem k_489 : Cond.static y_Sd_withBit ∈ lw_g := lg_mem (List.mem_of_getElem? (i := 518) (by decide +kernel)) rfl
theorem k_491 : Cond.methodLink R_Lw 95 y_Lw_dial ∈ lw_g := lg_mem (List.mem_of_getElem? (i := 520) (by decide +kernel)) rfl
theorem k_492 : Cond.static y_Lw_dial ∈ lw_g := lg_mem (List.mem_of_getElem? (i := 521) (by decide +kernel)) rfl
theorem k_494 : Cond.methodLink R_Lw 34 y_Rb_dial ∈ lw_g := lg_mem (List.mem_of_getElem? (i := 523) (by decide +kernel)) rfl
theorem k_495 : Cond.instanceMethod y_Rb_dial ∈ lw_g := lg_mem (List.mem_of_getElem? (i := 524) (by decide +kernel)) rfl
theorem k_496 : Cond.selects R_Rb y_Rb_dial y_Rb_dial ∈ lw_g := lg_mem (List.mem_of_getElem? (i := 525) (by decide +kernel)) rfl
theorem k_498 : Cond.methodLink R_Rb 106 y_Rb_hasBit ∈ lw_g := lg_mem (List.mem_of_getElem? (i := 527) (by decide +kernel)) rfl
theorem k_499 : Cond.methodLink R_Lw 99 y_Lw_tick ∈ lw_g := lg_mem (List.mem_of_getElem? (i := 528) (by decide +kernel)) rfl
theorem k_500 : Cond.static y_Lw_tick ∈ lw_g := lg_mem (List.mem_of_getElem? (i := 529) (by decide +kernel)) rfl
theorem k_502 : Cond.methodLink R_Lw 38 y_Rb_tick ∈ lw_g := lg_mem (List.mem_of_getElem? (i := 531) (by decide +kernel)) rfl
theorem k_503 : Cond.instanceMethod y_Rb_tick ∈ lw_g := lg_mem (List.mem_of_getElem? (i := 532) (by decide +kernel)) rfl
theorem k_504 : Cond.selects R_Rb y_Rb_tick y_Rb_tick ∈ lw_g := lg_mem (List.mem_of_getElem? (i := 533) (by decide +kernel)) rfl
theorem k_506 : Cond.methodLink R_Rb 110 y_Mo_step ∈ lw_g := lg_mem (List.mem_of_getElem? (i := 535) (by decide +kernel)) rfl
theorem k_507 : Cond.instanceMethod y_Mo_step ∈ lw_g := lg_mem (List.mem_of_getElem? (i := 536) (by decide +kernel)) rfl
theorem k_508 : Cond.selects R_Mo y_Mo_step y_Mo_step ∈ lw_g := lg_mem (List.mem_of_getElem? (i := 537) (by decide +kernel)) rfl
theorem k_510 : Cond.methodLink R_Mo 42 y_Mo_lookAtFuse ∈ lw_g := lg_mem (List.mem_of_getElem? (i := 539) (by decide +kernel)) rfl
theorem k_511 : Cond.methodLink R_Mo 52 y_Mo_currents ∈ lw_g := lg_mem (List.mem_of_getElem? (i := 540) (by decide +kernel)) rfl
theorem k_512 : Cond.methodLinkNest R_Mo 62 y_Rb_hasBit "RelayBench" ∈ lw_g := lg_mem (List.mem_of_getElem? (i := 541) (by decide +kernel)) rfl
theorem k_513 : Cond.methodLink R_Mo 70 y_Sd_rise ∈ lw_g := lg_mem (List.mem_of_getElem? (i := 542) (by decide +kernel)) rfl
theorem k_514 : Cond.instanceMethod y_Sd_rise ∈ lw_g := lg_mem (List.mem_of_getElem? (i := 543) (by decide +kernel)) rfl
theorem k_515 : Cond.selects R_Sd y_Sd_rise y_Sd_rise ∈ lw_g := lg_mem (List.mem_of_getElem? (i := 544) (by decide +kernel)) rfl
theorem k_517 : Cond.methodLink R_Sd 49 y_Sd_put ∈ lw_g := lg_mem (List.mem_of_getElem? (i := 546) (by decide +kernel)) rfl
theorem k_519 : Cond.instanceMethod y_Sd_put ∈ lw_g := lg_mem (List.mem_of_getElem? (i := 548) (by decide +kernel)) rfl
theorem k_521 : Cond.methodLink R_Mo 76 y_Sd_fall ∈ lw_g := lg_mem (List.mem_of_getElem? (i := 550) (by decide +kernel)) rfl
theorem k_522 : Cond.instanceMethod y_Sd_fall ∈ lw_g := lg_mem (List.mem_of_getElem? (i := 551) (by decide +kernel)) rfl
theorem k_523 : Cond.selects R_Sd y_Sd_fall y_Sd_fall ∈ lw_g := lg_mem (List.mem_of_getElem? (i := 552) (by decide +kernel)) rfl
theorem k_525 : Cond.methodLink R_Lw 103 y_Lw_settle ∈ lw_g := lg_mem (List.mem_of_getElem? (i := 554) (by decide +kernel)) rfl
theorem k_526 : Cond.static y_Lw_settle ∈ lw_g := lg_mem (List.mem_of_getElem? (i := 555) (by decide +kernel)) rfl
theorem k_528 : Cond.classLink R_Lw 45 "java/lang/UnsupportedOperationException" ∈ lw_g := lg_mem (List.mem_of_getElem? (i := 557) (by decide +kernel)) rfl
theorem k_529 : Cond.methodLink R_Lw 42 y_Rb_settle ∈ lw_g := lg_mem (List.mem_of_getElem? (i := 558) (by decide +kernel)) rfl
theorem k_530 : Cond.instanceMethod y_Rb_settle ∈ lw_g := lg_mem (List.mem_of_getElem? (i := 559) (by decide +kernel)) rfl
theorem k_531 : Cond.selects R_Rb y_Rb_settle y_Rb_settle ∈ lw_g := lg_mem (List.mem_of_getElem? (i := 560) (by decide +kernel)) rfl
theorem k_533 : Cond.methodLink R_Rb 114 y_Sd_become ∈ lw_g := lg_mem (List.mem_of_getElem? (i := 562) (by decide +kernel)) rfl
theorem k_534 : Cond.instanceMethod y_Sd_become ∈ lw_g := lg_mem (List.mem_of_getElem? (i := 563) (by decide +kernel)) rfl
theorem k_535 : Cond.selects R_Sd y_Sd_become y_Sd_become ∈ lw_g := lg_mem (List.mem_of_getElem? (i := 564) (by decide +kernel)) rfl
theorem k_537 : Cond.methodLink R_Sd 35 arraycopyName ∈ lw_g := lg_mem (List.mem_of_getElem? (i := 566) (by decide +kernel)) rfl
theorem k_538 : Cond.static arraycopyName ∈ lw_g := lg_mem (List.mem_of_getElem? (i := 567) (by decide +kernel)) rfl
theorem k_539 : Cond.native arraycopyName ∈ lw_g := lg_mem (List.mem_of_getElem? (i := 568) (by decide +kernel)) rfl
theorem k_540 : Cond.methodLink R_Rb 118 y_Mo_runTillStill ∈ lw_g := lg_mem (List.mem_of_getElem? (i := 569) (by decide +kernel)) rfl
theorem k_541 : Cond.instanceMethod y_Mo_runTillStill ∈ lw_g := lg_mem (List.mem_of_getElem? (i := 570) (by decide +kernel)) rfl
theorem k_542 : Cond.selects R_Mo y_Mo_runTillStill y_Mo_runTillStill ∈ lw_g := lg_mem (List.mem_of_getElem? (i := 571) (by decide +kernel)) rfl
theorem k_544 : Cond.methodLink R_Mo 79 y_Mo_step ∈ lw_g := lg_mem (List.mem_of_getElem? (i := 573) (by decide +kernel)) rfl
theorem k_545 : Cond.classLink R_Rb 122 "java/lang/UnsupportedOperationException" ∈ lw_g := lg_mem (List.mem_of_getElem? (i := 574) (by decide +kernel)) rfl
theorem k_546 : Cond.instantiable "java/lang/UnsupportedOperationException" 6 ∈ lw_g := lg_mem (List.mem_of_getElem? (i := 575) (by decide +kernel)) rfl
theorem k_547 : Cond.castable "java/lang/UnsupportedOperationException" "java/lang/UnsupportedOperationException" ∈ lw_g := lg_mem (List.mem_of_getElem? (i := 576) (by decide +kernel)) rfl
theorem k_548 : Cond.selects "java/lang/UnsupportedOperationException" ⟨"java/lang/Throwable", "fillInStackTrace", "(I)Ljava/lang/Throwable;"⟩ ⟨"java/lang/Throwable", "fillInStackTrace", "(I)Ljava/lang/Throwable;"⟩ ∈ lw_g := lg_mem (List.mem_of_getElem? (i := 577) (by decide +kernel)) rfl
theorem k_554 : Cond.stringRef R_Rb 124 "not still behind so many ticks" ∈ lw_g := lg_mem (List.mem_of_getElem? (i := 583) (by decide +kernel)) rfl
theorem k_555 : Cond.methodLink R_Rb 126 ⟨"java/lang/UnsupportedOperationException", "<init>", "(Ljava/lang/String;)V"⟩ ∈ lw_g := lg_mem (List.mem_of_getElem? (i := 584) (by decide +kernel)) rfl
theorem k_556 : Cond.instanceMethod ⟨"java/lang/UnsupportedOperationException", "<init>", "(Ljava/lang/String;)V"⟩ ∈ lw_g := lg_mem (List.mem_of_getElem? (i := 585) (by decide +kernel)) rfl
theorem k_558 : Cond.methodLink "java/lang/UnsupportedOperationException" 7 ⟨"java/lang/RuntimeException", "<init>", "(Ljava/lang/String;)V"⟩ ∈ lw_g := lg_mem (List.mem_of_getElem? (i := 587) (by decide +kernel)) rfl
theorem k_560 : Cond.superclass "java/lang/UnsupportedOperationException" "java/lang/RuntimeException" ∈ lw_g := lg_mem (List.mem_of_getElem? (i := 589) (by decide +kernel)) rfl
theorem k_561 : Cond.methodLink R_Lw 106 y_Lw_circle ∈ lw_g := lg_mem (List.mem_of_getElem? (i := 590) (by decide +kernel)) rfl
theorem k_562 : Cond.static y_Lw_circle ∈ lw_g := lg_mem (List.mem_of_getElem? (i := 591) (by decide +kernel)) rfl
theorem k_564 : Cond.methodLink R_Lw 47 y_Rb_circle ∈ lw_g := lg_mem (List.mem_of_getElem? (i := 593) (by decide +kernel)) rfl
theorem k_565 : Cond.instanceMethod y_Rb_circle ∈ lw_g := lg_mem (List.mem_of_getElem? (i := 594) (by decide +kernel)) rfl
theorem k_566 : Cond.selects R_Rb y_Rb_circle y_Rb_circle ∈ lw_g := lg_mem (List.mem_of_getElem? (i := 595) (by decide +kernel)) rfl
theorem k_568 : Cond.methodLink R_Rb 129 y_Hi_begin ∈ lw_g := lg_mem (List.mem_of_getElem? (i := 597) (by decide +kernel)) rfl
theorem k_569 : Cond.instanceMethod y_Hi_begin ∈ lw_g := lg_mem (List.mem_of_getElem? (i := 598) (by decide +kernel)) rfl
theorem k_570 : Cond.selects R_Hi y_Hi_begin y_Hi_begin ∈ lw_g := lg_mem (List.mem_of_getElem? (i := 599) (by decide +kernel)) rfl
theorem k_572 : Cond.methodLink R_Hi 22 y_Hi_findOrKeep ∈ lw_g := lg_mem (List.mem_of_getElem? (i := 601) (by decide +kernel)) rfl
theorem k_573 : Cond.instanceMethod y_Hi_findOrKeep ∈ lw_g := lg_mem (List.mem_of_getElem? (i := 602) (by decide +kernel)) rfl
theorem k_574 : Cond.selects R_Hi y_Hi_findOrKeep y_Hi_findOrKeep ∈ lw_g := lg_mem (List.mem_of_getElem? (i := 603) (by decide +kernel)) rfl
theorem k_576 : Cond.methodLink R_Hi 26 y_Hi_pack ∈ lw_g := lg_mem (List.mem_of_getElem? (i := 605) (by decide +kernel)) rfl
theorem k_577 : Cond.static y_Hi_pack ∈ lw_g := lg_mem (List.mem_of_getElem? (i := 606) (by decide +kernel)) rfl
theorem k_579 : Cond.methodLink R_Rb 132 y_Hi_findOrKeep ∈ lw_g := lg_mem (List.mem_of_getElem? (i := 608) (by decide +kernel)) rfl
theorem k_580 : Cond.stringRef R_Rb 136 "no state is there twice" ∈ lw_g := lg_mem (List.mem_of_getElem? (i := 609) (by decide +kernel)) rfl
theorem k_581 : Cond.methodLink R_Lw 109 y_Lw_race ∈ lw_g := lg_mem (List.mem_of_getElem? (i := 610) (by decide +kernel)) rfl
theorem k_582 : Cond.static y_Lw_race ∈ lw_g := lg_mem (List.mem_of_getElem? (i := 611) (by decide +kernel)) rfl
theorem k_584 : Cond.methodLink R_Lw 50 y_Rb_race ∈ lw_g := lg_mem (List.mem_of_getElem? (i := 613) (by decide +kernel)) rfl
theorem k_585 : Cond.instanceMethod y_Rb_race ∈ lw_g := lg_mem (List.mem_of_getElem? (i := 614) (by decide +kernel)) rfl
theorem k_586 : Cond.selects R_Rb y_Rb_race y_Rb_race ∈ lw_g := lg_mem (List.mem_of_getElem? (i := 615) (by decide +kernel)) rfl
theorem k_588 : Cond.methodLink R_Rb 138 y_Ma_min ∈ lw_g := lg_mem (List.mem_of_getElem? (i := 617) (by decide +kernel)) rfl
theorem k_589 : Cond.static y_Ma_min ∈ lw_g := lg_mem (List.mem_of_getElem? (i := 618) (by decide +kernel)) rfl
theorem k_591 : Cond.methodLink R_Rb 144 y_Rb_outcome ∈ lw_g := lg_mem (List.mem_of_getElem? (i := 620) (by decide +kernel)) rfl
theorem k_593 : Cond.instanceMethod y_Rb_outcome ∈ lw_g := lg_mem (List.mem_of_getElem? (i := 622) (by decide +kernel)) rfl
theorem k_595 : Cond.constant R_Rb 199 65536 ∈ lw_g := lg_mem (List.mem_of_getElem? (i := 624) (by decide +kernel)) rfl
theorem k_596 : Cond.methodLink R_Lw 113 y_Lw_state ∈ lw_g := lg_mem (List.mem_of_getElem? (i := 625) (by decide +kernel)) rfl
theorem k_597 : Cond.static y_Lw_state ∈ lw_g := lg_mem (List.mem_of_getElem? (i := 626) (by decide +kernel)) rfl
theorem k_599 : Cond.methodLink R_Lw 54 y_Rb_state ∈ lw_g := lg_mem (List.mem_of_getElem? (i := 628) (by decide +kernel)) rfl
theorem k_600 : Cond.instanceMethod y_Rb_state ∈ lw_g := lg_mem (List.mem_of_getElem? (i := 629) (by decide +kernel)) rfl
theorem k_601 : Cond.selects R_Rb y_Rb_state y_Rb_state ∈ lw_g := lg_mem (List.mem_of_getElem? (i := 630) (by decide +kernel)) rfl
theorem k_603 : Cond.stringRef R_Rb 164 "no such what" ∈ lw_g := lg_mem (List.mem_of_getElem? (i := 632) (by decide +kernel)) rfl
theorem k_604 : Cond.methodLink R_Lw 124 y_Lw_node ∈ lw_g := lg_mem (List.mem_of_getElem? (i := 633) (by decide +kernel)) rfl
theorem k_605 : Cond.static y_Lw_node ∈ lw_g := lg_mem (List.mem_of_getElem? (i := 634) (by decide +kernel)) rfl
theorem k_607 : Cond.methodLink R_Lw 57 y_Rb_node ∈ lw_g := lg_mem (List.mem_of_getElem? (i := 636) (by decide +kernel)) rfl
theorem k_608 : Cond.instanceMethod y_Rb_node ∈ lw_g := lg_mem (List.mem_of_getElem? (i := 637) (by decide +kernel)) rfl
theorem k_609 : Cond.selects R_Rb y_Rb_node y_Rb_node ∈ lw_g := lg_mem (List.mem_of_getElem? (i := 638) (by decide +kernel)) rfl
theorem k_611 : Cond.methodLink R_Rb 177 y_Fl_isHot ∈ lw_g := lg_mem (List.mem_of_getElem? (i := 640) (by decide +kernel)) rfl
theorem k_612 : Cond.methodLink R_Rb 183 y_Fl_isCold ∈ lw_g := lg_mem (List.mem_of_getElem? (i := 641) (by decide +kernel)) rfl
theorem k_613 : Cond.methodLink R_Lw 127 y_Lw_leads ∈ lw_g := lg_mem (List.mem_of_getElem? (i := 642) (by decide +kernel)) rfl
theorem k_614 : Cond.static y_Lw_leads ∈ lw_g := lg_mem (List.mem_of_getElem? (i := 643) (by decide +kernel)) rfl
theorem k_616 : Cond.methodLink R_Lw 60 y_Rb_leads ∈ lw_g := lg_mem (List.mem_of_getElem? (i := 645) (by decide +kernel)) rfl
theorem k_617 : Cond.instanceMethod y_Rb_leads ∈ lw_g := lg_mem (List.mem_of_getElem? (i := 646) (by decide +kernel)) rfl
theorem k_618 : Cond.selects R_Rb y_Rb_leads y_Rb_leads ∈ lw_g := lg_mem (List.mem_of_getElem? (i := 647) (by decide +kernel)) rfl
theorem k_620 : Cond.methodLink R_Rb 186 y_Fl_reaches ∈ lw_g := lg_mem (List.mem_of_getElem? (i := 649) (by decide +kernel)) rfl
theorem k_621 : Cond.instanceMethod y_Fl_reaches ∈ lw_g := lg_mem (List.mem_of_getElem? (i := 650) (by decide +kernel)) rfl
theorem k_622 : Cond.selects R_Fl y_Fl_reaches y_Fl_reaches ∈ lw_g := lg_mem (List.mem_of_getElem? (i := 651) (by decide +kernel)) rfl
theorem k_624 : Cond.classLink R_Lw 65 R_Md ∈ lw_g := lg_mem (List.mem_of_getElem? (i := 653) (by decide +kernel)) rfl
theorem k_625 : Cond.instantiable R_Md 38 ∈ lw_g := lg_mem (List.mem_of_getElem? (i := 654) (by decide +kernel)) rfl
theorem k_626 : Cond.methodLink R_Lw 67 y_Md_init ∈ lw_g := lg_mem (List.mem_of_getElem? (i := 655) (by decide +kernel)) rfl
theorem k_627 : Cond.instanceMethod y_Md_init ∈ lw_g := lg_mem (List.mem_of_getElem? (i := 656) (by decide +kernel)) rfl
theorem k_629 : Cond.methodLink R_Md 1 Lib.objectInit ∈ lw_g := lg_mem (List.mem_of_getElem? (i := 658) (by decide +kernel)) rfl
theorem k_630 : Cond.fieldLink R_Md 92 "RelayBenchModel" "code" "I" ∈ lw_g := lg_mem (List.mem_of_getElem? (i := 659) (by decide +kernel)) rfl
theorem k_631 : Cond.fieldLink R_Md 108 "RelayBenchModel" "relays" "I" ∈ lw_g := lg_mem (List.mem_of_getElem? (i := 660) (by decide +kernel)) rfl
theorem k_632 : Cond.fieldLink R_Md 114 "RelayBenchModel" "contacts" "I" ∈ lw_g := lg_mem (List.mem_of_getElem? (i := 661) (by decide +kernel)) rfl
theorem k_633 : Cond.fieldLink R_Md 117 "RelayBenchModel" "knobs" "I" ∈ lw_g := lg_mem (List.mem_of_getElem? (i := 662) (by decide +kernel)) rfl
theorem k_634 : Cond.fieldLink R_Md 120 "RelayBenchModel" "diodes" "I" ∈ lw_g := lg_mem (List.mem_of_getElem? (i := 663) (by decide +kernel)) rfl
theorem k_635 : Cond.fieldLink R_Md 123 "RelayBenchModel" "lamps" "I" ∈ lw_g := lg_mem (List.mem_of_getElem? (i := 664) (by decide +kernel)) rfl
theorem k_636 : Cond.fieldLink R_Md 171 "RelayBenchModel" "ticks" "I" ∈ lw_g := lg_mem (List.mem_of_getElem? (i := 665) (by decide +kernel)) rfl
theorem k_637 : Cond.fieldLink R_Md 7 "RelayBenchModel" "coilA" "[I" ∈ lw_g := lg_mem (List.mem_of_getElem? (i := 666) (by decide +kernel)) rfl
theorem k_638 : Cond.fieldLink R_Md 13 "RelayBenchModel" "coilB" "[I" ∈ lw_g := lg_mem (List.mem_of_getElem? (i := 667) (by decide +kernel)) rfl
theorem k_639 : Cond.fieldLink R_Md 16 "RelayBenchModel" "pull" "[I" ∈ lw_g := lg_mem (List.mem_of_getElem? (i := 668) (by decide +kernel)) rfl
theorem k_640 : Cond.fieldLink R_Md 19 "RelayBenchModel" "drop" "[I" ∈ lw_g := lg_mem (List.mem_of_getElem? (i := 669) (by decide +kernel)) rfl
theorem k_641 : Cond.fieldLink R_Md 22 "RelayBenchModel" "state" "[I" ∈ lw_g := lg_mem (List.mem_of_getElem? (i := 670) (by decide +kernel)) rfl
theorem k_642 : Cond.fieldLink R_Md 25 "RelayBenchModel" "count" "[I" ∈ lw_g := lg_mem (List.mem_of_getElem? (i := 671) (by decide +kernel)) rfl
theorem k_643 : Cond.fieldLink R_Md 28 "RelayBenchModel" "worn" "[I" ∈ lw_g := lg_mem (List.mem_of_getElem? (i := 672) (by decide +kernel)) rfl
theorem k_644 : Cond.fieldLink R_Md 137 "RelayBenchModel" "blown" "Z" ∈ lw_g := lg_mem (List.mem_of_getElem? (i := 673) (by decide +kernel)) rfl
theorem k_645 : Cond.fieldLink R_Md 31 "RelayBenchModel" "contactKind" "[I" ∈ lw_g := lg_mem (List.mem_of_getElem? (i := 674) (by decide +kernel)) rfl
theorem k_646 : Cond.fieldLink R_Md 34 "RelayBenchModel" "contactRelay" "[I" ∈ lw_g := lg_mem (List.mem_of_getElem? (i := 675) (by decide +kernel)) rfl
theorem k_647 : Cond.fieldLink R_Md 37 "RelayBenchModel" "contactA" "[I" ∈ lw_g := lg_mem (List.mem_of_getElem? (i := 676) (by decide +kernel)) rfl
theorem k_648 : Cond.fieldLink R_Md 40 "RelayBenchModel" "contactB" "[I" ∈ lw_g := lg_mem (List.mem_of_getElem? (i := 677) (by decide +kernel)) rfl
theorem k_649 : Cond.fieldLink R_Md 43 "RelayBenchModel" "knobA" "[I" ∈ lw_g := lg_mem (List.mem_of_getElem? (i := 678) (by decide +kernel)) rfl
theorem k_650 : Cond.fieldLink R_Md 46 "RelayBenchModel" "knobB" "[I" ∈ lw_g := lg_mem (List.mem_of_getElem? (i := 679) (by decide +kernel)) rfl
theorem k_651 : Cond.fieldLink R_Md 49 "RelayBenchModel" "closed" "[Z" ∈ lw_g := lg_mem (List.mem_of_getElem? (i := 680) (by decide +kernel)) rfl
theorem k_652 : Cond.fieldLink R_Md 53 "RelayBenchModel" "diodeA" "[I" ∈ lw_g := lg_mem (List.mem_of_getElem? (i := 681) (by decide +kernel)) rfl
theorem k_653 : Cond.fieldLink R_Md 56 "RelayBenchModel" "diodeB" "[I" ∈ lw_g := lg_mem (List.mem_of_getElem? (i := 682) (by decide +kernel)) rfl
theorem k_654 : Cond.fieldLink R_Md 59 "RelayBenchModel" "lampA" "[I" ∈ lw_g := lg_mem (List.mem_of_getElem? (i := 683) (by decide +kernel)) rfl
theorem k_655 : Cond.fieldLink R_Md 62 "RelayBenchModel" "lampB" "[I" ∈ lw_g := lg_mem (List.mem_of_getElem? (i := 684) (by decide +kernel)) rfl
theorem k_656 : Cond.fieldLink R_Md 144 "RelayBenchModel" "slow" "I" ∈ lw_g := lg_mem (List.mem_of_getElem? (i := 685) (by decide +kernel)) rfl
theorem k_657 : Cond.fieldLink R_Md 65 "RelayBenchModel" "hot" "[Z" ∈ lw_g := lg_mem (List.mem_of_getElem? (i := 686) (by decide +kernel)) rfl
theorem k_658 : Cond.fieldLink R_Md 68 "RelayBenchModel" "cold" "[Z" ∈ lw_g := lg_mem (List.mem_of_getElem? (i := 687) (by decide +kernel)) rfl
theorem k_659 : Cond.fieldLink R_Md 71 "RelayBenchModel" "keptState" "[I" ∈ lw_g := lg_mem (List.mem_of_getElem? (i := 688) (by decide +kernel)) rfl
theorem k_660 : Cond.fieldLink R_Md 74 "RelayBenchModel" "keptCount" "[I" ∈ lw_g := lg_mem (List.mem_of_getElem? (i := 689) (by decide +kernel)) rfl
theorem k_661 : Cond.fieldLink R_Md 77 "RelayBenchModel" "keptWorn" "[I" ∈ lw_g := lg_mem (List.mem_of_getElem? (i := 690) (by decide +kernel)) rfl
theorem k_662 : Cond.fieldLink R_Md 168 "RelayBenchModel" "keptBlown" "Z" ∈ lw_g := lg_mem (List.mem_of_getElem? (i := 691) (by decide +kernel)) rfl
theorem k_663 : Cond.fieldLink R_Md 174 "RelayBenchModel" "keptTicks" "I" ∈ lw_g := lg_mem (List.mem_of_getElem? (i := 692) (by decide +kernel)) rfl
theorem k_664 : Cond.fieldLink R_Md 80 "RelayBenchModel" "past" "[I" ∈ lw_g := lg_mem (List.mem_of_getElem? (i := 693) (by decide +kernel)) rfl
theorem k_665 : Cond.fieldLink R_Md 83 "RelayBenchModel" "triedState" "[I" ∈ lw_g := lg_mem (List.mem_of_getElem? (i := 694) (by decide +kernel)) rfl
theorem k_666 : Cond.fieldLink R_Md 86 "RelayBenchModel" "triedCount" "[I" ∈ lw_g := lg_mem (List.mem_of_getElem? (i := 695) (by decide +kernel)) rfl
theorem k_667 : Cond.fieldLink R_Md 89 "RelayBenchModel" "triedWorn" "[I" ∈ lw_g := lg_mem (List.mem_of_getElem? (i := 696) (by decide +kernel)) rfl
theorem k_744 : Cond.superclass R_Md "java/lang/Object" ∈ lw_g := lg_mem (List.mem_of_getElem? (i := 773) (by decide +kernel)) rfl
theorem k_746 : Cond.methodLink R_Lw 74 y_Md_thrown ∈ lw_g := lg_mem (List.mem_of_getElem? (i := 775) (by decide +kernel)) rfl
theorem k_747 : Cond.instanceMethod y_Md_thrown ∈ lw_g := lg_mem (List.mem_of_getElem? (i := 776) (by decide +kernel)) rfl
theorem k_748 : Cond.selects R_Md y_Md_thrown y_Md_thrown ∈ lw_g := lg_mem (List.mem_of_getElem? (i := 777) (by decide +kernel)) rfl
theorem k_750 : Cond.methodLink R_Lw 73 y_Md_relay ∈ lw_g := lg_mem (List.mem_of_getElem? (i := 779) (by decide +kernel)) rfl
theorem k_751 : Cond.instanceMethod y_Md_relay ∈ lw_g := lg_mem (List.mem_of_getElem? (i := 780) (by decide +kernel)) rfl
theorem k_752 : Cond.selects R_Md y_Md_relay y_Md_relay ∈ lw_g := lg_mem (List.mem_of_getElem? (i := 781) (by decide +kernel)) rfl
theorem k_754 : Cond.methodLink R_Md 104 y_Md_areNodes ∈ lw_g := lg_mem (List.mem_of_getElem? (i := 783) (by decide +kernel)) rfl
theorem k_755 : Cond.static y_Md_areNodes ∈ lw_g := lg_mem (List.mem_of_getElem? (i := 784) (by decide +kernel)) rfl
theorem k_757 : Cond.methodLink R_Md 100 y_Md_isNode ∈ lw_g := lg_mem (List.mem_of_getElem? (i := 786) (by decide +kernel)) rfl
theorem k_758 : Cond.static y_Md_isNode ∈ lw_g := lg_mem (List.mem_of_getElem? (i := 787) (by decide +kernel)) rfl
theorem k_760 : Cond.methodLink R_Md 96 y_Md_in ∈ lw_g := lg_mem (List.mem_of_getElem? (i := 789) (by decide +kernel)) rfl
theorem k_761 : Cond.static y_Md_in ∈ lw_g := lg_mem (List.mem_of_getElem? (i := 790) (by decide +kernel)) rfl
theorem k_763 : Cond.methodLink R_Md 111 y_Md_lookAtFuse ∈ lw_g := lg_mem (List.mem_of_getElem? (i := 792) (by decide +kernel)) rfl
theorem k_765 : Cond.instanceMethod y_Md_lookAtFuse ∈ lw_g := lg_mem (List.mem_of_getElem? (i := 794) (by decide +kernel)) rfl
theorem k_767 : Cond.methodLink R_Md 141 y_Md_lay ∈ lw_g := lg_mem (List.mem_of_getElem? (i := 796) (by decide +kernel)) rfl
theorem k_769 : Cond.instanceMethod y_Md_lay ∈ lw_g := lg_mem (List.mem_of_getElem? (i := 798) (by decide +kernel)) rfl
theorem k_771 : Cond.methodLink R_Md 133 y_Md_spread ∈ lw_g := lg_mem (List.mem_of_getElem? (i := 800) (by decide +kernel)) rfl
theorem k_773 : Cond.instanceMethod y_Md_spread ∈ lw_g := lg_mem (List.mem_of_getElem? (i := 802) (by decide +kernel)) rfl
theorem k_775 : Cond.methodLink R_Md 126 y_Md_conducts ∈ lw_g := lg_mem (List.mem_of_getElem? (i := 804) (by decide +kernel)) rfl
theorem k_777 : Cond.instanceMethod y_Md_conducts ∈ lw_g := lg_mem (List.mem_of_getElem? (i := 806) (by decide +kernel)) rfl
theorem k_779 : Cond.methodLink R_Md 129 y_Md_reach ∈ lw_g := lg_mem (List.mem_of_getElem? (i := 808) (by decide +kernel)) rfl
theorem k_780 : Cond.static y_Md_reach ∈ lw_g := lg_mem (List.mem_of_getElem? (i := 809) (by decide +kernel)) rfl
theorem k_782 : Cond.methodLink R_Lw 80 y_Md_contact ∈ lw_g := lg_mem (List.mem_of_getElem? (i := 811) (by decide +kernel)) rfl
theorem k_783 : Cond.instanceMethod y_Md_contact ∈ lw_g := lg_mem (List.mem_of_getElem? (i := 812) (by decide +kernel)) rfl
theorem k_784 : Cond.selects R_Md y_Md_contact y_Md_contact ∈ lw_g := lg_mem (List.mem_of_getElem? (i := 813) (by decide +kernel)) rfl
theorem k_786 : Cond.methodLink R_Lw 84 y_Md_knob ∈ lw_g := lg_mem (List.mem_of_getElem? (i := 815) (by decide +kernel)) rfl
theorem k_787 : Cond.instanceMethod y_Md_knob ∈ lw_g := lg_mem (List.mem_of_getElem? (i := 816) (by decide +kernel)) rfl
theorem k_788 : Cond.selects R_Md y_Md_knob y_Md_knob ∈ lw_g := lg_mem (List.mem_of_getElem? (i := 817) (by decide +kernel)) rfl
theorem k_790 : Cond.methodLink R_Lw 87 y_Md_diode ∈ lw_g := lg_mem (List.mem_of_getElem? (i := 819) (by decide +kernel)) rfl
theorem k_791 : Cond.instanceMethod y_Md_diode ∈ lw_g := lg_mem (List.mem_of_getElem? (i := 820) (by decide +kernel)) rfl
theorem k_792 : Cond.selects R_Md y_Md_diode y_Md_diode ∈ lw_g := lg_mem (List.mem_of_getElem? (i := 821) (by decide +kernel)) rfl
theorem k_794 : Cond.methodLink R_Lw 90 y_Md_lamp ∈ lw_g := lg_mem (List.mem_of_getElem? (i := 823) (by decide +kernel)) rfl
theorem k_795 : Cond.instanceMethod y_Md_lamp ∈ lw_g := lg_mem (List.mem_of_getElem? (i := 824) (by decide +kernel)) rfl
theorem k_796 : Cond.selects R_Md y_Md_lamp y_Md_lamp ∈ lw_g := lg_mem (List.mem_of_getElem? (i := 825) (by decide +kernel)) rfl
theorem k_798 : Cond.methodLink R_Lw 94 y_Md_turn ∈ lw_g := lg_mem (List.mem_of_getElem? (i := 827) (by decide +kernel)) rfl
theorem k_799 : Cond.instanceMethod y_Md_turn ∈ lw_g := lg_mem (List.mem_of_getElem? (i := 828) (by decide +kernel)) rfl
theorem k_800 : Cond.selects R_Md y_Md_turn y_Md_turn ∈ lw_g := lg_mem (List.mem_of_getElem? (i := 829) (by decide +kernel)) rfl
theorem k_802 : Cond.methodLink R_Lw 98 y_Md_dial ∈ lw_g := lg_mem (List.mem_of_getElem? (i := 831) (by decide +kernel)) rfl
theorem k_803 : Cond.instanceMethod y_Md_dial ∈ lw_g := lg_mem (List.mem_of_getElem? (i := 832) (by decide +kernel)) rfl
theorem k_804 : Cond.selects R_Md y_Md_dial y_Md_dial ∈ lw_g := lg_mem (List.mem_of_getElem? (i := 833) (by decide +kernel)) rfl
theorem k_806 : Cond.methodLink R_Lw 102 y_Md_tick ∈ lw_g := lg_mem (List.mem_of_getElem? (i := 835) (by decide +kernel)) rfl
theorem k_807 : Cond.instanceMethod y_Md_tick ∈ lw_g := lg_mem (List.mem_of_getElem? (i := 836) (by decide +kernel)) rfl
theorem k_808 : Cond.selects R_Md y_Md_tick y_Md_tick ∈ lw_g := lg_mem (List.mem_of_getElem? (i := 837) (by decide +kernel)) rfl
theorem k_810 : Cond.methodLink R_Md 177 y_Md_tickOne ∈ lw_g := lg_mem (List.mem_of_getElem? (i := 839) (by decide +kernel)) rfl
theorem k_812 : Cond.instanceMethod y_Md_tickOne ∈ lw_g := lg_mem (List.mem_of_getElem? (i := 841) (by decide +kernel)) rfl
theorem k_814 : Cond.methodLink R_Md 147 y_Md_hasCurrent ∈ lw_g := lg_mem (List.mem_of_getElem? (i := 843) (by decide +kernel)) rfl
theorem k_816 : Cond.instanceMethod y_Md_hasCurrent ∈ lw_g := lg_mem (List.mem_of_getElem? (i := 845) (by decide +kernel)) rfl
theorem k_818 : Cond.methodLink R_Md 150 y_Md_move ∈ lw_g := lg_mem (List.mem_of_getElem? (i := 847) (by decide +kernel)) rfl
theorem k_820 : Cond.instanceMethod y_Md_move ∈ lw_g := lg_mem (List.mem_of_getElem? (i := 849) (by decide +kernel)) rfl
theorem k_822 : Cond.methodLink R_Md 154 y_Md_rise ∈ lw_g := lg_mem (List.mem_of_getElem? (i := 851) (by decide +kernel)) rfl
theorem k_824 : Cond.instanceMethod y_Md_rise ∈ lw_g := lg_mem (List.mem_of_getElem? (i := 853) (by decide +kernel)) rfl
theorem k_826 : Cond.methodLink R_Md 164 y_Md_more ∈ lw_g := lg_mem (List.mem_of_getElem? (i := 855) (by decide +kernel)) rfl
theorem k_828 : Cond.instanceMethod y_Md_more ∈ lw_g := lg_mem (List.mem_of_getElem? (i := 857) (by decide +kernel)) rfl
theorem k_830 : Cond.methodLink R_Md 158 y_Md_hold ∈ lw_g := lg_mem (List.mem_of_getElem? (i := 859) (by decide +kernel)) rfl
theorem k_832 : Cond.instanceMethod y_Md_hold ∈ lw_g := lg_mem (List.mem_of_getElem? (i := 861) (by decide +kernel)) rfl
theorem k_834 : Cond.methodLink R_Md 161 y_Md_fall ∈ lw_g := lg_mem (List.mem_of_getElem? (i := 863) (by decide +kernel)) rfl
theorem k_836 : Cond.instanceMethod y_Md_fall ∈ lw_g := lg_mem (List.mem_of_getElem? (i := 865) (by decide +kernel)) rfl
theorem k_838 : Cond.methodLink R_Lw 105 y_Md_settle ∈ lw_g := lg_mem (List.mem_of_getElem? (i := 867) (by decide +kernel)) rfl
theorem k_839 : Cond.instanceMethod y_Md_settle ∈ lw_g := lg_mem (List.mem_of_getElem? (i := 868) (by decide +kernel)) rfl
theorem k_840 : Cond.selects R_Md y_Md_settle y_Md_settle ∈ lw_g := lg_mem (List.mem_of_getElem? (i := 869) (by decide +kernel)) rfl
theorem k_842 : Cond.methodLink R_Md 181 y_Md_keep ∈ lw_g := lg_mem (List.mem_of_getElem? (i := 871) (by decide +kernel)) rfl
theorem k_844 : Cond.instanceMethod y_Md_keep ∈ lw_g := lg_mem (List.mem_of_getElem? (i := 873) (by decide +kernel)) rfl
theorem k_846 : Cond.methodLink R_Md 184 y_Md_run ∈ lw_g := lg_mem (List.mem_of_getElem? (i := 875) (by decide +kernel)) rfl
theorem k_848 : Cond.instanceMethod y_Md_run ∈ lw_g := lg_mem (List.mem_of_getElem? (i := 877) (by decide +kernel)) rfl
theorem k_850 : Cond.methodLink R_Md 187 y_Md_layBack ∈ lw_g := lg_mem (List.mem_of_getElem? (i := 879) (by decide +kernel)) rfl
theorem k_852 : Cond.instanceMethod y_Md_layBack ∈ lw_g := lg_mem (List.mem_of_getElem? (i := 881) (by decide +kernel)) rfl
theorem k_854 : Cond.methodLink R_Lw 108 y_Md_circle ∈ lw_g := lg_mem (List.mem_of_getElem? (i := 883) (by decide +kernel)) rfl
theorem k_855 : Cond.instanceMethod y_Md_circle ∈ lw_g := lg_mem (List.mem_of_getElem? (i := 884) (by decide +kernel)) rfl
theorem k_856 : Cond.selects R_Md y_Md_circle y_Md_circle ∈ lw_g := lg_mem (List.mem_of_getElem? (i := 885) (by decide +kernel)) rfl
theorem k_858 : Cond.methodLink R_Md 193 y_Md_note ∈ lw_g := lg_mem (List.mem_of_getElem? (i := 887) (by decide +kernel)) rfl
theorem k_860 : Cond.instanceMethod y_Md_note ∈ lw_g := lg_mem (List.mem_of_getElem? (i := 889) (by decide +kernel)) rfl
theorem k_862 : Cond.methodLink R_Md 197 y_Md_before ∈ lw_g := lg_mem (List.mem_of_getElem? (i := 891) (by decide +kernel)) rfl
theorem k_864 : Cond.instanceMethod y_Md_before ∈ lw_g := lg_mem (List.mem_of_getElem? (i := 893) (by decide +kernel)) rfl
theorem k_866 : Cond.methodLink R_Md 190 y_Md_isAlike ∈ lw_g := lg_mem (List.mem_of_getElem? (i := 895) (by decide +kernel)) rfl
theorem k_868 : Cond.instanceMethod y_Md_isAlike ∈ lw_g := lg_mem (List.mem_of_getElem? (i := 897) (by decide +kernel)) rfl
theorem k_870 : Cond.methodLink R_Lw 112 y_Md_race ∈ lw_g := lg_mem (List.mem_of_getElem? (i := 899) (by decide +kernel)) rfl
theorem k_871 : Cond.instanceMethod y_Md_race ∈ lw_g := lg_mem (List.mem_of_getElem? (i := 900) (by decide +kernel)) rfl
theorem k_872 : Cond.selects R_Md y_Md_race y_Md_race ∈ lw_g := lg_mem (List.mem_of_getElem? (i := 901) (by decide +kernel)) rfl
theorem k_874 : Cond.methodLink R_Md 208 y_Md_outcome ∈ lw_g := lg_mem (List.mem_of_getElem? (i := 903) (by decide +kernel)) rfl
theorem k_876 : Cond.instanceMethod y_Md_outcome ∈ lw_g := lg_mem (List.mem_of_getElem? (i := 905) (by decide +kernel)) rfl
theorem k_878 : Cond.methodLink R_Md 200 y_Md_wouldChange ∈ lw_g := lg_mem (List.mem_of_getElem? (i := 907) (by decide +kernel)) rfl
theorem k_880 : Cond.instanceMethod y_Md_wouldChange ∈ lw_g := lg_mem (List.mem_of_getElem? (i := 909) (by decide +kernel)) rfl
theorem k_882 : Cond.methodLink R_Md 203 y_Md_upSet ∈ lw_g := lg_mem (List.mem_of_getElem? (i := 911) (by decide +kernel)) rfl
theorem k_884 : Cond.instanceMethod y_Md_upSet ∈ lw_g := lg_mem (List.mem_of_getElem? (i := 913) (by decide +kernel)) rfl
theorem k_886 : Cond.constant R_Md 207 65536 ∈ lw_g := lg_mem (List.mem_of_getElem? (i := 915) (by decide +kernel)) rfl
theorem k_887 : Cond.methodLink R_Lw 115 y_Md_state ∈ lw_g := lg_mem (List.mem_of_getElem? (i := 916) (by decide +kernel)) rfl
theorem k_888 : Cond.instanceMethod y_Md_state ∈ lw_g := lg_mem (List.mem_of_getElem? (i := 917) (by decide +kernel)) rfl
theorem k_889 : Cond.selects R_Md y_Md_state y_Md_state ∈ lw_g := lg_mem (List.mem_of_getElem? (i := 918) (by decide +kernel)) rfl
theorem k_891 : Cond.methodLink R_Lw 119 y_Md_ups ∈ lw_g := lg_mem (List.mem_of_getElem? (i := 920) (by decide +kernel)) rfl
theorem k_892 : Cond.instanceMethod y_Md_ups ∈ lw_g := lg_mem (List.mem_of_getElem? (i := 921) (by decide +kernel)) rfl
theorem k_893 : Cond.selects R_Md y_Md_ups y_Md_ups ∈ lw_g := lg_mem (List.mem_of_getElem? (i := 922) (by decide +kernel)) rfl
theorem k_895 : Cond.methodLink R_Lw 123 y_Md_lit ∈ lw_g := lg_mem (List.mem_of_getElem? (i := 924) (by decide +kernel)) rfl
theorem k_896 : Cond.instanceMethod y_Md_lit ∈ lw_g := lg_mem (List.mem_of_getElem? (i := 925) (by decide +kernel)) rfl
theorem k_897 : Cond.selects R_Md y_Md_lit y_Md_lit ∈ lw_g := lg_mem (List.mem_of_getElem? (i := 926) (by decide +kernel)) rfl
theorem k_899 : Cond.methodLink R_Lw 126 y_Md_node ∈ lw_g := lg_mem (List.mem_of_getElem? (i := 928) (by decide +kernel)) rfl
theorem k_900 : Cond.instanceMethod y_Md_node ∈ lw_g := lg_mem (List.mem_of_getElem? (i := 929) (by decide +kernel)) rfl
theorem k_901 : Cond.selects R_Md y_Md_node y_Md_node ∈ lw_g := lg_mem (List.mem_of_getElem? (i := 930) (by decide +kernel)) rfl
theorem k_903 : Cond.methodLink R_Lw 129 y_Md_leads ∈ lw_g := lg_mem (List.mem_of_getElem? (i := 932) (by decide +kernel)) rfl
theorem k_904 : Cond.instanceMethod y_Md_leads ∈ lw_g := lg_mem (List.mem_of_getElem? (i := 933) (by decide +kernel)) rfl
theorem k_905 : Cond.selects R_Md y_Md_leads y_Md_leads ∈ lw_g := lg_mem (List.mem_of_getElem? (i := 934) (by decide +kernel)) rfl
theorem k_907 : Cond.methodLink R_Lw 134 y_Md_blown ∈ lw_g := lg_mem (List.mem_of_getElem? (i := 936) (by decide +kernel)) rfl
theorem k_908 : Cond.instanceMethod y_Md_blown ∈ lw_g := lg_mem (List.mem_of_getElem? (i := 937) (by decide +kernel)) rfl
theorem k_909 : Cond.selects R_Md y_Md_blown y_Md_blown ∈ lw_g := lg_mem (List.mem_of_getElem? (i := 938) (by decide +kernel)) rfl
theorem k_911 : Cond.methodLink R_Lw 138 y_Md_fuse ∈ lw_g := lg_mem (List.mem_of_getElem? (i := 940) (by decide +kernel)) rfl
theorem k_912 : Cond.instanceMethod y_Md_fuse ∈ lw_g := lg_mem (List.mem_of_getElem? (i := 941) (by decide +kernel)) rfl
theorem k_913 : Cond.selects R_Md y_Md_fuse y_Md_fuse ∈ lw_g := lg_mem (List.mem_of_getElem? (i := 942) (by decide +kernel)) rfl
theorem k_915 : Cond.methodLink R_Lw 142 y_Md_count ∈ lw_g := lg_mem (List.mem_of_getElem? (i := 944) (by decide +kernel)) rfl
theorem k_916 : Cond.instanceMethod y_Md_count ∈ lw_g := lg_mem (List.mem_of_getElem? (i := 945) (by decide +kernel)) rfl
theorem k_917 : Cond.selects R_Md y_Md_count y_Md_count ∈ lw_g := lg_mem (List.mem_of_getElem? (i := 946) (by decide +kernel)) rfl
theorem k_919 : Cond.sameMethod "java/lang/Throwable" "java/lang/Throwable" "fillInStackTrace" "(I)Ljava/lang/Throwable;" ∈ lw_g := lg_mem (List.mem_of_getElem? (i := 948) (by decide +kernel)) rfl
theorem kp_Fl_isMadeFor : Cond.selects R_Fl y_Fl_isMadeFor y_Fl_isMadeFor ∈ lw_g := lg_mem (List.mem_of_getElem? (i := 0) (by decide +kernel)) rfl
theorem kp_Fl_joinContacts : Cond.selects R_Fl y_Fl_joinContacts y_Fl_joinContacts ∈ lw_g := lg_mem (List.mem_of_getElem? (i := 1) (by decide +kernel)) rfl
theorem kp_Fl_join : Cond.selects R_Fl y_Fl_join y_Fl_join ∈ lw_g := lg_mem (List.mem_of_getElem? (i := 2) (by decide +kernel)) rfl
theorem kp_Fl_joinKnobs : Cond.selects R_Fl y_Fl_joinKnobs y_Fl_joinKnobs ∈ lw_g := lg_mem (List.mem_of_getElem? (i := 3) (by decide +kernel)) rfl
theorem kp_Fl_joinDiodes : Cond.selects R_Fl y_Fl_joinDiodes y_Fl_joinDiodes ∈ lw_g := lg_mem (List.mem_of_getElem? (i := 4) (by decide +kernel)) rfl
theorem kp_Rb_place : Cond.selects R_Rb y_Rb_place y_Rb_place ∈ lw_g := lg_mem (List.mem_of_getElem? (i := 6) (by decide +kernel)) rfl
theorem kp_Sd_put : Cond.selects R_Sd y_Sd_put y_Sd_put ∈ lw_g := lg_mem (List.mem_of_getElem? (i := 7) (by decide +kernel)) rfl
theorem kp_Rb_outcome : Cond.selects R_Rb y_Rb_outcome y_Rb_outcome ∈ lw_g := lg_mem (List.mem_of_getElem? (i := 8) (by decide +kernel)) rfl
theorem kp_Md_lookAtFuse : Cond.selects R_Md y_Md_lookAtFuse y_Md_lookAtFuse ∈ lw_g := lg_mem (List.mem_of_getElem? (i := 9) (by decide +kernel)) rfl
theorem kp_Md_lay : Cond.selects R_Md y_Md_lay y_Md_lay ∈ lw_g := lg_mem (List.mem_of_getElem? (i := 10) (by decide +kernel)) rfl
theorem kp_Md_spread : Cond.selects R_Md y_Md_spread y_Md_spread ∈ lw_g := lg_mem (List.mem_of_getElem? (i := 11) (by decide +kernel)) rfl
theorem kp_Md_conducts : Cond.selects R_Md y_Md_conducts y_Md_conducts ∈ lw_g := lg_mem (List.mem_of_getElem? (i := 12) (by decide +kernel)) rfl
theorem kp_Md_tickOne : Cond.selects R_Md y_Md_tickOne y_Md_tickOne ∈ lw_g := lg_mem (List.mem_of_getElem? (i := 13) (by decide +kernel)) rfl
theorem kp_Md_hasCurrent : Cond.selects R_Md y_Md_hasCurrent y_Md_hasCurrent ∈ lw_g := lg_mem (List.mem_of_getElem? (i := 14) (by decide +kernel)) rfl
theorem kp_Md_move : Cond.selects R_Md y_Md_move y_Md_move ∈ lw_g := lg_mem (List.mem_of_getElem? (i := 15) (by decide +kernel)) rfl
theorem kp_Md_rise : Cond.selects R_Md y_Md_rise y_Md_rise ∈ lw_g := lg_mem (List.mem_of_getElem? (i := 16) (by decide +kernel)) rfl
theorem kp_Md_more : Cond.selects R_Md y_Md_more y_Md_more ∈ lw_g := lg_mem (List.mem_of_getElem? (i := 17) (by decide +kernel)) rfl
theorem kp_Md_hold : Cond.selects R_Md y_Md_hold y_Md_hold ∈ lw_g := lg_mem (List.mem_of_getElem? (i := 18) (by decide +kernel)) rfl
theorem kp_Md_fall : Cond.selects R_Md y_Md_fall y_Md_fall ∈ lw_g := lg_mem (List.mem_of_getElem? (i := 19) (by decide +kernel)) rfl
theorem kp_Md_keep : Cond.selects R_Md y_Md_keep y_Md_keep ∈ lw_g := lg_mem (List.mem_of_getElem? (i := 20) (by decide +kernel)) rfl
theorem kp_Md_run : Cond.selects R_Md y_Md_run y_Md_run ∈ lw_g := lg_mem (List.mem_of_getElem? (i := 21) (by decide +kernel)) rfl
theorem kp_Md_layBack : Cond.selects R_Md y_Md_layBack y_Md_layBack ∈ lw_g := lg_mem (List.mem_of_getElem? (i := 22) (by decide +kernel)) rfl
theorem kp_Md_note : Cond.selects R_Md y_Md_note y_Md_note ∈ lw_g := lg_mem (List.mem_of_getElem? (i := 23) (by decide +kernel)) rfl
theorem kp_Md_before : Cond.selects R_Md y_Md_before y_Md_before ∈ lw_g := lg_mem (List.mem_of_getElem? (i := 24) (by decide +kernel)) rfl
theorem kp_Md_isAlike : Cond.selects R_Md y_Md_isAlike y_Md_isAlike ∈ lw_g := lg_mem (List.mem_of_getElem? (i := 25) (by decide +kernel)) rfl
theorem kp_Md_outcome : Cond.selects R_Md y_Md_outcome y_Md_outcome ∈ lw_g := lg_mem (List.mem_of_getElem? (i := 26) (by decide +kernel)) rfl
theorem kp_Md_wouldChange : Cond.selects R_Md y_Md_wouldChange y_Md_wouldChange ∈ lw_g := lg_mem (List.mem_of_getElem? (i := 27) (by decide +kernel)) rfl
theorem kp_Md_upSet : Cond.selects R_Md y_Md_upSet y_Md_upSet ∈ lw_g := lg_mem (List.mem_of_getElem? (i := 28) (by decide +kernel)) rfl
theorem f_Pa_7 : xm_Fl R_Pa 7 0 0 := ⟨R_Pa, F_Pa, 3, t_Pa, rfl, by decide, i_Pa, t_Pa_ok, n_Pa, Or.inl k_39⟩
theorem f_Fl_85 : xm_Fl R_Fl 85 0 0 := ⟨R_Pa, F_Pa, 3, t_Pa, rfl, by decide, i_Pa, t_Pa_ok, n_Pa, Or.inr ⟨_, k_40⟩⟩
theorem f_Pa_13 : xm_Fl R_Pa 13 0 1 := ⟨R_Pa, F_Pa, 3, t_Pa, rfl, by decide, i_Pa, t_Pa_ok, n_Pa, Or.inl k_41⟩
theorem f_Fl_89 : xm_Fl R_Fl 89 0 1 := ⟨R_Pa, F_Pa, 3, t_Pa, rfl, by decide, i_Pa, t_Pa_ok, n_Pa, Or.inr ⟨_, k_42⟩⟩
theorem f_Pa_16 : xm_Fl R_Pa 16 0 2 := ⟨R_Pa, F_Pa, 3, t_Pa, rfl, by decide, i_Pa, t_Pa_ok, n_Pa, Or.inl k_43⟩
theorem f_Bo_49 : xm_Fl R_Bo 49 0 2 := ⟨R_Pa, F_Pa, 3, t_Pa, rfl, by decide, i_Pa, t_Pa_ok, n_Pa, Or.inr ⟨_, k_44⟩⟩
theorem f_Mo_56 : xm_Fl R_Mo 56 0 2 := ⟨R_Pa, F_Pa, 3, t_Pa, rfl, by decide, i_Pa, t_Pa_ok, n_Pa, Or.inr ⟨_, k_45⟩⟩
theorem f_Fl_80 : xm_Fl R_Fl 80 0 2 := ⟨R_Pa, F_Pa, 3, t_Pa, rfl, by decide, i_Pa, t_Pa_ok, n_Pa, Or.inr ⟨_, k_46⟩⟩
theorem f_Rb_101 : xm_Fl R_Rb 101 0 2 := ⟨R_Pa, F_Pa, 3, t_Pa, rfl, by decide, i_Pa, t_Pa_ok, n_Pa, Or.inr ⟨_, k_47⟩⟩
theorem f_Bo_14 : xm_Fl R_Bo 14 1 0 := ⟨R_Bo, F_Bo, 9, t_Bo, rfl, by decide, i_Bo, t_Bo_ok, n_Bo, Or.inl k_56⟩
theorem f_Rb_54 : xm_Fl R_Rb 54 1 0 := ⟨R_Bo, F_Bo, 9, t_Bo, rfl, by decide, i_Bo, t_Bo_ok, n_Bo, Or.inr ⟨_, k_57⟩⟩
theorem f_Mo_46 : xm_Fl R_Mo 46 1 0 := ⟨R_Bo, F_Bo, 9, t_Bo, rfl, by decide, i_Bo, t_Bo_ok, n_Bo, Or.inr ⟨_, k_58⟩⟩
theorem f_Bo_20 : xm_Fl R_Bo 20 1 1 := ⟨R_Bo, F_Bo, 9, t_Bo, rfl, by decide, i_Bo, t_Bo_ok, n_Bo, Or.inl k_59⟩
theorem f_Rb_78 : xm_Fl R_Rb 78 1 1 := ⟨R_Bo, F_Bo, 9, t_Bo, rfl, by decide, i_Bo, t_Bo_ok, n_Bo, Or.inr ⟨_, k_60⟩⟩
theorem f_Fl_99 : xm_Fl R_Fl 99 1 1 := ⟨R_Bo, F_Bo, 9, t_Bo, rfl, by decide, i_Bo, t_Bo_ok, n_Bo, Or.inr ⟨_, k_61⟩⟩
theorem f_Bo_23 : xm_Fl R_Bo 23 1 2 := ⟨R_Bo, F_Bo, 9, t_Bo, rfl, by decide, i_Bo, t_Bo_ok, n_Bo, Or.inl k_62⟩
theorem f_Rb_84 : xm_Fl R_Rb 84 1 2 := ⟨R_Bo, F_Bo, 9, t_Bo, rfl, by decide, i_Bo, t_Bo_ok, n_Bo, Or.inr ⟨_, k_63⟩⟩
theorem f_Fl_121 : xm_Fl R_Fl 121 1 2 := ⟨R_Bo, F_Bo, 9, t_Bo, rfl, by decide, i_Bo, t_Bo_ok, n_Bo, Or.inr ⟨_, k_64⟩⟩
theorem f_Bo_26 : xm_Fl R_Bo 26 1 3 := ⟨R_Bo, F_Bo, 9, t_Bo, rfl, by decide, i_Bo, t_Bo_ok, n_Bo, Or.inl k_65⟩
theorem f_Rb_91 : xm_Fl R_Rb 91 1 3 := ⟨R_Bo, F_Bo, 9, t_Bo, rfl, by decide, i_Bo, t_Bo_ok, n_Bo, Or.inr ⟨_, k_66⟩⟩
theorem f_Fl_124 : xm_Fl R_Fl 124 1 3 := ⟨R_Bo, F_Bo, 9, t_Bo, rfl, by decide, i_Bo, t_Bo_ok, n_Bo, Or.inr ⟨_, k_67⟩⟩
theorem f_Bo_29 : xm_Fl R_Bo 29 1 4 := ⟨R_Bo, F_Bo, 9, t_Bo, rfl, by decide, i_Bo, t_Bo_ok, n_Bo, Or.inl k_68⟩
theorem f_Rb_94 : xm_Fl R_Rb 94 1 4 := ⟨R_Bo, F_Bo, 9, t_Bo, rfl, by decide, i_Bo, t_Bo_ok, n_Bo, Or.inr ⟨_, k_69⟩⟩
theorem f_Bo_32 : xm_Fl R_Bo 32 1 5 := ⟨R_Bo, F_Bo, 9, t_Bo, rfl, by decide, i_Bo, t_Bo_ok, n_Bo, Or.inl k_70⟩
theorem f_Mo_66 : xm_Fl R_Mo 66 1 5 := ⟨R_Bo, F_Bo, 9, t_Bo, rfl, by decide, i_Bo, t_Bo_ok, n_Bo, Or.inr ⟨_, k_71⟩⟩
theorem f_Bo_36 : xm_Fl R_Bo 36 1 6 := ⟨R_Bo, F_Bo, 9, t_Bo, rfl, by decide, i_Bo, t_Bo_ok, n_Bo, Or.inl k_72⟩
theorem f_Mo_73 : xm_Fl R_Mo 73 1 6 := ⟨R_Bo, F_Bo, 9, t_Bo, rfl, by decide, i_Bo, t_Bo_ok, n_Bo, Or.inr ⟨_, k_73⟩⟩
theorem f_Bo_39 : xm_Fl R_Bo 39 1 7 := ⟨R_Bo, F_Bo, 9, t_Bo, rfl, by decide, i_Bo, t_Bo_ok, n_Bo, Or.inl k_74⟩
theorem f_Fl_103 : xm_Fl R_Fl 103 1 7 := ⟨R_Bo, F_Bo, 9, t_Bo, rfl, by decide, i_Bo, t_Bo_ok, n_Bo, Or.inr ⟨_, k_75⟩⟩
theorem f_Bo_42 : xm_Fl R_Bo 42 1 8 := ⟨R_Bo, F_Bo, 9, t_Bo, rfl, by decide, i_Bo, t_Bo_ok, n_Bo, Or.inl k_76⟩
theorem f_Fl_110 : xm_Fl R_Fl 110 1 8 := ⟨R_Bo, F_Bo, 9, t_Bo, rfl, by decide, i_Bo, t_Bo_ok, n_Bo, Or.inr ⟨_, k_77⟩⟩
theorem f_Sd_9 : xm_Fl R_Sd 9 2 0 := ⟨R_Sd, F_Sd, 7, t_Sd, rfl, by decide, i_Sd, t_Sd_ok, n_Sd, Or.inl k_103⟩
theorem f_Hi_36 : xm_Fl R_Hi 36 2 0 := ⟨R_Sd, F_Sd, 7, t_Sd, rfl, by decide, i_Sd, t_Sd_ok, n_Sd, Or.inr ⟨_, k_104⟩⟩
theorem f_Rb_148 : xm_Fl R_Rb 148 2 0 := ⟨R_Sd, F_Sd, 7, t_Sd, rfl, by decide, i_Sd, t_Sd_ok, n_Sd, Or.inr ⟨_, k_105⟩⟩
theorem f_Sd_15 : xm_Fl R_Sd 15 2 1 := ⟨R_Sd, F_Sd, 7, t_Sd, rfl, by decide, i_Sd, t_Sd_ok, n_Sd, Or.inl k_106⟩
theorem f_Hi_40 : xm_Fl R_Hi 40 2 1 := ⟨R_Sd, F_Sd, 7, t_Sd, rfl, by decide, i_Sd, t_Sd_ok, n_Sd, Or.inr ⟨_, k_107⟩⟩
theorem f_Rb_152 : xm_Fl R_Rb 152 2 1 := ⟨R_Sd, F_Sd, 7, t_Sd, rfl, by decide, i_Sd, t_Sd_ok, n_Sd, Or.inr ⟨_, k_108⟩⟩
theorem f_Sd_18 : xm_Fl R_Sd 18 2 2 := ⟨R_Sd, F_Sd, 7, t_Sd, rfl, by decide, i_Sd, t_Sd_ok, n_Sd, Or.inl k_109⟩
theorem f_Rb_159 : xm_Fl R_Rb 159 2 2 := ⟨R_Sd, F_Sd, 7, t_Sd, rfl, by decide, i_Sd, t_Sd_ok, n_Sd, Or.inr ⟨_, k_110⟩⟩
theorem f_Sd_21 : xm_Fl R_Sd 21 2 3 := ⟨R_Sd, F_Sd, 7, t_Sd, rfl, by decide, i_Sd, t_Sd_ok, n_Sd, Or.inl k_111⟩
theorem f_Fl_55 : xm_Fl R_Fl 55 2 3 := ⟨R_Sd, F_Sd, 7, t_Sd, rfl, by decide, i_Sd, t_Sd_ok, n_Sd, Or.inr ⟨_, k_112⟩⟩
theorem f_Rb_167 : xm_Fl R_Rb 167 2 3 := ⟨R_Sd, F_Sd, 7, t_Sd, rfl, by decide, i_Sd, t_Sd_ok, n_Sd, Or.inr ⟨_, k_113⟩⟩
theorem f_Sd_25 : xm_Fl R_Sd 25 2 4 := ⟨R_Sd, F_Sd, 7, t_Sd, rfl, by decide, i_Sd, t_Sd_ok, n_Sd, Or.inl k_114⟩
theorem f_Fl_60 : xm_Fl R_Fl 60 2 4 := ⟨R_Sd, F_Sd, 7, t_Sd, rfl, by decide, i_Sd, t_Sd_ok, n_Sd, Or.inr ⟨_, k_115⟩⟩
theorem f_Sd_28 : xm_Fl R_Sd 28 2 5 := ⟨R_Sd, F_Sd, 7, t_Sd, rfl, by decide, i_Sd, t_Sd_ok, n_Sd, Or.inl k_116⟩
theorem f_Fl_63 : xm_Fl R_Fl 63 2 5 := ⟨R_Sd, F_Sd, 7, t_Sd, rfl, by decide, i_Sd, t_Sd_ok, n_Sd, Or.inr ⟨_, k_117⟩⟩
theorem f_Sd_31 : xm_Fl R_Sd 31 2 6 := ⟨R_Sd, F_Sd, 7, t_Sd, rfl, by decide, i_Sd, t_Sd_ok, n_Sd, Or.inl k_118⟩
theorem f_Mo_28 : xm_Fl R_Mo 28 2 6 := ⟨R_Sd, F_Sd, 7, t_Sd, rfl, by decide, i_Sd, t_Sd_ok, n_Sd, Or.inr ⟨_, k_119⟩⟩
theorem f_Hi_30 : xm_Fl R_Hi 30 2 6 := ⟨R_Sd, F_Sd, 7, t_Sd, rfl, by decide, i_Sd, t_Sd_ok, n_Sd, Or.inr ⟨_, k_120⟩⟩
theorem f_Rb_189 : xm_Fl R_Rb 189 2 6 := ⟨R_Sd, F_Sd, 7, t_Sd, rfl, by decide, i_Sd, t_Sd_ok, n_Sd, Or.inr ⟨_, k_121⟩⟩
theorem f_Fl_41 : xm_Fl R_Fl 41 3 0 := ⟨R_Fl, F_Fl, 10, t_Fl, rfl, by decide, i_Fl, t_Fl_ok, n_Fl, Or.inl k_149⟩
theorem f_Fl_9 : xm_Fl R_Fl 9 3 1 := ⟨R_Fl, F_Fl, 10, t_Fl, rfl, by decide, i_Fl, t_Fl_ok, n_Fl, Or.inl k_150⟩
theorem f_Fl_15 : xm_Fl R_Fl 15 3 2 := ⟨R_Fl, F_Fl, 10, t_Fl, rfl, by decide, i_Fl, t_Fl_ok, n_Fl, Or.inl k_151⟩
theorem f_Fl_18 : xm_Fl R_Fl 18 3 3 := ⟨R_Fl, F_Fl, 10, t_Fl, rfl, by decide, i_Fl, t_Fl_ok, n_Fl, Or.inl k_152⟩
theorem f_Fl_22 : xm_Fl R_Fl 22 3 4 := ⟨R_Fl, F_Fl, 10, t_Fl, rfl, by decide, i_Fl, t_Fl_ok, n_Fl, Or.inl k_153⟩
theorem f_Fl_25 : xm_Fl R_Fl 25 3 5 := ⟨R_Fl, F_Fl, 10, t_Fl, rfl, by decide, i_Fl, t_Fl_ok, n_Fl, Or.inl k_154⟩
theorem f_Rb_193 : xm_Fl R_Rb 193 3 5 := ⟨R_Fl, F_Fl, 10, t_Fl, rfl, by decide, i_Fl, t_Fl_ok, n_Fl, Or.inr ⟨_, k_155⟩⟩
theorem f_Fl_29 : xm_Fl R_Fl 29 3 6 := ⟨R_Fl, F_Fl, 10, t_Fl, rfl, by decide, i_Fl, t_Fl_ok, n_Fl, Or.inl k_156⟩
theorem f_Fl_32 : xm_Fl R_Fl 32 3 7 := ⟨R_Fl, F_Fl, 10, t_Fl, rfl, by decide, i_Fl, t_Fl_ok, n_Fl, Or.inl k_157⟩
theorem f_Fl_35 : xm_Fl R_Fl 35 3 8 := ⟨R_Fl, F_Fl, 10, t_Fl, rfl, by decide, i_Fl, t_Fl_ok, n_Fl, Or.inl k_158⟩
theorem f_Fl_38 : xm_Fl R_Fl 38 3 9 := ⟨R_Fl, F_Fl, 10, t_Fl, rfl, by decide, i_Fl, t_Fl_ok, n_Fl, Or.inl k_159⟩
theorem f_Mo_9 : xm_Fl R_Mo 9 4 0 := ⟨R_Mo, F_Mo, 2, t_Mo, rfl, by decide, i_Mo, t_Mo_ok, n_Mo, Or.inl k_182⟩
theorem f_Mo_20 : xm_Fl R_Mo 20 4 1 := ⟨R_Mo, F_Mo, 2, t_Mo, rfl, by decide, i_Mo, t_Mo_ok, n_Mo, Or.inl k_183⟩
theorem f_Hi_9 : xm_Fl R_Hi 9 5 0 := ⟨R_Hi, F_Hi, 3, t_Hi, rfl, by decide, i_Hi, t_Hi_ok, n_Hi, Or.inl k_195⟩
theorem f_Hi_15 : xm_Fl R_Hi 15 5 1 := ⟨R_Hi, F_Hi, 3, t_Hi, rfl, by decide, i_Hi, t_Hi_ok, n_Hi, Or.inl k_196⟩
theorem f_Hi_18 : xm_Fl R_Hi 18 5 2 := ⟨R_Hi, F_Hi, 3, t_Hi, rfl, by decide, i_Hi, t_Hi_ok, n_Hi, Or.inl k_197⟩
theorem f_Rb_10 : xm_Fl R_Rb 10 6 0 := ⟨R_Rb, F_Rb, 6, t_Rb, rfl, by decide, i_Rb, t_Rb_ok, n_Rb, Or.inl k_205⟩
theorem f_Rb_19 : xm_Fl R_Rb 19 6 1 := ⟨R_Rb, F_Rb, 6, t_Rb, rfl, by decide, i_Rb, t_Rb_ok, n_Rb, Or.inl k_206⟩
theorem f_Rb_23 : xm_Fl R_Rb 23 6 2 := ⟨R_Rb, F_Rb, 6, t_Rb, rfl, by decide, i_Rb, t_Rb_ok, n_Rb, Or.inl k_207⟩
theorem f_Rb_31 : xm_Fl R_Rb 31 6 3 := ⟨R_Rb, F_Rb, 6, t_Rb, rfl, by decide, i_Rb, t_Rb_ok, n_Rb, Or.inl k_208⟩
theorem f_Rb_38 : xm_Fl R_Rb 38 6 4 := ⟨R_Rb, F_Rb, 6, t_Rb, rfl, by decide, i_Rb, t_Rb_ok, n_Rb, Or.inl k_209⟩
theorem f_Rb_42 : xm_Fl R_Rb 42 6 5 := ⟨R_Rb, F_Rb, 6, t_Rb, rfl, by decide, i_Rb, t_Rb_ok, n_Rb, Or.inl k_210⟩
theorem f_Md_92 : xm_Fl R_Md 92 7 0 := ⟨R_Md, F_Md, 38, t_Md, rfl, by decide, i_Md, t_Md_ok, n_Md, Or.inl k_630⟩
theorem f_Md_108 : xm_Fl R_Md 108 7 1 := ⟨R_Md, F_Md, 38, t_Md, rfl, by decide, i_Md, t_Md_ok, n_Md, Or.inl k_631⟩
theorem f_Md_114 : xm_Fl R_Md 114 7 2 := ⟨R_Md, F_Md, 38, t_Md, rfl, by decide, i_Md, t_Md_ok, n_Md, Or.inl k_632⟩
theorem f_Md_117 : xm_Fl R_Md 117 7 3 := ⟨R_Md, F_Md, 38, t_Md, rfl, by decide, i_Md, t_Md_ok, n_Md, Or.inl k_633⟩
theorem f_Md_120 : xm_Fl R_Md 120 7 4 := ⟨R_Md, F_Md, 38, t_Md, rfl, by decide, i_Md, t_Md_ok, n_Md, Or.inl k_634⟩
theorem f_Md_123 : xm_Fl R_Md 123 7 5 := ⟨R_Md, F_Md, 38, t_Md, rfl, by decide, i_Md, t_Md_ok, n_Md, Or.inl k_635⟩
theorem f_Md_171 : xm_Fl R_Md 171 7 6 := ⟨R_Md, F_Md, 38, t_Md, rfl, by decide, i_Md, t_Md_ok, n_Md, Or.inl k_636⟩
theorem f_Md_7 : xm_Fl R_Md 7 7 7 := ⟨R_Md, F_Md, 38, t_Md, rfl, by decide, i_Md, t_Md_ok, n_Md, Or.inl k_637⟩
theorem f_Md_13 : xm_Fl R_Md 13 7 8 := ⟨R_Md, F_Md, 38, t_Md, rfl, by decide, i_Md, t_Md_ok, n_Md, Or.inl k_638⟩
theorem f_Md_16 : xm_Fl R_Md 16 7 9 := ⟨R_Md, F_Md, 38, t_Md, rfl, by decide, i_Md, t_Md_ok, n_Md, Or.inl k_639⟩
theorem f_Md_19 : xm_Fl R_Md 19 7 10 := ⟨R_Md, F_Md, 38, t_Md, rfl, by decide, i_Md, t_Md_ok, n_Md, Or.inl k_640⟩
theorem f_Md_22 : xm_Fl R_Md 22 7 11 := ⟨R_Md, F_Md, 38, t_Md, rfl, by decide, i_Md, t_Md_ok, n_Md, Or.inl k_641⟩
theorem f_Md_25 : xm_Fl R_Md 25 7 12 := ⟨R_Md, F_Md, 38, t_Md, rfl, by decide, i_Md, t_Md_ok, n_Md, Or.inl k_642⟩
theorem f_Md_28 : xm_Fl R_Md 28 7 13 := ⟨R_Md, F_Md, 38, t_Md, rfl, by decide, i_Md, t_Md_ok, n_Md, Or.inl k_643⟩
theorem f_Md_137 : xm_Fl R_Md 137 7 14 := ⟨R_Md, F_Md, 38, t_Md, rfl, by decide, i_Md, t_Md_ok, n_Md, Or.inl k_644⟩
theorem f_Md_31 : xm_Fl R_Md 31 7 15 := ⟨R_Md, F_Md, 38, t_Md, rfl, by decide, i_Md, t_Md_ok, n_Md, Or.inl k_645⟩
theorem f_Md_34 : xm_Fl R_Md 34 7 16 := ⟨R_Md, F_Md, 38, t_Md, rfl, by decide, i_Md, t_Md_ok, n_Md, Or.inl k_646⟩
theorem f_Md_37 : xm_Fl R_Md 37 7 17 := ⟨R_Md, F_Md, 38, t_Md, rfl, by decide, i_Md, t_Md_ok, n_Md, Or.inl k_647⟩
theorem f_Md_40 : xm_Fl R_Md 40 7 18 := ⟨R_Md, F_Md, 38, t_Md, rfl, by decide, i_Md, t_Md_ok, n_Md, Or.inl k_648⟩
theorem f_Md_43 : xm_Fl R_Md 43 7 19 := ⟨R_Md, F_Md, 38, t_Md, rfl, by decide, i_Md, t_Md_ok, n_Md, Or.inl k_649⟩
theorem f_Md_46 : xm_Fl R_Md 46 7 20 := ⟨R_Md, F_Md, 38, t_Md, rfl, by decide, i_Md, t_Md_ok, n_Md, Or.inl k_650⟩
theorem f_Md_49 : xm_Fl R_Md 49 7 21 := ⟨R_Md, F_Md, 38, t_Md, rfl, by decide, i_Md, t_Md_ok, n_Md, Or.inl k_651⟩
theorem f_Md_53 : xm_Fl R_Md 53 7 22 := ⟨R_Md, F_Md, 38, t_Md, rfl, by decide, i_Md, t_Md_ok, n_Md, Or.inl k_652⟩
theorem f_Md_56 : xm_Fl R_Md 56 7 23 := ⟨R_Md, F_Md, 38, t_Md, rfl, by decide, i_Md, t_Md_ok, n_Md, Or.inl k_653⟩
theorem f_Md_59 : xm_Fl R_Md 59 7 24 := ⟨R_Md, F_Md, 38, t_Md, rfl, by decide, i_Md, t_Md_ok, n_Md, Or.inl k_654⟩
theorem f_Md_62 : xm_Fl R_Md 62 7 25 := ⟨R_Md, F_Md, 38, t_Md, rfl, by decide, i_Md, t_Md_ok, n_Md, Or.inl k_655⟩
theorem f_Md_144 : xm_Fl R_Md 144 7 26 := ⟨R_Md, F_Md, 38, t_Md, rfl, by decide, i_Md, t_Md_ok, n_Md, Or.inl k_656⟩
theorem f_Md_65 : xm_Fl R_Md 65 7 27 := ⟨R_Md, F_Md, 38, t_Md, rfl, by decide, i_Md, t_Md_ok, n_Md, Or.inl k_657⟩
theorem f_Md_68 : xm_Fl R_Md 68 7 28 := ⟨R_Md, F_Md, 38, t_Md, rfl, by decide, i_Md, t_Md_ok, n_Md, Or.inl k_658⟩
theorem f_Md_71 : xm_Fl R_Md 71 7 29 := ⟨R_Md, F_Md, 38, t_Md, rfl, by decide, i_Md, t_Md_ok, n_Md, Or.inl k_659⟩
theorem f_Md_74 : xm_Fl R_Md 74 7 30 := ⟨R_Md, F_Md, 38, t_Md, rfl, by decide, i_Md, t_Md_ok, n_Md, Or.inl k_660⟩
theorem f_Md_77 : xm_Fl R_Md 77 7 31 := ⟨R_Md, F_Md, 38, t_Md, rfl, by decide, i_Md, t_Md_ok, n_Md, Or.inl k_661⟩
theorem f_Md_168 : xm_Fl R_Md 168 7 32 := ⟨R_Md, F_Md, 38, t_Md, rfl, by decide, i_Md, t_Md_ok, n_Md, Or.inl k_662⟩
theorem f_Md_174 : xm_Fl R_Md 174 7 33 := ⟨R_Md, F_Md, 38, t_Md, rfl, by decide, i_Md, t_Md_ok, n_Md, Or.inl k_663⟩
theorem f_Md_80 : xm_Fl R_Md 80 7 34 := ⟨R_Md, F_Md, 38, t_Md, rfl, by decide, i_Md, t_Md_ok, n_Md, Or.inl k_664⟩
theorem f_Md_83 : xm_Fl R_Md 83 7 35 := ⟨R_Md, F_Md, 38, t_Md, rfl, by decide, i_Md, t_Md_ok, n_Md, Or.inl k_665⟩
theorem f_Md_86 : xm_Fl R_Md 86 7 36 := ⟨R_Md, F_Md, 38, t_Md, rfl, by decide, i_Md, t_Md_ok, n_Md, Or.inl k_666⟩
theorem f_Md_89 : xm_Fl R_Md 89 7 37 := ⟨R_Md, F_Md, 38, t_Md, rfl, by decide, i_Md, t_Md_ok, n_Md, Or.inl k_667⟩
theorem ty_Pa_0 : xm_ty 0 0 (.array .int) true := fun CN T N h => by
  have h2 : some (R_Pa, F_Pa, 3) = some (CN, T, N) := h
  cases h2
  exact ⟨t_Pa_ok 0 (by decide), rfl⟩
theorem ty_Pa_1 : xm_ty 0 1 (.array .int) true := fun CN T N h => by
  have h2 : some (R_Pa, F_Pa, 3) = some (CN, T, N) := h
  cases h2
  exact ⟨t_Pa_ok 1 (by decide), rfl⟩
theorem ty_Pa_2 : xm_ty 0 2 (.int) false := fun CN T N h => by
  have h2 : some (R_Pa, F_Pa, 3) = some (CN, T, N) := h
  cases h2
  exact ⟨t_Pa_ok 2 (by decide), rfl⟩
theorem ty_Bo_0 : xm_ty 1 0 (.object "RelayBench$Pairs") true := fun CN T N h => by
  have h2 : some (R_Bo, F_Bo, 9) = some (CN, T, N) := h
  cases h2
  exact ⟨t_Bo_ok 0 (by decide), rfl⟩
theorem ty_Bo_1 : xm_ty 1 1 (.object "RelayBench$Pairs") true := fun CN T N h => by
  have h2 : some (R_Bo, F_Bo, 9) = some (CN, T, N) := h
  cases h2
  exact ⟨t_Bo_ok 1 (by decide), rfl⟩
theorem ty_Bo_2 : xm_ty 1 2 (.object "RelayBench$Pairs") true := fun CN T N h => by
  have h2 : some (R_Bo, F_Bo, 9) = some (CN, T, N) := h
  cases h2
  exact ⟨t_Bo_ok 2 (by decide), rfl⟩
theorem ty_Bo_3 : xm_ty 1 3 (.object "RelayBench$Pairs") true := fun CN T N h => by
  have h2 : some (R_Bo, F_Bo, 9) = some (CN, T, N) := h
  cases h2
  exact ⟨t_Bo_ok 3 (by decide), rfl⟩
theorem ty_Bo_4 : xm_ty 1 4 (.object "RelayBench$Pairs") true := fun CN T N h => by
  have h2 : some (R_Bo, F_Bo, 9) = some (CN, T, N) := h
  cases h2
  exact ⟨t_Bo_ok 4 (by decide), rfl⟩
theorem ty_Bo_5 : xm_ty 1 5 (.array .int) true := fun CN T N h => by
  have h2 : some (R_Bo, F_Bo, 9) = some (CN, T, N) := h
  cases h2
  exact ⟨t_Bo_ok 5 (by decide), rfl⟩
theorem ty_Bo_6 : xm_ty 1 6 (.array .int) true := fun CN T N h => by
  have h2 : some (R_Bo, F_Bo, 9) = some (CN, T, N) := h
  cases h2
  exact ⟨t_Bo_ok 6 (by decide), rfl⟩
theorem ty_Bo_7 : xm_ty 1 7 (.array .int) true := fun CN T N h => by
  have h2 : some (R_Bo, F_Bo, 9) = some (CN, T, N) := h
  cases h2
  exact ⟨t_Bo_ok 7 (by decide), rfl⟩
theorem ty_Bo_8 : xm_ty 1 8 (.array .int) true := fun CN T N h => by
  have h2 : some (R_Bo, F_Bo, 9) = some (CN, T, N) := h
  cases h2
  exact ⟨t_Bo_ok 8 (by decide), rfl⟩
theorem ty_Sd_0 : xm_ty 2 0 (.array .int) true := fun CN T N h => by
  have h2 : some (R_Sd, F_Sd, 7) = some (CN, T, N) := h
  cases h2
  exact ⟨t_Sd_ok 0 (by decide), rfl⟩
theorem ty_Sd_1 : xm_ty 2 1 (.array .int) true := fun CN T N h => by
  have h2 : some (R_Sd, F_Sd, 7) = some (CN, T, N) := h
  cases h2
  exact ⟨t_Sd_ok 1 (by decide), rfl⟩
theorem ty_Sd_2 : xm_ty 2 2 (.array .int) true := fun CN T N h => by
  have h2 : some (R_Sd, F_Sd, 7) = some (CN, T, N) := h
  cases h2
  exact ⟨t_Sd_ok 2 (by decide), rfl⟩
theorem ty_Sd_3 : xm_ty 2 3 (.int) false := fun CN T N h => by
  have h2 : some (R_Sd, F_Sd, 7) = some (CN, T, N) := h
  cases h2
  exact ⟨t_Sd_ok 3 (by decide), rfl⟩
theorem ty_Sd_4 : xm_ty 2 4 (.int) false := fun CN T N h => by
  have h2 : some (R_Sd, F_Sd, 7) = some (CN, T, N) := h
  cases h2
  exact ⟨t_Sd_ok 4 (by decide), rfl⟩
theorem ty_Sd_5 : xm_ty 2 5 (.int) false := fun CN T N h => by
  have h2 : some (R_Sd, F_Sd, 7) = some (CN, T, N) := h
  cases h2
  exact ⟨t_Sd_ok 5 (by decide), rfl⟩
theorem ty_Sd_6 : xm_ty 2 6 (.boolean) false := fun CN T N h => by
  have h2 : some (R_Sd, F_Sd, 7) = some (CN, T, N) := h
  cases h2
  exact ⟨t_Sd_ok 6 (by decide), rfl⟩
theorem ty_Fl_0 : xm_ty 3 0 (.object "RelayBench$Board") true := fun CN T N h => by
  have h2 : some (R_Fl, F_Fl, 10) = some (CN, T, N) := h
  cases h2
  exact ⟨t_Fl_ok 0 (by decide), rfl⟩
theorem ty_Fl_1 : xm_ty 3 1 (.array .long) true := fun CN T N h => by
  have h2 : some (R_Fl, F_Fl, 10) = some (CN, T, N) := h
  cases h2
  exact ⟨t_Fl_ok 1 (by decide), rfl⟩
theorem ty_Fl_2 : xm_ty 3 2 (.array .long) true := fun CN T N h => by
  have h2 : some (R_Fl, F_Fl, 10) = some (CN, T, N) := h
  cases h2
  exact ⟨t_Fl_ok 2 (by decide), rfl⟩
theorem ty_Fl_3 : xm_ty 3 3 (.long) false := fun CN T N h => by
  have h2 : some (R_Fl, F_Fl, 10) = some (CN, T, N) := h
  cases h2
  exact ⟨t_Fl_ok 3 (by decide), rfl⟩
theorem ty_Fl_4 : xm_ty 3 4 (.long) false := fun CN T N h => by
  have h2 : some (R_Fl, F_Fl, 10) = some (CN, T, N) := h
  cases h2
  exact ⟨t_Fl_ok 4 (by decide), rfl⟩
theorem ty_Fl_5 : xm_ty 3 5 (.int) false := fun CN T N h => by
  have h2 : some (R_Fl, F_Fl, 10) = some (CN, T, N) := h
  cases h2
  exact ⟨t_Fl_ok 5 (by decide), rfl⟩
theorem ty_Fl_6 : xm_ty 3 6 (.int) false := fun CN T N h => by
  have h2 : some (R_Fl, F_Fl, 10) = some (CN, T, N) := h
  cases h2
  exact ⟨t_Fl_ok 6 (by decide), rfl⟩
theorem ty_Fl_7 : xm_ty 3 7 (.int) false := fun CN T N h => by
  have h2 : some (R_Fl, F_Fl, 10) = some (CN, T, N) := h
  cases h2
  exact ⟨t_Fl_ok 7 (by decide), rfl⟩
theorem ty_Fl_8 : xm_ty 3 8 (.int) false := fun CN T N h => by
  have h2 : some (R_Fl, F_Fl, 10) = some (CN, T, N) := h
  cases h2
  exact ⟨t_Fl_ok 8 (by decide), rfl⟩
theorem ty_Fl_9 : xm_ty 3 9 (.int) false := fun CN T N h => by
  have h2 : some (R_Fl, F_Fl, 10) = some (CN, T, N) := h
  cases h2
  exact ⟨t_Fl_ok 9 (by decide), rfl⟩
theorem ty_Mo_0 : xm_ty 4 0 (.object "RelayBench$Board") true := fun CN T N h => by
  have h2 : some (R_Mo, F_Mo, 2) = some (CN, T, N) := h
  cases h2
  exact ⟨t_Mo_ok 0 (by decide), rfl⟩
theorem ty_Mo_1 : xm_ty 4 1 (.object "RelayBench$Flow") true := fun CN T N h => by
  have h2 : some (R_Mo, F_Mo, 2) = some (CN, T, N) := h
  cases h2
  exact ⟨t_Mo_ok 1 (by decide), rfl⟩
theorem ty_Hi_0 : xm_ty 5 0 (.array .long) true := fun CN T N h => by
  have h2 : some (R_Hi, F_Hi, 3) = some (CN, T, N) := h
  cases h2
  exact ⟨t_Hi_ok 0 (by decide), rfl⟩
theorem ty_Hi_1 : xm_ty 5 1 (.array .long) true := fun CN T N h => by
  have h2 : some (R_Hi, F_Hi, 3) = some (CN, T, N) := h
  cases h2
  exact ⟨t_Hi_ok 1 (by decide), rfl⟩
theorem ty_Hi_2 : xm_ty 5 2 (.int) false := fun CN T N h => by
  have h2 : some (R_Hi, F_Hi, 3) = some (CN, T, N) := h
  cases h2
  exact ⟨t_Hi_ok 2 (by decide), rfl⟩
theorem ty_Rb_0 : xm_ty 6 0 (.object "RelayBench$Board") true := fun CN T N h => by
  have h2 : some (R_Rb, F_Rb, 6) = some (CN, T, N) := h
  cases h2
  exact ⟨t_Rb_ok 0 (by decide), rfl⟩
theorem ty_Rb_1 : xm_ty 6 1 (.object "RelayBench$Stand") true := fun CN T N h => by
  have h2 : some (R_Rb, F_Rb, 6) = some (CN, T, N) := h
  cases h2
  exact ⟨t_Rb_ok 1 (by decide), rfl⟩
theorem ty_Rb_2 : xm_ty 6 2 (.object "RelayBench$Stand") true := fun CN T N h => by
  have h2 : some (R_Rb, F_Rb, 6) = some (CN, T, N) := h
  cases h2
  exact ⟨t_Rb_ok 2 (by decide), rfl⟩
theorem ty_Rb_3 : xm_ty 6 3 (.object "RelayBench$Motion") true := fun CN T N h => by
  have h2 : some (R_Rb, F_Rb, 6) = some (CN, T, N) := h
  cases h2
  exact ⟨t_Rb_ok 3 (by decide), rfl⟩
theorem ty_Rb_4 : xm_ty 6 4 (.object "RelayBench$History") true := fun CN T N h => by
  have h2 : some (R_Rb, F_Rb, 6) = some (CN, T, N) := h
  cases h2
  exact ⟨t_Rb_ok 4 (by decide), rfl⟩
theorem ty_Rb_5 : xm_ty 6 5 (.int) false := fun CN T N h => by
  have h2 : some (R_Rb, F_Rb, 6) = some (CN, T, N) := h
  cases h2
  exact ⟨t_Rb_ok 5 (by decide), rfl⟩
theorem ty_Md_0 : xm_ty 7 0 (.int) false := fun CN T N h => by
  have h2 : some (R_Md, F_Md, 38) = some (CN, T, N) := h
  cases h2
  exact ⟨t_Md_ok 0 (by decide), rfl⟩
theorem ty_Md_1 : xm_ty 7 1 (.int) false := fun CN T N h => by
  have h2 : some (R_Md, F_Md, 38) = some (CN, T, N) := h
  cases h2
  exact ⟨t_Md_ok 1 (by decide), rfl⟩
theorem ty_Md_2 : xm_ty 7 2 (.int) false := fun CN T N h => by
  have h2 : some (R_Md, F_Md, 38) = some (CN, T, N) := h
  cases h2
  exact ⟨t_Md_ok 2 (by decide), rfl⟩
theorem ty_Md_3 : xm_ty 7 3 (.int) false := fun CN T N h => by
  have h2 : some (R_Md, F_Md, 38) = some (CN, T, N) := h
  cases h2
  exact ⟨t_Md_ok 3 (by decide), rfl⟩
theorem ty_Md_4 : xm_ty 7 4 (.int) false := fun CN T N h => by
  have h2 : some (R_Md, F_Md, 38) = some (CN, T, N) := h
  cases h2
  exact ⟨t_Md_ok 4 (by decide), rfl⟩
theorem ty_Md_5 : xm_ty 7 5 (.int) false := fun CN T N h => by
  have h2 : some (R_Md, F_Md, 38) = some (CN, T, N) := h
  cases h2
  exact ⟨t_Md_ok 5 (by decide), rfl⟩
theorem ty_Md_6 : xm_ty 7 6 (.int) false := fun CN T N h => by
  have h2 : some (R_Md, F_Md, 38) = some (CN, T, N) := h
  cases h2
  exact ⟨t_Md_ok 6 (by decide), rfl⟩
theorem ty_Md_7 : xm_ty 7 7 (.array .int) true := fun CN T N h => by
  have h2 : some (R_Md, F_Md, 38) = some (CN, T, N) := h
  cases h2
  exact ⟨t_Md_ok 7 (by decide), rfl⟩
theorem ty_Md_8 : xm_ty 7 8 (.array .int) true := fun CN T N h => by
  have h2 : some (R_Md, F_Md, 38) = some (CN, T, N) := h
  cases h2
  exact ⟨t_Md_ok 8 (by decide), rfl⟩
theorem ty_Md_9 : xm_ty 7 9 (.array .int) true := fun CN T N h => by
  have h2 : some (R_Md, F_Md, 38) = some (CN, T, N) := h
  cases h2
  exact ⟨t_Md_ok 9 (by decide), rfl⟩
theorem ty_Md_10 : xm_ty 7 10 (.array .int) true := fun CN T N h => by
  have h2 : some (R_Md, F_Md, 38) = some (CN, T, N) := h
  cases h2
  exact ⟨t_Md_ok 10 (by decide), rfl⟩
theorem ty_Md_11 : xm_ty 7 11 (.array .int) true := fun CN T N h => by
  have h2 : some (R_Md, F_Md, 38) = some (CN, T, N) := h
  cases h2
  exact ⟨t_Md_ok 11 (by decide), rfl⟩
theorem ty_Md_12 : xm_ty 7 12 (.array .int) true := fun CN T N h => by
  have h2 : some (R_Md, F_Md, 38) = some (CN, T, N) := h
  cases h2
  exact ⟨t_Md_ok 12 (by decide), rfl⟩
theorem ty_Md_13 : xm_ty 7 13 (.array .int) true := fun CN T N h => by
  have h2 : some (R_Md, F_Md, 38) = some (CN, T, N) := h
  cases h2
  exact ⟨t_Md_ok 13 (by decide), rfl⟩
theorem ty_Md_14 : xm_ty 7 14 (.boolean) false := fun CN T N h => by
  have h2 : some (R_Md, F_Md, 38) = some (CN, T, N) := h
  cases h2
  exact ⟨t_Md_ok 14 (by decide), rfl⟩
theorem ty_Md_15 : xm_ty 7 15 (.array .int) true := fun CN T N h => by
  have h2 : some (R_Md, F_Md, 38) = some (CN, T, N) := h
  cases h2
  exact ⟨t_Md_ok 15 (by decide), rfl⟩
theorem ty_Md_16 : xm_ty 7 16 (.array .int) true := fun CN T N h => by
  have h2 : some (R_Md, F_Md, 38) = some (CN, T, N) := h
  cases h2
  exact ⟨t_Md_ok 16 (by decide), rfl⟩
theorem ty_Md_17 : xm_ty 7 17 (.array .int) true := fun CN T N h => by
  have h2 : some (R_Md, F_Md, 38) = some (CN, T, N) := h
  cases h2
  exact ⟨t_Md_ok 17 (by decide), rfl⟩
theorem ty_Md_18 : xm_ty 7 18 (.array .int) true := fun CN T N h => by
  have h2 : some (R_Md, F_Md, 38) = some (CN, T, N) := h
  cases h2
  exact ⟨t_Md_ok 18 (by decide), rfl⟩
theorem ty_Md_19 : xm_ty 7 19 (.array .int) true := fun CN T N h => by
  have h2 : some (R_Md, F_Md, 38) = some (CN, T, N) := h
  cases h2
  exact ⟨t_Md_ok 19 (by decide), rfl⟩
theorem ty_Md_20 : xm_ty 7 20 (.array .int) true := fun CN T N h => by
  have h2 : some (R_Md, F_Md, 38) = some (CN, T, N) := h
  cases h2
  exact ⟨t_Md_ok 20 (by decide), rfl⟩
theorem ty_Md_21 : xm_ty 7 21 (.array .boolean) true := fun CN T N h => by
  have h2 : some (R_Md, F_Md, 38) = some (CN, T, N) := h
  cases h2
  exact ⟨t_Md_ok 21 (by decide), rfl⟩
theorem ty_Md_22 : xm_ty 7 22 (.array .int) true := fun CN T N h => by
  have h2 : some (R_Md, F_Md, 38) = some (CN, T, N) := h
  cases h2
  exact ⟨t_Md_ok 22 (by decide), rfl⟩
theorem ty_Md_23 : xm_ty 7 23 (.array .int) true := fun CN T N h => by
  have h2 : some (R_Md, F_Md, 38) = some (CN, T, N) := h
  cases h2
  exact ⟨t_Md_ok 23 (by decide), rfl⟩
theorem ty_Md_24 : xm_ty 7 24 (.array .int) true := fun CN T N h => by
  have h2 : some (R_Md, F_Md, 38) = some (CN, T, N) := h
  cases h2
  exact ⟨t_Md_ok 24 (by decide), rfl⟩
theorem ty_Md_25 : xm_ty 7 25 (.array .int) true := fun CN T N h => by
  have h2 : some (R_Md, F_Md, 38) = some (CN, T, N) := h
  cases h2
  exact ⟨t_Md_ok 25 (by decide), rfl⟩
theorem ty_Md_26 : xm_ty 7 26 (.int) false := fun CN T N h => by
  have h2 : some (R_Md, F_Md, 38) = some (CN, T, N) := h
  cases h2
  exact ⟨t_Md_ok 26 (by decide), rfl⟩
theorem ty_Md_27 : xm_ty 7 27 (.array .boolean) true := fun CN T N h => by
  have h2 : some (R_Md, F_Md, 38) = some (CN, T, N) := h
  cases h2
  exact ⟨t_Md_ok 27 (by decide), rfl⟩
theorem ty_Md_28 : xm_ty 7 28 (.array .boolean) true := fun CN T N h => by
  have h2 : some (R_Md, F_Md, 38) = some (CN, T, N) := h
  cases h2
  exact ⟨t_Md_ok 28 (by decide), rfl⟩
theorem ty_Md_29 : xm_ty 7 29 (.array .int) true := fun CN T N h => by
  have h2 : some (R_Md, F_Md, 38) = some (CN, T, N) := h
  cases h2
  exact ⟨t_Md_ok 29 (by decide), rfl⟩
theorem ty_Md_30 : xm_ty 7 30 (.array .int) true := fun CN T N h => by
  have h2 : some (R_Md, F_Md, 38) = some (CN, T, N) := h
  cases h2
  exact ⟨t_Md_ok 30 (by decide), rfl⟩
theorem ty_Md_31 : xm_ty 7 31 (.array .int) true := fun CN T N h => by
  have h2 : some (R_Md, F_Md, 38) = some (CN, T, N) := h
  cases h2
  exact ⟨t_Md_ok 31 (by decide), rfl⟩
theorem ty_Md_32 : xm_ty 7 32 (.boolean) false := fun CN T N h => by
  have h2 : some (R_Md, F_Md, 38) = some (CN, T, N) := h
  cases h2
  exact ⟨t_Md_ok 32 (by decide), rfl⟩
theorem ty_Md_33 : xm_ty 7 33 (.int) false := fun CN T N h => by
  have h2 : some (R_Md, F_Md, 38) = some (CN, T, N) := h
  cases h2
  exact ⟨t_Md_ok 33 (by decide), rfl⟩
theorem ty_Md_34 : xm_ty 7 34 (.array .int) true := fun CN T N h => by
  have h2 : some (R_Md, F_Md, 38) = some (CN, T, N) := h
  cases h2
  exact ⟨t_Md_ok 34 (by decide), rfl⟩
theorem ty_Md_35 : xm_ty 7 35 (.array .int) true := fun CN T N h => by
  have h2 : some (R_Md, F_Md, 38) = some (CN, T, N) := h
  cases h2
  exact ⟨t_Md_ok 35 (by decide), rfl⟩
theorem ty_Md_36 : xm_ty 7 36 (.array .int) true := fun CN T N h => by
  have h2 : some (R_Md, F_Md, 38) = some (CN, T, N) := h
  cases h2
  exact ⟨t_Md_ok 36 (by decide), rfl⟩
theorem ty_Md_37 : xm_ty 7 37 (.array .int) true := fun CN T N h => by
  have h2 : some (R_Md, F_Md, 38) = some (CN, T, N) := h
  cases h2
  exact ⟨t_Md_ok 37 (by decide), rfl⟩
