/-! Words of the law; rows of its method cell. -/
def y_LW_cell : MethodName := ⟨"TwoSlotsLaw", "cell", "([II)I"⟩
abbrev b_LW_cell : ByteArray := method_2_code
theorem tc_LW_cell : Cond.code y_LW_cell b_LW_cell 2 (some .int) ∈ TB := mem_tb (i := 532) (by decide +kernel) rfl
theorem ts_LW_cell : Cond.static y_LW_cell ∈ TB := mem_tb (i := 531) (by decide +kernel) rfl
theorem ti_LW : Cond.initialized "TwoSlotsLaw" ∈ TB := mem_tb (i := 40) (by decide +kernel) rfl
theorem tk_LW_7 : Cond.classLink "TwoSlotsLaw" 7 "TwoSlots" ∈ TB := mem_tb (i := 51) (by decide +kernel) rfl
theorem tk_LW_18 : Cond.classLink "TwoSlotsLaw" 18 "TwoSlotsModel" ∈ TB := mem_tb (i := 533) (by decide +kernel) rfl
theorem tn_TS : Cond.instantiable "TwoSlots" 16 ∈ TB := mem_tb (i := 52) (by decide +kernel) rfl
theorem tn_MO : Cond.instantiable "TwoSlotsModel" 19 ∈ TB := mem_tb (i := 534) (by decide +kernel) rfl
theorem tl_LW_15 : Cond.methodLink "TwoSlotsLaw" 15 y_TS_init ∈ TB := mem_tb (i := 53) (by decide +kernel) rfl
theorem tv_TS_init : Cond.instanceMethod y_TS_init ∈ TB := mem_tb (i := 54) (by decide +kernel) rfl
theorem tl_LW_21 : Cond.methodLink "TwoSlotsLaw" 21 y_TS_make ∈ TB := mem_tb (i := 308) (by decide +kernel) rfl
theorem tv_TS_make : Cond.instanceMethod y_TS_make ∈ TB := mem_tb (i := 309) (by decide +kernel) rfl
theorem tx_TS_make : Cond.selects "TwoSlots" y_TS_make y_TS_make ∈ TB := mem_tb (i := 310) (by decide +kernel) rfl
theorem tl_LW_26 : Cond.methodLink "TwoSlotsLaw" 26 y_TS_pack ∈ TB := mem_tb (i := 312) (by decide +kernel) rfl
theorem tv_TS_pack : Cond.instanceMethod y_TS_pack ∈ TB := mem_tb (i := 313) (by decide +kernel) rfl
theorem tx_TS_pack : Cond.selects "TwoSlots" y_TS_pack y_TS_pack ∈ TB := mem_tb (i := 314) (by decide +kernel) rfl
theorem tl_LW_31 : Cond.methodLink "TwoSlotsLaw" 31 y_TS_alter ∈ TB := mem_tb (i := 328) (by decide +kernel) rfl
theorem tv_TS_alter : Cond.instanceMethod y_TS_alter ∈ TB := mem_tb (i := 329) (by decide +kernel) rfl
theorem tx_TS_alter : Cond.selects "TwoSlots" y_TS_alter y_TS_alter ∈ TB := mem_tb (i := 330) (by decide +kernel) rfl
theorem tl_LW_36 : Cond.methodLink "TwoSlotsLaw" 36 y_TS_offer ∈ TB := mem_tb (i := 332) (by decide +kernel) rfl
theorem tv_TS_offer : Cond.instanceMethod y_TS_offer ∈ TB := mem_tb (i := 333) (by decide +kernel) rfl
theorem tx_TS_offer : Cond.selects "TwoSlots" y_TS_offer y_TS_offer ∈ TB := mem_tb (i := 334) (by decide +kernel) rfl
theorem tl_LW_41 : Cond.methodLink "TwoSlotsLaw" 41 y_TS_block ∈ TB := mem_tb (i := 402) (by decide +kernel) rfl
theorem tv_TS_block : Cond.instanceMethod y_TS_block ∈ TB := mem_tb (i := 403) (by decide +kernel) rfl
theorem tx_TS_block : Cond.selects "TwoSlots" y_TS_block y_TS_block ∈ TB := mem_tb (i := 404) (by decide +kernel) rfl
theorem tl_LW_45 : Cond.methodLink "TwoSlotsLaw" 45 y_TS_finish ∈ TB := mem_tb (i := 415) (by decide +kernel) rfl
theorem tv_TS_finish : Cond.instanceMethod y_TS_finish ∈ TB := mem_tb (i := 416) (by decide +kernel) rfl
theorem tx_TS_finish : Cond.selects "TwoSlots" y_TS_finish y_TS_finish ∈ TB := mem_tb (i := 417) (by decide +kernel) rfl
theorem tl_LW_49 : Cond.methodLink "TwoSlotsLaw" 49 y_TS_boot ∈ TB := mem_tb (i := 442) (by decide +kernel) rfl
theorem tv_TS_boot : Cond.instanceMethod y_TS_boot ∈ TB := mem_tb (i := 443) (by decide +kernel) rfl
theorem tx_TS_boot : Cond.selects "TwoSlots" y_TS_boot y_TS_boot ∈ TB := mem_tb (i := 444) (by decide +kernel) rfl
theorem tl_LW_53 : Cond.methodLink "TwoSlotsLaw" 53 y_TS_confirm ∈ TB := mem_tb (i := 470) (by decide +kernel) rfl
theorem tv_TS_confirm : Cond.instanceMethod y_TS_confirm ∈ TB := mem_tb (i := 471) (by decide +kernel) rfl
theorem tx_TS_confirm : Cond.selects "TwoSlots" y_TS_confirm y_TS_confirm ∈ TB := mem_tb (i := 472) (by decide +kernel) rfl
theorem tl_LW_57 : Cond.methodLink "TwoSlotsLaw" 57 y_TS_tick ∈ TB := mem_tb (i := 478) (by decide +kernel) rfl
theorem tv_TS_tick : Cond.instanceMethod y_TS_tick ∈ TB := mem_tb (i := 479) (by decide +kernel) rfl
theorem tx_TS_tick : Cond.selects "TwoSlots" y_TS_tick y_TS_tick ∈ TB := mem_tb (i := 480) (by decide +kernel) rfl
theorem tl_LW_61 : Cond.methodLink "TwoSlotsLaw" 61 y_TS_revoke ∈ TB := mem_tb (i := 482) (by decide +kernel) rfl
theorem tv_TS_revoke : Cond.instanceMethod y_TS_revoke ∈ TB := mem_tb (i := 483) (by decide +kernel) rfl
theorem tx_TS_revoke : Cond.selects "TwoSlots" y_TS_revoke y_TS_revoke ∈ TB := mem_tb (i := 484) (by decide +kernel) rfl
theorem tl_LW_65 : Cond.methodLink "TwoSlotsLaw" 65 y_TS_cut ∈ TB := mem_tb (i := 490) (by decide +kernel) rfl
theorem tv_TS_cut : Cond.instanceMethod y_TS_cut ∈ TB := mem_tb (i := 491) (by decide +kernel) rfl
theorem tx_TS_cut : Cond.selects "TwoSlots" y_TS_cut y_TS_cut ∈ TB := mem_tb (i := 492) (by decide +kernel) rfl
theorem tl_LW_69 : Cond.methodLink "TwoSlotsLaw" 69 y_TS_start ∈ TB := mem_tb (i := 494) (by decide +kernel) rfl
theorem tv_TS_start : Cond.instanceMethod y_TS_start ∈ TB := mem_tb (i := 495) (by decide +kernel) rfl
theorem tx_TS_start : Cond.selects "TwoSlots" y_TS_start y_TS_start ∈ TB := mem_tb (i := 496) (by decide +kernel) rfl
theorem tl_LW_73 : Cond.methodLink "TwoSlotsLaw" 73 y_TS_rot ∈ TB := mem_tb (i := 498) (by decide +kernel) rfl
theorem tv_TS_rot : Cond.instanceMethod y_TS_rot ∈ TB := mem_tb (i := 499) (by decide +kernel) rfl
theorem tx_TS_rot : Cond.selects "TwoSlots" y_TS_rot y_TS_rot ∈ TB := mem_tb (i := 500) (by decide +kernel) rfl
theorem tl_LW_78 : Cond.methodLink "TwoSlotsLaw" 78 y_TS_octet ∈ TB := mem_tb (i := 506) (by decide +kernel) rfl
theorem tv_TS_octet : Cond.instanceMethod y_TS_octet ∈ TB := mem_tb (i := 507) (by decide +kernel) rfl
theorem tx_TS_octet : Cond.selects "TwoSlots" y_TS_octet y_TS_octet ∈ TB := mem_tb (i := 508) (by decide +kernel) rfl
theorem tl_LW_82 : Cond.methodLink "TwoSlotsLaw" 82 y_TS_running ∈ TB := mem_tb (i := 510) (by decide +kernel) rfl
theorem tv_TS_running : Cond.instanceMethod y_TS_running ∈ TB := mem_tb (i := 511) (by decide +kernel) rfl
theorem tx_TS_running : Cond.selects "TwoSlots" y_TS_running y_TS_running ∈ TB := mem_tb (i := 512) (by decide +kernel) rfl
theorem tl_LW_86 : Cond.methodLink "TwoSlotsLaw" 86 y_TS_watchdog ∈ TB := mem_tb (i := 514) (by decide +kernel) rfl
theorem tv_TS_watchdog : Cond.instanceMethod y_TS_watchdog ∈ TB := mem_tb (i := 515) (by decide +kernel) rfl
theorem tx_TS_watchdog : Cond.selects "TwoSlots" y_TS_watchdog y_TS_watchdog ∈ TB := mem_tb (i := 516) (by decide +kernel) rfl
theorem tl_LW_90 : Cond.methodLink "TwoSlotsLaw" 90 y_TS_slot ∈ TB := mem_tb (i := 518) (by decide +kernel) rfl
theorem tv_TS_slot : Cond.instanceMethod y_TS_slot ∈ TB := mem_tb (i := 519) (by decide +kernel) rfl
theorem tx_TS_slot : Cond.selects "TwoSlots" y_TS_slot y_TS_slot ∈ TB := mem_tb (i := 520) (by decide +kernel) rfl
theorem tl_LW_94 : Cond.methodLink "TwoSlotsLaw" 94 y_TS_record ∈ TB := mem_tb (i := 522) (by decide +kernel) rfl
theorem tv_TS_record : Cond.instanceMethod y_TS_record ∈ TB := mem_tb (i := 523) (by decide +kernel) rfl
theorem tx_TS_record : Cond.selects "TwoSlots" y_TS_record y_TS_record ∈ TB := mem_tb (i := 524) (by decide +kernel) rfl
theorem tl_LW_98 : Cond.methodLink "TwoSlotsLaw" 98 y_TS_count ∈ TB := mem_tb (i := 526) (by decide +kernel) rfl
theorem tv_TS_count : Cond.instanceMethod y_TS_count ∈ TB := mem_tb (i := 527) (by decide +kernel) rfl
theorem tx_TS_count : Cond.selects "TwoSlots" y_TS_count y_TS_count ∈ TB := mem_tb (i := 528) (by decide +kernel) rfl
theorem tl_LW_9 : Cond.methodLink "TwoSlotsLaw" 9 y_LW_cell ∈ TB := mem_tb (i := 530) (by decide +kernel) rfl
theorem tl_LW_20 : Cond.methodLink "TwoSlotsLaw" 20 y_MO_init ∈ TB := mem_tb (i := 535) (by decide +kernel) rfl
theorem tv_MO_init : Cond.instanceMethod y_MO_init ∈ TB := mem_tb (i := 536) (by decide +kernel) rfl
theorem tl_LW_25 : Cond.methodLink "TwoSlotsLaw" 25 y_MO_make ∈ TB := mem_tb (i := 620) (by decide +kernel) rfl
theorem tv_MO_make : Cond.instanceMethod y_MO_make ∈ TB := mem_tb (i := 621) (by decide +kernel) rfl
theorem tx_MO_make : Cond.selects "TwoSlotsModel" y_MO_make y_MO_make ∈ TB := mem_tb (i := 622) (by decide +kernel) rfl
theorem tl_LW_30 : Cond.methodLink "TwoSlotsLaw" 30 y_MO_pack ∈ TB := mem_tb (i := 629) (by decide +kernel) rfl
theorem tv_MO_pack : Cond.instanceMethod y_MO_pack ∈ TB := mem_tb (i := 630) (by decide +kernel) rfl
theorem tx_MO_pack : Cond.selects "TwoSlotsModel" y_MO_pack y_MO_pack ∈ TB := mem_tb (i := 631) (by decide +kernel) rfl
theorem tl_LW_35 : Cond.methodLink "TwoSlotsLaw" 35 y_MO_alter ∈ TB := mem_tb (i := 638) (by decide +kernel) rfl
theorem tv_MO_alter : Cond.instanceMethod y_MO_alter ∈ TB := mem_tb (i := 639) (by decide +kernel) rfl
theorem tx_MO_alter : Cond.selects "TwoSlotsModel" y_MO_alter y_MO_alter ∈ TB := mem_tb (i := 640) (by decide +kernel) rfl
theorem tl_LW_40 : Cond.methodLink "TwoSlotsLaw" 40 y_MO_offer ∈ TB := mem_tb (i := 642) (by decide +kernel) rfl
theorem tv_MO_offer : Cond.instanceMethod y_MO_offer ∈ TB := mem_tb (i := 643) (by decide +kernel) rfl
theorem tx_MO_offer : Cond.selects "TwoSlotsModel" y_MO_offer y_MO_offer ∈ TB := mem_tb (i := 644) (by decide +kernel) rfl
theorem tl_LW_44 : Cond.methodLink "TwoSlotsLaw" 44 y_MO_block ∈ TB := mem_tb (i := 685) (by decide +kernel) rfl
theorem tv_MO_block : Cond.instanceMethod y_MO_block ∈ TB := mem_tb (i := 686) (by decide +kernel) rfl
theorem tx_MO_block : Cond.selects "TwoSlotsModel" y_MO_block y_MO_block ∈ TB := mem_tb (i := 687) (by decide +kernel) rfl
theorem tl_LW_48 : Cond.methodLink "TwoSlotsLaw" 48 y_MO_finish ∈ TB := mem_tb (i := 697) (by decide +kernel) rfl
theorem tv_MO_finish : Cond.instanceMethod y_MO_finish ∈ TB := mem_tb (i := 698) (by decide +kernel) rfl
theorem tx_MO_finish : Cond.selects "TwoSlotsModel" y_MO_finish y_MO_finish ∈ TB := mem_tb (i := 699) (by decide +kernel) rfl
theorem tl_LW_52 : Cond.methodLink "TwoSlotsLaw" 52 y_MO_boot ∈ TB := mem_tb (i := 714) (by decide +kernel) rfl
theorem tv_MO_boot : Cond.instanceMethod y_MO_boot ∈ TB := mem_tb (i := 715) (by decide +kernel) rfl
theorem tx_MO_boot : Cond.selects "TwoSlotsModel" y_MO_boot y_MO_boot ∈ TB := mem_tb (i := 716) (by decide +kernel) rfl
theorem tl_LW_56 : Cond.methodLink "TwoSlotsLaw" 56 y_MO_confirm ∈ TB := mem_tb (i := 726) (by decide +kernel) rfl
theorem tv_MO_confirm : Cond.instanceMethod y_MO_confirm ∈ TB := mem_tb (i := 727) (by decide +kernel) rfl
theorem tx_MO_confirm : Cond.selects "TwoSlotsModel" y_MO_confirm y_MO_confirm ∈ TB := mem_tb (i := 728) (by decide +kernel) rfl
theorem tl_LW_60 : Cond.methodLink "TwoSlotsLaw" 60 y_MO_tick ∈ TB := mem_tb (i := 730) (by decide +kernel) rfl
theorem tv_MO_tick : Cond.instanceMethod y_MO_tick ∈ TB := mem_tb (i := 731) (by decide +kernel) rfl
theorem tx_MO_tick : Cond.selects "TwoSlotsModel" y_MO_tick y_MO_tick ∈ TB := mem_tb (i := 732) (by decide +kernel) rfl
theorem tl_LW_64 : Cond.methodLink "TwoSlotsLaw" 64 y_MO_revoke ∈ TB := mem_tb (i := 735) (by decide +kernel) rfl
theorem tv_MO_revoke : Cond.instanceMethod y_MO_revoke ∈ TB := mem_tb (i := 736) (by decide +kernel) rfl
theorem tx_MO_revoke : Cond.selects "TwoSlotsModel" y_MO_revoke y_MO_revoke ∈ TB := mem_tb (i := 737) (by decide +kernel) rfl
theorem tl_LW_68 : Cond.methodLink "TwoSlotsLaw" 68 y_MO_cut ∈ TB := mem_tb (i := 739) (by decide +kernel) rfl
theorem tv_MO_cut : Cond.instanceMethod y_MO_cut ∈ TB := mem_tb (i := 740) (by decide +kernel) rfl
theorem tx_MO_cut : Cond.selects "TwoSlotsModel" y_MO_cut y_MO_cut ∈ TB := mem_tb (i := 741) (by decide +kernel) rfl
theorem tl_LW_72 : Cond.methodLink "TwoSlotsLaw" 72 y_MO_start ∈ TB := mem_tb (i := 745) (by decide +kernel) rfl
theorem tv_MO_start : Cond.instanceMethod y_MO_start ∈ TB := mem_tb (i := 746) (by decide +kernel) rfl
theorem tx_MO_start : Cond.selects "TwoSlotsModel" y_MO_start y_MO_start ∈ TB := mem_tb (i := 747) (by decide +kernel) rfl
theorem tl_LW_77 : Cond.methodLink "TwoSlotsLaw" 77 y_MO_rot ∈ TB := mem_tb (i := 749) (by decide +kernel) rfl
theorem tv_MO_rot : Cond.instanceMethod y_MO_rot ∈ TB := mem_tb (i := 750) (by decide +kernel) rfl
theorem tx_MO_rot : Cond.selects "TwoSlotsModel" y_MO_rot y_MO_rot ∈ TB := mem_tb (i := 751) (by decide +kernel) rfl
theorem tl_LW_81 : Cond.methodLink "TwoSlotsLaw" 81 y_MO_octet ∈ TB := mem_tb (i := 756) (by decide +kernel) rfl
theorem tv_MO_octet : Cond.instanceMethod y_MO_octet ∈ TB := mem_tb (i := 757) (by decide +kernel) rfl
theorem tx_MO_octet : Cond.selects "TwoSlotsModel" y_MO_octet y_MO_octet ∈ TB := mem_tb (i := 758) (by decide +kernel) rfl
theorem tl_LW_85 : Cond.methodLink "TwoSlotsLaw" 85 y_MO_running ∈ TB := mem_tb (i := 760) (by decide +kernel) rfl
theorem tv_MO_running : Cond.instanceMethod y_MO_running ∈ TB := mem_tb (i := 761) (by decide +kernel) rfl
theorem tx_MO_running : Cond.selects "TwoSlotsModel" y_MO_running y_MO_running ∈ TB := mem_tb (i := 762) (by decide +kernel) rfl
theorem tl_LW_89 : Cond.methodLink "TwoSlotsLaw" 89 y_MO_watchdog ∈ TB := mem_tb (i := 764) (by decide +kernel) rfl
theorem tv_MO_watchdog : Cond.instanceMethod y_MO_watchdog ∈ TB := mem_tb (i := 765) (by decide +kernel) rfl
theorem tx_MO_watchdog : Cond.selects "TwoSlotsModel" y_MO_watchdog y_MO_watchdog ∈ TB := mem_tb (i := 766) (by decide +kernel) rfl
theorem tl_LW_93 : Cond.methodLink "TwoSlotsLaw" 93 y_MO_slot ∈ TB := mem_tb (i := 768) (by decide +kernel) rfl
theorem tv_MO_slot : Cond.instanceMethod y_MO_slot ∈ TB := mem_tb (i := 769) (by decide +kernel) rfl
theorem tx_MO_slot : Cond.selects "TwoSlotsModel" y_MO_slot y_MO_slot ∈ TB := mem_tb (i := 770) (by decide +kernel) rfl
theorem tl_LW_97 : Cond.methodLink "TwoSlotsLaw" 97 y_MO_record ∈ TB := mem_tb (i := 773) (by decide +kernel) rfl
theorem tv_MO_record : Cond.instanceMethod y_MO_record ∈ TB := mem_tb (i := 774) (by decide +kernel) rfl
theorem tx_MO_record : Cond.selects "TwoSlotsModel" y_MO_record y_MO_record ∈ TB := mem_tb (i := 775) (by decide +kernel) rfl
theorem tl_LW_101 : Cond.methodLink "TwoSlotsLaw" 101 y_MO_count ∈ TB := mem_tb (i := 778) (by decide +kernel) rfl
theorem tv_MO_count : Cond.instanceMethod y_MO_count ∈ TB := mem_tb (i := 779) (by decide +kernel) rfl
theorem tx_MO_count : Cond.selects "TwoSlotsModel" y_MO_count y_MO_count ∈ TB := mem_tb (i := 780) (by decide +kernel) rfl
theorem d_LW_cell_0 : decode b_LW_cell 0 = .ok (.iload_n 1, 1) := by decide +kernel
theorem d_LW_cell_1 : decode b_LW_cell 1 = .ok (.aload_n 0, 1) := by decide +kernel
theorem d_LW_cell_2 : decode b_LW_cell 2 = .ok (.arraylength, 1) := by decide +kernel
theorem d_LW_cell_3 : decode b_LW_cell 3 = .ok (.if_icmp .ge 9, 3) := by decide +kernel
theorem d_LW_cell_6 : decode b_LW_cell 6 = .ok (.aload_n 0, 1) := by decide +kernel
theorem d_LW_cell_7 : decode b_LW_cell 7 = .ok (.iload_n 1, 1) := by decide +kernel
theorem d_LW_cell_8 : decode b_LW_cell 8 = .ok (.iaload, 1) := by decide +kernel
theorem d_LW_cell_9 : decode b_LW_cell 9 = .ok (.goto 4, 3) := by decide +kernel
theorem d_LW_cell_12 : decode b_LW_cell 12 = .ok (.iconst 0, 1) := by decide +kernel
theorem d_LW_cell_13 : decode b_LW_cell 13 = .ok (.ireturn, 1) := by decide +kernel
