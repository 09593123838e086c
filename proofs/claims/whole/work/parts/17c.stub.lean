/-! stub -/
theorem fl_R0 : fl_R 0 8192 := sorry
theorem fl_R1 : fl_R 8192 16384 := sorry
theorem fl_R2 : fl_R 16384 24576 := sorry
theorem fl_R3 : fl_R 24576 32768 := sorry
theorem fl_R4 : fl_R 32768 40960 := sorry
theorem fl_R5 : fl_R 40960 49152 := sorry
theorem fl_R6 : fl_R 49152 57344 := sorry
theorem fl_R7 : fl_R 57344 65536 := sorry
