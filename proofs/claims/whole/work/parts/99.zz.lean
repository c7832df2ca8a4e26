/-! end of what stands so far -/
