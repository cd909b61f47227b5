theorem am_tiny : True := trivial
